set_option maxHeartbeats 4000000 in
set_option maxRecDepth 100000 in
theorem c_bitCount30 {l : Launch} {M : Mem} {Pq : Option gV → Mem → Prop} (x : Int) (h1 : 0 ≤ x) (h2 : x < 1073741824) (hQ : Pq (some (gI (sz x))) M) : gCtr l my_J6_bitCount_0f7a4 mb_J6_bitCount_0f7a4 1 ((some .int)) 1 [gI x] M Pq := by
  refine g_intro (by decide) (Nat.le_of_ble_eq_true rfl) ?_
  intro p e s m args below meth c D cy q A hK hr hlocks hw
  refine g_sub (L' := [(0, gI x)]) [0] rfl ?_
  refine g_iloadn (pc := 0) (i := 0) (x := x) hK dd_J6_bitCount_0f7a4_0 rfl rfl ?_
  refine g_iloadn (pc := 1) (i := 0) (x := x) hK dd_J6_bitCount_0f7a4_1 rfl rfl ?_
  refine g_iconst (pc := 2) (x := 1) hK dd_J6_bitCount_0f7a4_2 (by decide) ?_
  refine g_iushr (pc := 3) (z := jushr x 1) hK dd_J6_bitCount_0f7a4_3 rfl ?_
  refine g_ldcw (pc := 4) (x := 1431655765) hK kk_510 dd_J6_bitCount_0f7a4_4 (by decide) ?_
  refine g_iand (pc := 7) (z := jand (jushr x 1) 1431655765) hK dd_J6_bitCount_0f7a4_7 rfl ?_
  refine g_isub (pc := 8) (z := x - (jand (jushr x 1) 1431655765)) hK dd_J6_bitCount_0f7a4_8 rfl ?_
  refine g_istoren (pc := 9) (i := 0) (L' := [(0, gI (x - (jand (jushr x 1) 1431655765)))]) hK dd_J6_bitCount_0f7a4_9 rfl (by decide) rfl ?_
  refine g_iloadn (pc := 10) (i := 0) (x := x - (jand (jushr x 1) 1431655765)) hK dd_J6_bitCount_0f7a4_10 rfl rfl ?_
  refine g_ldcw (pc := 11) (x := 858993459) hK kk_511 dd_J6_bitCount_0f7a4_11 (by decide) ?_
  refine g_iand (pc := 14) (z := jand (x - (jand (jushr x 1) 1431655765)) 858993459) hK dd_J6_bitCount_0f7a4_14 rfl ?_
  refine g_iloadn (pc := 15) (i := 0) (x := x - (jand (jushr x 1) 1431655765)) hK dd_J6_bitCount_0f7a4_15 rfl rfl ?_
  refine g_iconst (pc := 16) (x := 2) hK dd_J6_bitCount_0f7a4_16 (by decide) ?_
  refine g_iushr (pc := 17) (z := jushr (x - (jand (jushr x 1) 1431655765)) 2) hK dd_J6_bitCount_0f7a4_17 rfl ?_
  refine g_ldcw (pc := 18) (x := 858993459) hK kk_511 dd_J6_bitCount_0f7a4_18 (by decide) ?_
  refine g_iand (pc := 21) (z := jand (jushr (x - (jand (jushr x 1) 1431655765)) 2) 858993459) hK dd_J6_bitCount_0f7a4_21 rfl ?_
  refine g_iadd (pc := 22) (z := (jand (x - (jand (jushr x 1) 1431655765)) 858993459) + (jand (jushr (x - (jand (jushr x 1) 1431655765)) 2) 858993459)) hK dd_J6_bitCount_0f7a4_22 rfl ?_
  refine g_istoren (pc := 23) (i := 0) (L' := [(0, gI ((jand (x - (jand (jushr x 1) 1431655765)) 858993459) + (jand (jushr (x - (jand (jushr x 1) 1431655765)) 2) 858993459)))]) hK dd_J6_bitCount_0f7a4_23 rfl (by decide) rfl ?_
  refine g_iloadn (pc := 24) (i := 0) (x := (jand (x - (jand (jushr x 1) 1431655765)) 858993459) + (jand (jushr (x - (jand (jushr x 1) 1431655765)) 2) 858993459)) hK dd_J6_bitCount_0f7a4_24 rfl rfl ?_
  refine g_iloadn (pc := 25) (i := 0) (x := (jand (x - (jand (jushr x 1) 1431655765)) 858993459) + (jand (jushr (x - (jand (jushr x 1) 1431655765)) 2) 858993459)) hK dd_J6_bitCount_0f7a4_25 rfl rfl ?_
  refine g_iconst (pc := 26) (x := 4) hK dd_J6_bitCount_0f7a4_26 (by decide) ?_
  refine g_iushr (pc := 27) (z := jushr ((jand (x - (jand (jushr x 1) 1431655765)) 858993459) + (jand (jushr (x - (jand (jushr x 1) 1431655765)) 2) 858993459)) 4) hK dd_J6_bitCount_0f7a4_27 rfl ?_
  refine g_iadd (pc := 28) (z := ((jand (x - (jand (jushr x 1) 1431655765)) 858993459) + (jand (jushr (x - (jand (jushr x 1) 1431655765)) 2) 858993459)) + (jushr ((jand (x - (jand (jushr x 1) 1431655765)) 858993459) + (jand (jushr (x - (jand (jushr x 1) 1431655765)) 2) 858993459)) 4)) hK dd_J6_bitCount_0f7a4_28 rfl ?_
  refine g_ldcw (pc := 29) (x := 252645135) hK kk_512 dd_J6_bitCount_0f7a4_29 (by decide) ?_
  refine g_iand (pc := 32) (z := jand (((jand (x - (jand (jushr x 1) 1431655765)) 858993459) + (jand (jushr (x - (jand (jushr x 1) 1431655765)) 2) 858993459)) + (jushr ((jand (x - (jand (jushr x 1) 1431655765)) 858993459) + (jand (jushr (x - (jand (jushr x 1) 1431655765)) 2) 858993459)) 4)) 252645135) hK dd_J6_bitCount_0f7a4_32 rfl ?_
  refine g_istoren (pc := 33) (i := 0) (L' := [(0, gI (jand (((jand (x - (jand (jushr x 1) 1431655765)) 858993459) + (jand (jushr (x - (jand (jushr x 1) 1431655765)) 2) 858993459)) + (jushr ((jand (x - (jand (jushr x 1) 1431655765)) 858993459) + (jand (jushr (x - (jand (jushr x 1) 1431655765)) 2) 858993459)) 4)) 252645135))]) hK dd_J6_bitCount_0f7a4_33 rfl (by decide) rfl ?_
  refine g_iloadn (pc := 34) (i := 0) (x := jand (((jand (x - (jand (jushr x 1) 1431655765)) 858993459) + (jand (jushr (x - (jand (jushr x 1) 1431655765)) 2) 858993459)) + (jushr ((jand (x - (jand (jushr x 1) 1431655765)) 858993459) + (jand (jushr (x - (jand (jushr x 1) 1431655765)) 2) 858993459)) 4)) 252645135) hK dd_J6_bitCount_0f7a4_34 rfl rfl ?_
  refine g_iloadn (pc := 35) (i := 0) (x := jand (((jand (x - (jand (jushr x 1) 1431655765)) 858993459) + (jand (jushr (x - (jand (jushr x 1) 1431655765)) 2) 858993459)) + (jushr ((jand (x - (jand (jushr x 1) 1431655765)) 858993459) + (jand (jushr (x - (jand (jushr x 1) 1431655765)) 2) 858993459)) 4)) 252645135) hK dd_J6_bitCount_0f7a4_35 rfl rfl ?_
  refine g_bipush (pc := 36) (x := 8) hK dd_J6_bitCount_0f7a4_36 (by decide) ?_
  refine g_iushr (pc := 38) (z := jushr (jand (((jand (x - (jand (jushr x 1) 1431655765)) 858993459) + (jand (jushr (x - (jand (jushr x 1) 1431655765)) 2) 858993459)) + (jushr ((jand (x - (jand (jushr x 1) 1431655765)) 858993459) + (jand (jushr (x - (jand (jushr x 1) 1431655765)) 2) 858993459)) 4)) 252645135) 8) hK dd_J6_bitCount_0f7a4_38 rfl ?_
  refine g_iadd (pc := 39) (z := (jand (((jand (x - (jand (jushr x 1) 1431655765)) 858993459) + (jand (jushr (x - (jand (jushr x 1) 1431655765)) 2) 858993459)) + (jushr ((jand (x - (jand (jushr x 1) 1431655765)) 858993459) + (jand (jushr (x - (jand (jushr x 1) 1431655765)) 2) 858993459)) 4)) 252645135) + (jushr (jand (((jand (x - (jand (jushr x 1) 1431655765)) 858993459) + (jand (jushr (x - (jand (jushr x 1) 1431655765)) 2) 858993459)) + (jushr ((jand (x - (jand (jushr x 1) 1431655765)) 858993459) + (jand (jushr (x - (jand (jushr x 1) 1431655765)) 2) 858993459)) 4)) 252645135) 8)) hK dd_J6_bitCount_0f7a4_39 rfl ?_
  refine g_istoren (pc := 40) (i := 0) (L' := [(0, gI ((jand (((jand (x - (jand (jushr x 1) 1431655765)) 858993459) + (jand (jushr (x - (jand (jushr x 1) 1431655765)) 2) 858993459)) + (jushr ((jand (x - (jand (jushr x 1) 1431655765)) 858993459) + (jand (jushr (x - (jand (jushr x 1) 1431655765)) 2) 858993459)) 4)) 252645135) + (jushr (jand (((jand (x - (jand (jushr x 1) 1431655765)) 858993459) + (jand (jushr (x - (jand (jushr x 1) 1431655765)) 2) 858993459)) + (jushr ((jand (x - (jand (jushr x 1) 1431655765)) 858993459) + (jand (jushr (x - (jand (jushr x 1) 1431655765)) 2) 858993459)) 4)) 252645135) 8)))]) hK dd_J6_bitCount_0f7a4_40 rfl (by decide) rfl ?_
  refine g_iloadn (pc := 41) (i := 0) (x := (jand (((jand (x - (jand (jushr x 1) 1431655765)) 858993459) + (jand (jushr (x - (jand (jushr x 1) 1431655765)) 2) 858993459)) + (jushr ((jand (x - (jand (jushr x 1) 1431655765)) 858993459) + (jand (jushr (x - (jand (jushr x 1) 1431655765)) 2) 858993459)) 4)) 252645135) + (jushr (jand (((jand (x - (jand (jushr x 1) 1431655765)) 858993459) + (jand (jushr (x - (jand (jushr x 1) 1431655765)) 2) 858993459)) + (jushr ((jand (x - (jand (jushr x 1) 1431655765)) 858993459) + (jand (jushr (x - (jand (jushr x 1) 1431655765)) 2) 858993459)) 4)) 252645135) 8)) hK dd_J6_bitCount_0f7a4_41 rfl rfl ?_
  refine g_iloadn (pc := 42) (i := 0) (x := (jand (((jand (x - (jand (jushr x 1) 1431655765)) 858993459) + (jand (jushr (x - (jand (jushr x 1) 1431655765)) 2) 858993459)) + (jushr ((jand (x - (jand (jushr x 1) 1431655765)) 858993459) + (jand (jushr (x - (jand (jushr x 1) 1431655765)) 2) 858993459)) 4)) 252645135) + (jushr (jand (((jand (x - (jand (jushr x 1) 1431655765)) 858993459) + (jand (jushr (x - (jand (jushr x 1) 1431655765)) 2) 858993459)) + (jushr ((jand (x - (jand (jushr x 1) 1431655765)) 858993459) + (jand (jushr (x - (jand (jushr x 1) 1431655765)) 2) 858993459)) 4)) 252645135) 8)) hK dd_J6_bitCount_0f7a4_42 rfl rfl ?_
  refine g_bipush (pc := 43) (x := 16) hK dd_J6_bitCount_0f7a4_43 (by decide) ?_
  refine g_iushr (pc := 45) (z := jushr ((jand (((jand (x - (jand (jushr x 1) 1431655765)) 858993459) + (jand (jushr (x - (jand (jushr x 1) 1431655765)) 2) 858993459)) + (jushr ((jand (x - (jand (jushr x 1) 1431655765)) 858993459) + (jand (jushr (x - (jand (jushr x 1) 1431655765)) 2) 858993459)) 4)) 252645135) + (jushr (jand (((jand (x - (jand (jushr x 1) 1431655765)) 858993459) + (jand (jushr (x - (jand (jushr x 1) 1431655765)) 2) 858993459)) + (jushr ((jand (x - (jand (jushr x 1) 1431655765)) 858993459) + (jand (jushr (x - (jand (jushr x 1) 1431655765)) 2) 858993459)) 4)) 252645135) 8)) 16) hK dd_J6_bitCount_0f7a4_45 rfl ?_
  refine g_iadd (pc := 46) (z := ((jand (((jand (x - (jand (jushr x 1) 1431655765)) 858993459) + (jand (jushr (x - (jand (jushr x 1) 1431655765)) 2) 858993459)) + (jushr ((jand (x - (jand (jushr x 1) 1431655765)) 858993459) + (jand (jushr (x - (jand (jushr x 1) 1431655765)) 2) 858993459)) 4)) 252645135) + (jushr (jand (((jand (x - (jand (jushr x 1) 1431655765)) 858993459) + (jand (jushr (x - (jand (jushr x 1) 1431655765)) 2) 858993459)) + (jushr ((jand (x - (jand (jushr x 1) 1431655765)) 858993459) + (jand (jushr (x - (jand (jushr x 1) 1431655765)) 2) 858993459)) 4)) 252645135) 8)) + (jushr ((jand (((jand (x - (jand (jushr x 1) 1431655765)) 858993459) + (jand (jushr (x - (jand (jushr x 1) 1431655765)) 2) 858993459)) + (jushr ((jand (x - (jand (jushr x 1) 1431655765)) 858993459) + (jand (jushr (x - (jand (jushr x 1) 1431655765)) 2) 858993459)) 4)) 252645135) + (jushr (jand (((jand (x - (jand (jushr x 1) 1431655765)) 858993459) + (jand (jushr (x - (jand (jushr x 1) 1431655765)) 2) 858993459)) + (jushr ((jand (x - (jand (jushr x 1) 1431655765)) 858993459) + (jand (jushr (x - (jand (jushr x 1) 1431655765)) 2) 858993459)) 4)) 252645135) 8)) 16)) hK dd_J6_bitCount_0f7a4_46 rfl ?_
  refine g_istoren (pc := 47) (i := 0) (L' := [(0, gI (((jand (((jand (x - (jand (jushr x 1) 1431655765)) 858993459) + (jand (jushr (x - (jand (jushr x 1) 1431655765)) 2) 858993459)) + (jushr ((jand (x - (jand (jushr x 1) 1431655765)) 858993459) + (jand (jushr (x - (jand (jushr x 1) 1431655765)) 2) 858993459)) 4)) 252645135) + (jushr (jand (((jand (x - (jand (jushr x 1) 1431655765)) 858993459) + (jand (jushr (x - (jand (jushr x 1) 1431655765)) 2) 858993459)) + (jushr ((jand (x - (jand (jushr x 1) 1431655765)) 858993459) + (jand (jushr (x - (jand (jushr x 1) 1431655765)) 2) 858993459)) 4)) 252645135) 8)) + (jushr ((jand (((jand (x - (jand (jushr x 1) 1431655765)) 858993459) + (jand (jushr (x - (jand (jushr x 1) 1431655765)) 2) 858993459)) + (jushr ((jand (x - (jand (jushr x 1) 1431655765)) 858993459) + (jand (jushr (x - (jand (jushr x 1) 1431655765)) 2) 858993459)) 4)) 252645135) + (jushr (jand (((jand (x - (jand (jushr x 1) 1431655765)) 858993459) + (jand (jushr (x - (jand (jushr x 1) 1431655765)) 2) 858993459)) + (jushr ((jand (x - (jand (jushr x 1) 1431655765)) 858993459) + (jand (jushr (x - (jand (jushr x 1) 1431655765)) 2) 858993459)) 4)) 252645135) 8)) 16)))]) hK dd_J6_bitCount_0f7a4_47 rfl (by decide) rfl ?_
  refine g_iloadn (pc := 48) (i := 0) (x := ((jand (((jand (x - (jand (jushr x 1) 1431655765)) 858993459) + (jand (jushr (x - (jand (jushr x 1) 1431655765)) 2) 858993459)) + (jushr ((jand (x - (jand (jushr x 1) 1431655765)) 858993459) + (jand (jushr (x - (jand (jushr x 1) 1431655765)) 2) 858993459)) 4)) 252645135) + (jushr (jand (((jand (x - (jand (jushr x 1) 1431655765)) 858993459) + (jand (jushr (x - (jand (jushr x 1) 1431655765)) 2) 858993459)) + (jushr ((jand (x - (jand (jushr x 1) 1431655765)) 858993459) + (jand (jushr (x - (jand (jushr x 1) 1431655765)) 2) 858993459)) 4)) 252645135) 8)) + (jushr ((jand (((jand (x - (jand (jushr x 1) 1431655765)) 858993459) + (jand (jushr (x - (jand (jushr x 1) 1431655765)) 2) 858993459)) + (jushr ((jand (x - (jand (jushr x 1) 1431655765)) 858993459) + (jand (jushr (x - (jand (jushr x 1) 1431655765)) 2) 858993459)) 4)) 252645135) + (jushr (jand (((jand (x - (jand (jushr x 1) 1431655765)) 858993459) + (jand (jushr (x - (jand (jushr x 1) 1431655765)) 2) 858993459)) + (jushr ((jand (x - (jand (jushr x 1) 1431655765)) 858993459) + (jand (jushr (x - (jand (jushr x 1) 1431655765)) 2) 858993459)) 4)) 252645135) 8)) 16)) hK dd_J6_bitCount_0f7a4_48 rfl rfl ?_
  refine g_bipush (pc := 49) (x := 63) hK dd_J6_bitCount_0f7a4_49 (by decide) ?_
  refine g_iand (pc := 51) (z := jand (((jand (((jand (x - (jand (jushr x 1) 1431655765)) 858993459) + (jand (jushr (x - (jand (jushr x 1) 1431655765)) 2) 858993459)) + (jushr ((jand (x - (jand (jushr x 1) 1431655765)) 858993459) + (jand (jushr (x - (jand (jushr x 1) 1431655765)) 2) 858993459)) 4)) 252645135) + (jushr (jand (((jand (x - (jand (jushr x 1) 1431655765)) 858993459) + (jand (jushr (x - (jand (jushr x 1) 1431655765)) 2) 858993459)) + (jushr ((jand (x - (jand (jushr x 1) 1431655765)) 858993459) + (jand (jushr (x - (jand (jushr x 1) 1431655765)) 2) 858993459)) 4)) 252645135) 8)) + (jushr ((jand (((jand (x - (jand (jushr x 1) 1431655765)) 858993459) + (jand (jushr (x - (jand (jushr x 1) 1431655765)) 2) 858993459)) + (jushr ((jand (x - (jand (jushr x 1) 1431655765)) 858993459) + (jand (jushr (x - (jand (jushr x 1) 1431655765)) 2) 858993459)) 4)) 252645135) + (jushr (jand (((jand (x - (jand (jushr x 1) 1431655765)) 858993459) + (jand (jushr (x - (jand (jushr x 1) 1431655765)) 2) 858993459)) + (jushr ((jand (x - (jand (jushr x 1) 1431655765)) 858993459) + (jand (jushr (x - (jand (jushr x 1) 1431655765)) 2) 858993459)) 4)) 252645135) 8)) 16)) 63) hK dd_J6_bitCount_0f7a4_51 rfl ?_
  refine g_iret (pc := 52) hK hr hlocks dd_J6_bitCount_0f7a4_52 rfl ?_
  exact g_fin hQ (by exact bcj_sz h1 h2) (by first | rfl | (subst_vars; rfl))
set_option maxHeartbeats 4000000 in
set_option maxRecDepth 100000 in
theorem c_addPaid {l : Launch} {M : Mem} {Pq : Option gV → Mem → Prop} (t : Int) (pd : Int) (rc : Int) (p1 : 0 ≤ t ∧ t < 30) (p2 : 0 ≤ pd ∧ pd ≤ 999) (p3 : -1 ≤ rc ∧ rc ≤ 9999) (hS : ∀ j : Nat, (j : Int) ≤ rc → -1 ≤ M 95 j ∧ M 95 j < 1073741824) (hQ : Pq none (sr M 95 (pdS (M 95) t pd rc (-1)))) : gCtr l my_X4_addPaid mb_X4_addPaid 7 ((none : Option Jvm.ClassFile.FieldType)) 2 [gR 94, gI t, gI pd, gI rc] M Pq := by
  refine g_intro (by decide) (Nat.le_of_ble_eq_true rfl) ?_
  intro p e s m args below meth c D cy q A hK hr hlocks hw
  refine g_sub (L' := [(0, gR 94), (1, gI t), (2, gI pd), (3, gI rc)]) [0, 1, 2, 3] rfl ?_
  refine g_iloadn (pc := 0) (i := 3) (x := rc) hK dd_X4_addPaid_0 rfl rfl ?_
  refine g_istore (pc := 1) (i := 4) (L' := [(0, gR 94), (1, gI t), (2, gI pd), (3, gI rc), (4, gI rc)]) hK dd_X4_addPaid_1 (by decide) rfl ?_
  have lp3 : ∀ (n1 : Nat) (s1 : Int), (s1 ≤ rc ∧ -1 ≤ s1) → (s1 + 1).toNat < n1 → G p l e (rmD 2) s m args below meth c D cy q A 0 0 7 (MQ below (gQc D cy q A Pq) args s 0 0 A) 3 [(0, gR 94), (1, gI t), (2, gI pd), (3, gI rc), (4, gI s1)] [] (sr M 95 (pdS (M 95) t pd rc s1)) := by
    intro n1
    induction n1 with
    | zero => intro s1 iv4 hm5; exact absurd hm5 (Nat.not_lt_zero _)
    | succ n1 ih2 =>
      intro s1 iv4 hm5
      refine g_iload (pc := 3) (i := 4) (x := s1) hK dd_X4_addPaid_3 rfl ?_
      refine g_iloadn (pc := 5) (i := 2) (x := pd) hK dd_X4_addPaid_5 rfl rfl ?_
      refine g_icmp_lt (pc := 6) (tgt := 75) hK dd_X4_addPaid_6 (by decide) ⟨by omega, by omega⟩ ⟨by omega, by omega⟩ (fun c6 => ?_) (fun c6 => ?_)
      · refine g_vret (pc := 75) hK hr hlocks dd_X4_addPaid_75 ?_
        exact g_finM hQ (by rw [pdS_e (s := s1) (by omega)])
      · have hs1_ := hS s1.toNat (by omega)
        have hs2_ := hS (s1 - pd).toNat (by omega)
        refine g_aloadn (pc := 9) (i := 0) (x := 94) hK dd_X4_addPaid_9 rfl rfl ?_
        refine g_getv (pc := 10) (f := (1, 1)) (j := 0) (v := gR 95) hK (kdm kd_94) rfl ef_4 (by decide) rfl kk_356 dd_X4_addPaid_10 rfl ?_
        refine g_iload (pc := 13) (i := 4) (x := s1) hK dd_X4_addPaid_13 rfl ?_
        refine g_iald (pc := 15) hK (kdm kd_95) nl_95 (by decide) dd_X4_addPaid_15 (by omega) (by omega) (fun x7 ex7 rx7 => ?_)
        replace ex7 : x7 = (pdS (M 95) t pd rc s1) s1.toNat := by first | exact ex7 | (rw [ex7]; simp [up, us, cp, sr])
        replace ex7 : x7 = M 95 s1.toNat := by rw [ex7, pdS_lo (by omega)]
        skip
        refine g_istore (pc := 16) (i := 5) (L' := [(0, gR 94), (1, gI t), (2, gI pd), (3, gI rc), (4, gI s1), (5, gI x7)]) hK dd_X4_addPaid_16 (by decide) rfl ?_
        refine g_aloadn (pc := 18) (i := 0) (x := 94) hK dd_X4_addPaid_18 rfl rfl ?_
        refine g_getv (pc := 19) (f := (1, 1)) (j := 0) (v := gR 95) hK (kdm kd_94) rfl ef_4 (by decide) rfl kk_356 dd_X4_addPaid_19 rfl ?_
        refine g_iload (pc := 22) (i := 4) (x := s1) hK dd_X4_addPaid_22 rfl ?_
        refine g_iloadn (pc := 24) (i := 2) (x := pd) hK dd_X4_addPaid_24 rfl rfl ?_
        refine g_isub (pc := 25) (z := s1 - pd) hK dd_X4_addPaid_25 rfl ?_
        refine g_iald (pc := 26) hK (kdm kd_95) nl_95 (by decide) dd_X4_addPaid_26 (by omega) (by omega) (fun x8 ex8 rx8 => ?_)
        replace ex8 : x8 = (pdS (M 95) t pd rc s1) ((s1 - pd).toNat) := by first | exact ex8 | (rw [ex8]; simp [up, us, cp, sr])
        replace ex8 : x8 = M 95 (s1 - pd).toNat := by rw [ex8, pdS_lo (by omega)]
        skip
        refine g_istore (pc := 27) (i := 6) (L' := [(0, gR 94), (1, gI t), (2, gI pd), (3, gI rc), (4, gI s1), (5, gI x7), (6, gI x8)]) hK dd_X4_addPaid_27 (by decide) rfl ?_
        refine g_iload (pc := 29) (i := 6) (x := x8) hK dd_X4_addPaid_29 rfl ?_
        refine g_iconst (pc := 31) (x := (-1)) hK dd_X4_addPaid_31 (by decide) ?_
        refine g_icmp_eq (pc := 32) (tgt := 69) hK dd_X4_addPaid_32 (by decide) rx8 (by decide) (fun c9 => ?_) (fun c9 => ?_)
        · have hpx_ : pdV t (M 95 (s1 - pd).toNat) (M 95 s1.toNat) = M 95 s1.toNat := by unfold pdV; rw [if_neg]; rintro ⟨z1_, z2_⟩; rw [← ex8] at z1_ z2_; rw [← ex7] at z2_; omega
          refine g_iinc (pc := 69) (i := 4) (y := s1 - 1) (L' := [(0, gR 94), (1, gI t), (2, gI pd), (3, gI rc), (4, gI (s1 - 1)), (5, gI x7), (6, gI x8)]) hK dd_X4_addPaid_69 rfl (by omega) (by decide) rfl ?_
          refine g_goto (pc := 72) (tgt := 3) hK dd_X4_addPaid_72 (by decide) ?_
          refine g_sub (L' := [(0, gR 94), (1, gI t), (2, gI pd), (3, gI rc), (4, gI (s1 - 1))]) [0, 1, 2, 3, 4] rfl ?_
          refine g_mem (M2 := sr M 95 (pdS (M 95) t pd rc (s1 - 1))) (by first | (rw [← pdS_y (by omega) (by omega) (by omega), hpv_]; simp (disch := decide) only [Int.reduceToNat, up_sr, sr_cp, sr_k, sr_o, sr_sr, us_us]; try rfl) | (rw [pdS_x (by omega) (by omega) (by omega) hpx_])) ?_
          exact ih2 (s1 - 1) (by omega) (by omega)
        · refine g_iload (pc := 35) (i := 5) (x := x7) hK dd_X4_addPaid_35 rfl ?_
          refine g_iconst (pc := 37) (x := (-1)) hK dd_X4_addPaid_37 (by decide) ?_
          refine g_icmp_eq (pc := 38) (tgt := 56) hK dd_X4_addPaid_38 (by decide) rx7 (by decide) (fun c10 => ?_) (fun c10 => ?_)
          · refine g_aloadn (pc := 56) (i := 0) (x := 94) hK dd_X4_addPaid_56 rfl rfl ?_
            refine g_getv (pc := 57) (f := (1, 1)) (j := 0) (v := gR 95) hK (kdm kd_94) rfl ef_4 (by decide) rfl kk_356 dd_X4_addPaid_57 rfl ?_
            refine g_iload (pc := 60) (i := 4) (x := s1) hK dd_X4_addPaid_60 rfl ?_
            refine g_iload (pc := 62) (i := 6) (x := x8) hK dd_X4_addPaid_62 rfl ?_
            refine g_iconst (pc := 64) (x := 1) hK dd_X4_addPaid_64 (by decide) ?_
            refine g_iloadn (pc := 65) (i := 1) (x := t) hK dd_X4_addPaid_65 rfl rfl ?_
            refine g_ishl (pc := 66) (z := jshl 1 t) hK dd_X4_addPaid_66 rfl ?_
            refine g_ior (pc := 67) (z := jor x8 (jshl 1 t)) hK dd_X4_addPaid_67 rfl ?_
            have hpv_ : pdV t (M 95 (s1 - pd).toNat) (M 95 s1.toNat) = jor x8 (jshl 1 t) := by unfold pdV; rw [← ex8, ← ex7, if_pos ⟨by omega, by omega⟩]
            refine g_iast (pc := 68) hK (kdm kd_95) nl_95 (by decide) (by decide) dd_X4_addPaid_68 (by omega) (by omega) (jor_in _ _) ?_
            skip
            refine g_iinc (pc := 69) (i := 4) (y := s1 - 1) (L' := [(0, gR 94), (1, gI t), (2, gI pd), (3, gI rc), (4, gI (s1 - 1)), (5, gI x7), (6, gI x8)]) hK dd_X4_addPaid_69 rfl (by omega) (by decide) rfl ?_
            refine g_goto (pc := 72) (tgt := 3) hK dd_X4_addPaid_72 (by decide) ?_
            refine g_sub (L' := [(0, gR 94), (1, gI t), (2, gI pd), (3, gI rc), (4, gI (s1 - 1))]) [0, 1, 2, 3, 4] rfl ?_
            refine g_mem (M2 := sr M 95 (pdS (M 95) t pd rc (s1 - 1))) (by first | (rw [← pdS_y (by omega) (by omega) (by omega), hpv_]; simp (disch := decide) only [Int.reduceToNat, up_sr, sr_cp, sr_k, sr_o, sr_sr, us_us]; try rfl) | (rw [pdS_x (by omega) (by omega) (by omega) hpx_])) ?_
            exact ih2 (s1 - 1) (by omega) (by omega)
          · refine g_iload (pc := 41) (i := 6) (x := x8) hK dd_X4_addPaid_41 rfl ?_
            refine g_callT (pc := 43) (As := [gI x8]) hK ws_Picks_58 md_J6_bitCount_0f7a4 ⟨Nat.zero_le _, Nat.zero_le _⟩ ⟨by decide, by decide⟩ dd_X4_addPaid_43 rfl rfl (Nat.le_of_ble_eq_true rfl) (c_bitCount30 x8 (show 0 ≤ x8 by omega) (show x8 < 1073741824 by omega) (g_r1 ?_))
            refine g_iconst (pc := 46) (x := 1) hK dd_X4_addPaid_46 (by decide) ?_
            refine g_iadd (pc := 47) (z := (sz x8) + 1) hK dd_X4_addPaid_47 rfl ?_
            refine g_iload (pc := 48) (i := 5) (x := x7) hK dd_X4_addPaid_48 rfl ?_
            refine g_callT (pc := 50) (As := [gI x7]) hK ws_Picks_58 md_J6_bitCount_0f7a4 ⟨Nat.zero_le _, Nat.zero_le _⟩ ⟨by decide, by decide⟩ dd_X4_addPaid_50 rfl rfl (Nat.le_of_ble_eq_true rfl) (c_bitCount30 x7 (show 0 ≤ x7 by omega) (show x7 < 1073741824 by omega) (g_r1 ?_))
            have hz1_ := sz_in x8
            have hz2_ := sz_in x7
            refine g_icmp_ge (pc := 53) (tgt := 69) hK dd_X4_addPaid_53 (by decide) ⟨by omega, by omega⟩ ⟨by omega, by omega⟩ (fun c11 => ?_) (fun c11 => ?_)
            · have hpx_ : pdV t (M 95 (s1 - pd).toNat) (M 95 s1.toNat) = M 95 s1.toNat := by unfold pdV; rw [if_neg]; rintro ⟨z1_, z2_⟩; rw [← ex8] at z1_ z2_; rw [← ex7] at z2_; omega
              refine g_iinc (pc := 69) (i := 4) (y := s1 - 1) (L' := [(0, gR 94), (1, gI t), (2, gI pd), (3, gI rc), (4, gI (s1 - 1)), (5, gI x7), (6, gI x8)]) hK dd_X4_addPaid_69 rfl (by omega) (by decide) rfl ?_
              refine g_goto (pc := 72) (tgt := 3) hK dd_X4_addPaid_72 (by decide) ?_
              refine g_sub (L' := [(0, gR 94), (1, gI t), (2, gI pd), (3, gI rc), (4, gI (s1 - 1))]) [0, 1, 2, 3, 4] rfl ?_
              refine g_mem (M2 := sr M 95 (pdS (M 95) t pd rc (s1 - 1))) (by first | (rw [← pdS_y (by omega) (by omega) (by omega), hpv_]; simp (disch := decide) only [Int.reduceToNat, up_sr, sr_cp, sr_k, sr_o, sr_sr, us_us]; try rfl) | (rw [pdS_x (by omega) (by omega) (by omega) hpx_])) ?_
              exact ih2 (s1 - 1) (by omega) (by omega)
            · refine g_aloadn (pc := 56) (i := 0) (x := 94) hK dd_X4_addPaid_56 rfl rfl ?_
              refine g_getv (pc := 57) (f := (1, 1)) (j := 0) (v := gR 95) hK (kdm kd_94) rfl ef_4 (by decide) rfl kk_356 dd_X4_addPaid_57 rfl ?_
              refine g_iload (pc := 60) (i := 4) (x := s1) hK dd_X4_addPaid_60 rfl ?_
              refine g_iload (pc := 62) (i := 6) (x := x8) hK dd_X4_addPaid_62 rfl ?_
              refine g_iconst (pc := 64) (x := 1) hK dd_X4_addPaid_64 (by decide) ?_
              refine g_iloadn (pc := 65) (i := 1) (x := t) hK dd_X4_addPaid_65 rfl rfl ?_
              refine g_ishl (pc := 66) (z := jshl 1 t) hK dd_X4_addPaid_66 rfl ?_
              refine g_ior (pc := 67) (z := jor x8 (jshl 1 t)) hK dd_X4_addPaid_67 rfl ?_
              have hpv_ : pdV t (M 95 (s1 - pd).toNat) (M 95 s1.toNat) = jor x8 (jshl 1 t) := by unfold pdV; rw [← ex8, ← ex7, if_pos ⟨by omega, by omega⟩]
              refine g_iast (pc := 68) hK (kdm kd_95) nl_95 (by decide) (by decide) dd_X4_addPaid_68 (by omega) (by omega) (jor_in _ _) ?_
              skip
              refine g_iinc (pc := 69) (i := 4) (y := s1 - 1) (L' := [(0, gR 94), (1, gI t), (2, gI pd), (3, gI rc), (4, gI (s1 - 1)), (5, gI x7), (6, gI x8)]) hK dd_X4_addPaid_69 rfl (by omega) (by decide) rfl ?_
              refine g_goto (pc := 72) (tgt := 3) hK dd_X4_addPaid_72 (by decide) ?_
              refine g_sub (L' := [(0, gR 94), (1, gI t), (2, gI pd), (3, gI rc), (4, gI (s1 - 1))]) [0, 1, 2, 3, 4] rfl ?_
              refine g_mem (M2 := sr M 95 (pdS (M 95) t pd rc (s1 - 1))) (by first | (rw [← pdS_y (by omega) (by omega) (by omega), hpv_]; simp (disch := decide) only [Int.reduceToNat, up_sr, sr_cp, sr_k, sr_o, sr_sr, us_us]; try rfl) | (rw [pdS_x (by omega) (by omega) (by omega) hpx_])) ?_
              exact ih2 (s1 - 1) (by omega) (by omega)
  refine g_mem (M2 := sr M 95 (pdS (M 95) t pd rc rc)) (by rw [pdS_0]; exact sr_self.symm) ?_
  refine g_sub (L' := [(0, gR 94), (1, gI t), (2, gI pd), (3, gI rc), (4, gI rc)]) [0, 1, 2, 3, 4] rfl ?_
  exact lp3 _ rc (by omega) (Nat.lt_succ_self _)
set_option maxHeartbeats 4000000 in
set_option maxRecDepth 100000 in
theorem c_fewestPaid {l : Launch} {M : Mem} {Pq : Option gV → Mem → Prop} (sm : Int) (s0 : 1 ≤ sm ∧ sm ≤ 9999) (hc : 0 ≤ M 6 6 ∧ M 6 6 ≤ 30) (hpd : ∀ j : Nat, j < 30 → ¬ M 11 j = -1 → 0 ≤ M 12 j ∧ M 12 j ≤ 999) (hQ : Pq (some (gI ((fpS (M 11) (M 12) sm (iniS (M 95) (sm + 1)) (M 6 6).toNat).1 sm.toNat))) (sr M 95 (fpS (M 11) (M 12) sm (iniS (M 95) (sm + 1)) (M 6 6).toNat).1)) : gCtr l my_X4_fewestPaid mb_X4_fewestPaid 5 ((some .int)) 3 [gR 94, gR 6, gI sm] M Pq := by
  refine g_intro (by decide) (Nat.le_of_ble_eq_true rfl) ?_
  intro p e s m args below meth c D cy q A hK hr hlocks hw
  refine g_sub (L' := [(0, gR 94), (1, gR 6), (2, gI sm)]) [0, 1, 2] rfl ?_
  refine g_aloadn (pc := 0) (i := 0) (x := 94) hK dd_X4_fewestPaid_0 rfl rfl ?_
  refine g_getv (pc := 1) (f := (1, 1)) (j := 0) (v := gR 95) hK (kdm kd_94) rfl ef_4 (by decide) rfl kk_356 dd_X4_fewestPaid_1 rfl ?_
  refine g_iconst (pc := 4) (x := 0) hK dd_X4_fewestPaid_4 (by decide) ?_
  refine g_iconst (pc := 5) (x := 0) hK dd_X4_fewestPaid_5 (by decide) ?_
  refine g_iast (pc := 6) hK (kdm kd_95) nl_95 (by decide) (by decide) dd_X4_fewestPaid_6 (by omega) (by omega) (by decide) ?_
  refine g_iconst (pc := 7) (x := 1) hK dd_X4_fewestPaid_7 (by decide) ?_
  refine g_istoren (pc := 8) (i := 3) (L' := [(0, gR 94), (1, gR 6), (2, gI sm), (3, gI 1)]) hK dd_X4_fewestPaid_8 rfl (by decide) rfl ?_
  have lp3 : ∀ (n1 : Nat) (s1 : Int), (1 ≤ s1 ∧ s1 ≤ sm + 1) → (sm + 1 - s1).toNat < n1 → G p l e (rmD 3) s m args below meth c D cy q A 0 0 5 (MQ below (gQc D cy q A Pq) args s 0 0 A) 9 [(0, gR 94), (1, gR 6), (2, gI sm), (3, gI s1)] [] (sr M 95 (iniS (M 95) s1)) := by
    intro n1
    induction n1 with
    | zero => intro s1 iv4 hm5; exact absurd hm5 (Nat.not_lt_zero _)
    | succ n1 ih2 =>
      intro s1 iv4 hm5
      refine g_iloadn (pc := 9) (i := 3) (x := s1) hK dd_X4_fewestPaid_9 rfl rfl ?_
      refine g_iloadn (pc := 10) (i := 2) (x := sm) hK dd_X4_fewestPaid_10 rfl rfl ?_
      refine g_icmp_gt (pc := 11) (tgt := 27) hK dd_X4_fewestPaid_11 (by decide) ⟨by omega, by omega⟩ ⟨by omega, by omega⟩ (fun c6 => ?_) (fun c6 => ?_)
      · refine g_iconst (pc := 27) (x := 0) hK dd_X4_fewestPaid_27 (by decide) ?_
        refine g_istoren (pc := 28) (i := 3) (L' := [(0, gR 94), (1, gR 6), (2, gI sm), (3, gI 0)]) hK dd_X4_fewestPaid_28 rfl (by decide) rfl ?_
        refine g_iconst (pc := 29) (x := 0) hK dd_X4_fewestPaid_29 (by decide) ?_
        refine g_istore (pc := 30) (i := 4) (L' := [(0, gR 94), (1, gR 6), (2, gI sm), (3, gI 0), (4, gI 0)]) hK dd_X4_fewestPaid_30 (by decide) rfl ?_
        have lp9 : ∀ (n7 : Nat) (rc : Int) (t : Int), (0 ≤ t ∧ t ≤ M 6 6) → (rc = (fpS (M 11) (M 12) sm (iniS (M 95) (sm + 1)) t.toNat).2) → (M 6 6 - t).toNat < n7 → G p l e (rmD 3) s m args below meth c D cy q A 0 0 5 (MQ below (gQc D cy q A Pq) args s 0 0 A) 32 [(0, gR 94), (1, gR 6), (2, gI sm), (3, gI rc), (4, gI t)] [] (sr M 95 (fpS (M 11) (M 12) sm (iniS (M 95) (sm + 1)) t.toNat).1) := by
          intro n7
          induction n7 with
          | zero => intro rc t iv10 hrc_ hm11; exact absurd hm11 (Nat.not_lt_zero _)
          | succ n7 ih8 =>
            intro rc t iv10 hrc_ hm11
            refine g_iload (pc := 32) (i := 4) (x := t) hK dd_X4_fewestPaid_32 rfl ?_
            refine g_aloadn (pc := 34) (i := 1) (x := 6) hK dd_X4_fewestPaid_34 rfl rfl ?_
            refine g_geti (pc := 35) (f := (0, 0)) (j := 6) hK (kdm kd_6) rfl ef_10 (by decide) rfl kk_87 nl_6 dd_X4_fewestPaid_35 rfl (fun x12 ex12 rx12 => ?_)
            replace ex12 : x12 = M 6 6 := ex12
            refine g_icmp_ge (pc := 38) (tgt := 84) hK dd_X4_fewestPaid_38 (by decide) ⟨by omega, by omega⟩ rx12 (fun c13 => ?_) (fun c13 => ?_)
            · refine g_aloadn (pc := 84) (i := 0) (x := 94) hK dd_X4_fewestPaid_84 rfl rfl ?_
              refine g_getv (pc := 85) (f := (1, 1)) (j := 0) (v := gR 95) hK (kdm kd_94) rfl ef_4 (by decide) rfl kk_356 dd_X4_fewestPaid_85 rfl ?_
              refine g_iloadn (pc := 88) (i := 2) (x := sm) hK dd_X4_fewestPaid_88 rfl rfl ?_
              refine g_iald (pc := 89) hK (kdm kd_95) nl_95 (by decide) dd_X4_fewestPaid_89 (by omega) (by omega) (fun x14 ex14 rx14 => ?_)
              replace ex14 : x14 = ((fpS (M 11) (M 12) sm (iniS (M 95) (sm + 1)) t.toNat).1) sm.toNat := by first | exact ex14 | (rw [ex14]; simp [up, us, cp, sr])
              refine g_iret (pc := 90) hK hr hlocks dd_X4_fewestPaid_90 rfl ?_
              exact g_fin hQ (by rw [show (M 6 6).toNat = t.toNat by omega]; subst_vars; rfl) (by rw [show (M 6 6).toNat = t.toNat by omega])
            · have hfi_ := fpS_in (B := M 11) (PD := M 12) (sm := sm) (S0 := iniS (M 95) (sm + 1)) (by omega) (fun j hj hb_ => (hpd j hj hb_).1) iniS_in t.toNat (by omega)
              have hpp_ := pw_30 (t := t.toNat) (by omega)
              have hpq_ := hpd t.toNat (by omega)
              refine g_aloadn (pc := 41) (i := 1) (x := 6) hK dd_X4_fewestPaid_41 rfl rfl ?_
              refine g_iload (pc := 42) (i := 4) (x := t) hK dd_X4_fewestPaid_42 rfl ?_
              refine g_callV (pc := 44) (As := [gI t]) hK ws_Picks_42 md_X10_isSold ⟨Nat.zero_le _, Nat.zero_le _⟩ ⟨by decide, by decide⟩ (kdm kd_6) rfl rfl dd_X4_fewestPaid_44 rfl rfl (Nat.le_of_ble_eq_true rfl) (c_isSold t (show 0 ≤ t by omega) (show t < 30 by omega) (fun c15 => g_r1 ?_) (fun c15 => g_r1 ?_))
              · replace c15 : M 11 t.toNat ≠ -1 := c15
                refine g_if_eq (pc := 47) (tgt := 78) hK dd_X4_fewestPaid_47 (by decide) (by decide) (fun c16 => absurd c16 (by decide)) (fun _ => ?_)
                have hyo_ : ¬ M 11 t.toNat = -1 := c15
                refine g_iloadn (pc := 50) (i := 2) (x := sm) hK dd_X4_fewestPaid_50 rfl rfl ?_
                refine g_iloadn (pc := 51) (i := 3) (x := rc) hK dd_X4_fewestPaid_51 rfl rfl ?_
                refine g_aloadn (pc := 52) (i := 1) (x := 6) hK dd_X4_fewestPaid_52 rfl rfl ?_
                refine g_getv (pc := 53) (f := (1, 6)) (j := 5) (v := gR 12) hK (kdm kd_6) rfl ef_10 (by decide) rfl kk_83 dd_X4_fewestPaid_53 rfl ?_
                refine g_iload (pc := 56) (i := 4) (x := t) hK dd_X4_fewestPaid_56 rfl ?_
                refine g_iald (pc := 58) hK (kdm kd_12) nl_12 (by decide) dd_X4_fewestPaid_58 (by omega) (by omega) (fun x17 ex17 rx17 => ?_)
                replace ex17 : x17 = M 12 t.toNat := ex17
                have hp1_ := ex17
                rw [← hrc_] at hfi_
                have hpr_ := hpq_ hyo_
                refine g_iadd (pc := 59) (z := rc + x17) hK dd_X4_fewestPaid_59 rfl ?_
                refine g_mmin (pc := 60) hK ws_Picks_48 ⟨by omega, by omega⟩ ⟨by omega, by omega⟩ ⟨by decide, by decide⟩ ⟨Nat.zero_le _, Nat.zero_le _⟩ (Nat.le_of_ble_eq_true rfl) dd_X4_fewestPaid_60 ?_
                refine g_topI (fun y18 ey18 => ?_)
                refine g_istoren (pc := 63) (i := 3) (L' := [(0, gR 94), (1, gR 6), (2, gI sm), (3, gI y18), (4, gI t)]) hK dd_X4_fewestPaid_63 rfl (by decide) rfl ?_
                refine g_aloadn (pc := 64) (i := 0) (x := 94) hK dd_X4_fewestPaid_64 rfl rfl ?_
                refine g_iload (pc := 65) (i := 4) (x := t) hK dd_X4_fewestPaid_65 rfl ?_
                refine g_aloadn (pc := 67) (i := 1) (x := 6) hK dd_X4_fewestPaid_67 rfl rfl ?_
                refine g_getv (pc := 68) (f := (1, 6)) (j := 5) (v := gR 12) hK (kdm kd_6) rfl ef_10 (by decide) rfl kk_83 dd_X4_fewestPaid_68 rfl ?_
                refine g_iload (pc := 71) (i := 4) (x := t) hK dd_X4_fewestPaid_71 rfl ?_
                refine g_iald (pc := 73) hK (kdm kd_12) nl_12 (by decide) dd_X4_fewestPaid_73 (by omega) (by omega) (fun x19 ex19 rx19 => ?_)
                replace ex19 : x19 = M 12 t.toNat := ex19
                refine g_iloadn (pc := 74) (i := 3) (x := y18) hK dd_X4_fewestPaid_74 rfl rfl ?_
                have hpy_ : x19 = M 12 t.toNat := ex19
                have hS_ : ∀ j : Nat, (j : Int) ≤ y18 → -1 ≤ (fpS (M 11) (M 12) sm (iniS (M 95) (sm + 1)) t.toNat).1 j ∧ (fpS (M 11) (M 12) sm (iniS (M 95) (sm + 1)) t.toNat).1 j < 1073741824 := fun j hj => by have q_ := hfi_.2 j (by omega); omega
                have hry_ : y18 = rcN sm rc x19 := by unfold rcN; first | assumption | (rw [show x19 = x17 by omega]; assumption)
                refine g_callV (pc := 75) (As := [gI t, gI x19, gI y18]) hK ws_Picks_54 md_X4_addPaid ⟨Nat.zero_le _, Nat.zero_le _⟩ ⟨by decide, by decide⟩ (kdm kd_94) rfl rfl dd_X4_fewestPaid_75 rfl rfl (Nat.le_of_ble_eq_true rfl) (c_addPaid t x19 y18 (by omega) (by omega) (by omega) hS_ (g_r0 ?_))
                skip
                refine g_iinc (pc := 78) (i := 4) (y := t + 1) (L' := [(0, gR 94), (1, gR 6), (2, gI sm), (3, gI y18), (4, gI (t + 1))]) hK dd_X4_fewestPaid_78 rfl rfl (by decide) rfl ?_
                refine g_goto (pc := 81) (tgt := 32) hK dd_X4_fewestPaid_81 (by decide) ?_
                refine g_sub (L' := [(0, gR 94), (1, gR 6), (2, gI sm), (3, gI y18), (4, gI (t + 1))]) [0, 1, 2, 3, 4] rfl ?_
                refine g_mem (M2 := sr M 95 (fpS (M 11) (M 12) sm (iniS (M 95) (sm + 1)) (t + 1).toNat).1) (by rw [tn1 (t := t) (by omega)]; simp only [fpS]; first | (rw [if_pos hno_]) | (rw [if_neg hyo_]; simp only [← hrc_, ← hpy_, ← hry_]; rw [show ((t.toNat : Nat) : Int) = t by omega]; simp (disch := decide) only [Int.reduceToNat, up_sr, sr_cp, sr_k, sr_o, sr_sr, us_us]; try rfl)) ?_
                exact ih8 y18 (t + 1) (by omega) (by rw [tn1 (t := t) (by omega)]; simp only [fpS]; first | (rw [if_pos hno_]; exact hrc_) | (rw [if_neg hyo_]; show _ = rcN _ _ _; rw [← hrc_, ← hpy_]; unfold rcN; assumption)) (by omega)
              · replace c15 : ¬ (M 11 t.toNat ≠ -1) := c15
                refine g_if_eq (pc := 47) (tgt := 78) hK dd_X4_fewestPaid_47 (by decide) (by decide) (fun _ => ?_) (fun c20 => absurd (by decide) c20)
                have hno_ : M 11 t.toNat = -1 := Decidable.of_not_not c15
                refine g_iinc (pc := 78) (i := 4) (y := t + 1) (L' := [(0, gR 94), (1, gR 6), (2, gI sm), (3, gI rc), (4, gI (t + 1))]) hK dd_X4_fewestPaid_78 rfl rfl (by decide) rfl ?_
                refine g_goto (pc := 81) (tgt := 32) hK dd_X4_fewestPaid_81 (by decide) ?_
                refine g_sub (L' := [(0, gR 94), (1, gR 6), (2, gI sm), (3, gI rc), (4, gI (t + 1))]) [0, 1, 2, 3, 4] rfl ?_
                refine g_mem (M2 := sr M 95 (fpS (M 11) (M 12) sm (iniS (M 95) (sm + 1)) (t + 1).toNat).1) (by rw [tn1 (t := t) (by omega)]; simp only [fpS]; first | (rw [if_pos hno_]) | (rw [if_neg hyo_]; simp only [← hrc_, ← hpy_, ← hry_]; rw [show ((t.toNat : Nat) : Int) = t by omega]; simp (disch := decide) only [Int.reduceToNat, up_sr, sr_cp, sr_k, sr_o, sr_sr, us_us]; try rfl)) ?_
                exact ih8 rc (t + 1) (by omega) (by rw [tn1 (t := t) (by omega)]; simp only [fpS]; first | (rw [if_pos hno_]; exact hrc_) | (rw [if_neg hyo_]; show _ = rcN _ _ _; rw [← hrc_, ← hpy_]; unfold rcN; assumption)) (by omega)
        refine g_mem (M2 := sr M 95 (fpS (M 11) (M 12) sm (iniS (M 95) (sm + 1)) (0 : Int).toNat).1) (by rw [show s1 = sm + 1 by omega]; rfl) ?_
        refine g_sub (L' := [(0, gR 94), (1, gR 6), (2, gI sm), (3, gI 0), (4, gI 0)]) [0, 1, 2, 3, 4] rfl ?_
        exact lp9 _ 0 0 (by omega) (rfl) (Nat.lt_succ_self _)
      · refine g_aloadn (pc := 14) (i := 0) (x := 94) hK dd_X4_fewestPaid_14 rfl rfl ?_
        refine g_getv (pc := 15) (f := (1, 1)) (j := 0) (v := gR 95) hK (kdm kd_94) rfl ef_4 (by decide) rfl kk_356 dd_X4_fewestPaid_15 rfl ?_
        refine g_iloadn (pc := 18) (i := 3) (x := s1) hK dd_X4_fewestPaid_18 rfl rfl ?_
        refine g_iconst (pc := 19) (x := (-1)) hK dd_X4_fewestPaid_19 (by decide) ?_
        refine g_iast (pc := 20) hK (kdm kd_95) nl_95 (by decide) (by decide) dd_X4_fewestPaid_20 (by omega) (by omega) (by decide) ?_
        refine g_iinc (pc := 21) (i := 3) (y := s1 + 1) (L' := [(0, gR 94), (1, gR 6), (2, gI sm), (3, gI (s1 + 1))]) hK dd_X4_fewestPaid_21 rfl rfl (by decide) rfl ?_
        refine g_goto (pc := 24) (tgt := 9) hK dd_X4_fewestPaid_24 (by decide) ?_
        refine g_sub (L' := [(0, gR 94), (1, gR 6), (2, gI sm), (3, gI (s1 + 1))]) [0, 1, 2, 3] rfl ?_
        refine g_mem (M2 := sr M 95 (iniS (M 95) (s1 + 1))) (by rw [← iniS_s (by omega)]; simp (disch := decide) only [Int.reduceToNat, up_sr, sr_cp, sr_k, sr_o, sr_sr, us_us]; try rfl) ?_
        exact ih2 (s1 + 1) (by omega) (by omega)
  refine g_mem (M2 := sr M 95 (iniS (M 95) (1 : Int))) (by rw [← iniS_1]; simp (disch := decide) only [Int.reduceToNat, up_sr, sr_cp, sr_k, sr_o, sr_sr, us_us]; try rfl) ?_
  refine g_sub (L' := [(0, gR 94), (1, gR 6), (2, gI sm), (3, gI 1)]) [0, 1, 2, 3] rfl ?_
  exact lp3 _ 1 (by omega) (Nat.lt_succ_self _)
set_option maxHeartbeats 4000000 in
set_option maxRecDepth 100000 in
theorem x_shortBy {l : Launch} {M : Mem} {Pq : Option gV → Mem → Prop} (sm : Int) (h_sm : inI sm) (hrf : rfOK M) (hc : 0 ≤ M 6 6 ∧ M 6 6 ≤ 30) (hpd : ∀ j : Nat, j < 30 → ¬ M 11 j = -1 → 0 ≤ M 12 j ∧ M 12 j ≤ 999) (hB : (¬ (1 ≤ sm ∧ sm ≤ 9999)) → Pq (some (gI (-2))) (rf M 0)) (hY : (1 ≤ sm ∧ sm ≤ 9999) → Pq (some (gI ((fpS (M 11) (M 12) sm (iniS (M 95) (sm + 1)) (M 6 6).toNat).1 sm.toNat))) (sr M 95 (fpS (M 11) (M 12) sm (iniS (M 95) (sm + 1)) (M 6 6).toNat).1)) : gCtr l my_X11_shortBy mb_X11_shortBy 2 ((some .int)) 4 [gR 0, gI sm] M Pq := by
  refine g_intro (by decide) (Nat.le_of_ble_eq_true rfl) ?_
  intro p e s m args below meth c D cy q A hK hr hlocks hw
  refine g_sub (L' := [(0, gR 0), (1, gI sm)]) [0, 1] rfl ?_
  refine g_iloadn (pc := 0) (i := 1) (x := sm) hK dd_X11_shortBy_0 rfl rfl ?_
  refine g_iconst (pc := 1) (x := 1) hK dd_X11_shortBy_1 (by decide) ?_
  refine g_sipush (pc := 2) (x := 9999) hK dd_X11_shortBy_2 (by decide) ?_
  refine g_callT (pc := 5) (As := [gI sm, gI 1, gI 9999]) hK ws_X_59 md_X11_within ⟨Nat.zero_le _, Nat.zero_le _⟩ ⟨by decide, by decide⟩ dd_X11_shortBy_5 rfl rfl (Nat.le_of_ble_eq_true rfl) (c_within sm 1 9999 h_sm (by decide) (by decide) (fun c1 => g_r1 ?_) (fun c1 => g_r1 ?_))
  · refine g_if_ne (pc := 8) (tgt := 18) hK dd_X11_shortBy_8 (by decide) (by decide) (fun _ => ?_) (fun c2 => absurd (by decide) c2)
    refine g_aloadn (pc := 18) (i := 0) (x := 0) hK dd_X11_shortBy_18 rfl rfl ?_
    refine g_getv (pc := 19) (f := (1, 94)) (j := 6) (v := gR 94) hK (kdm kd_0) rfl ef_11 (by decide) rfl kk_388 dd_X11_shortBy_19 rfl ?_
    refine g_aloadn (pc := 22) (i := 0) (x := 0) hK dd_X11_shortBy_22 rfl rfl ?_
    refine g_getv (pc := 23) (f := (1, 5)) (j := 3) (v := gR 5) hK (kdm kd_0) rfl ef_11 (by decide) rfl kk_385 dd_X11_shortBy_23 rfl ?_
    refine g_getv (pc := 26) (f := (1, 1)) (j := 0) (v := gR 6) hK (kdm kd_5) rfl ef_1 (by decide) rfl kk_260 dd_X11_shortBy_26 rfl ?_
    refine g_iloadn (pc := 29) (i := 1) (x := sm) hK dd_X11_shortBy_29 rfl rfl ?_
    refine g_callV (pc := 30) (As := [gR 6, gI sm]) hK ws_X_359 md_X4_fewestPaid ⟨Nat.zero_le _, Nat.zero_le _⟩ ⟨by decide, by decide⟩ (kdm kd_94) rfl rfl dd_X11_shortBy_30 rfl rfl (Nat.le_of_ble_eq_true rfl) (c_fewestPaid sm (by omega) hc hpd (g_r1 ?_))
    refine g_topI (fun y3 ey3 => ?_)
    refine g_iret (pc := 33) hK hr hlocks dd_X11_shortBy_33 rfl ?_
    first | exact g_fin (hB (by first | omega | (subst_vars; omega) | exact ⟨by first | assumption | omega | (subst_vars; first | assumption | omega), by first | assumption | omega | (subst_vars; first | assumption | omega)⟩)) (by first | rfl | omega | (subst_vars; first | rfl | omega)) (by first | rfl | (subst_vars; rfl)) | exact g_fin (hY (by first | omega | (subst_vars; omega) | exact ⟨by first | assumption | omega | (subst_vars; first | assumption | omega), by first | assumption | omega | (subst_vars; first | assumption | omega)⟩)) (by first | rfl | omega | (subst_vars; first | rfl | omega)) (by first | rfl | (subst_vars; rfl)) | (exfalso; omega)
  · refine g_if_ne (pc := 8) (tgt := 18) hK dd_X11_shortBy_8 (by decide) (by decide) (fun c4 => absurd c4 (by decide)) (fun _ => ?_)
    refine g_aloadn (pc := 11) (i := 0) (x := 0) hK dd_X11_shortBy_11 rfl rfl ?_
    refine g_bipush (pc := 12) (x := (-2)) hK dd_X11_shortBy_12 (by decide) ?_
    refine g_callV (pc := 14) (As := [gI (-2)]) hK ws_X_63 md_X11_refuse ⟨Nat.zero_le _, Nat.zero_le _⟩ ⟨by decide, by decide⟩ (kdm kd_0) rfl rfl dd_X11_shortBy_14 rfl rfl (Nat.le_of_ble_eq_true rfl) (c_refuse_0 hrf (g_r1 ?_))
    refine g_iret (pc := 17) hK hr hlocks dd_X11_shortBy_17 rfl ?_
    first | exact g_fin (hB (by first | omega | (subst_vars; omega) | exact ⟨by first | assumption | omega | (subst_vars; first | assumption | omega), by first | assumption | omega | (subst_vars; first | assumption | omega)⟩)) (by first | rfl | omega | (subst_vars; first | rfl | omega)) (by first | rfl | (subst_vars; rfl)) | exact g_fin (hY (by first | omega | (subst_vars; omega) | exact ⟨by first | assumption | omega | (subst_vars; first | assumption | omega), by first | assumption | omega | (subst_vars; first | assumption | omega)⟩)) (by first | rfl | omega | (subst_vars; first | rfl | omega)) (by first | rfl | (subst_vars; rfl)) | (exfalso; omega)
