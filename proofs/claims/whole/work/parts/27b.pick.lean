set_option maxHeartbeats 4000000 in
set_option maxRecDepth 100000 in
theorem c_addBargain {l : Launch} {M : Mem} {Pq : Option gV → Mem → Prop} (t : Int) (tk : Int) (gn : Int) (mi : Int) (p1 : 0 ≤ t ∧ t < 30) (p2 : 2 ≤ tk ∧ tk ≤ 7) (p3 : -999 ≤ gn ∧ gn ≤ 1049) (p4 : 0 ≤ mi ∧ mi ≤ 200) (hG : ∀ j : Nat, (j : Int) ≤ mi → 0 ≤ M 96 j ∧ M 96 j ≤ 40000) (hQ : Pq none (sr (sr M 95 (adS (M 95) (M 96) gn tk mi (jshl 1 t) (-1))) 96 (adG (M 96) gn tk mi (-1)))) : gCtr l my_X4_addBargain mb_X4_addBargain 6 ((none : Option Jvm.ClassFile.FieldType)) 1 [gR 94, gI t, gI tk, gI gn, gI mi] M Pq := by
  refine g_intro (by decide) (Nat.le_of_ble_eq_true rfl) ?_
  intro p e s m args below meth c D cy q A hK hr hlocks hw
  refine g_sub (L' := [(0, gR 94), (1, gI t), (2, gI tk), (3, gI gn), (4, gI mi)]) [0, 1, 2, 3, 4] rfl ?_
  refine g_iload (pc := 0) (i := 4) (x := mi) hK dd_X4_addBargain_0 rfl ?_
  refine g_istore (pc := 2) (i := 5) (L' := [(0, gR 94), (1, gI t), (2, gI tk), (3, gI gn), (4, gI mi), (5, gI mi)]) hK dd_X4_addBargain_2 (by decide) rfl ?_
  have lp3 : ∀ (n1 : Nat) (m_ : Int), (m_ ≤ mi ∧ -1 ≤ m_) → (m_ + 1).toNat < n1 → G p l e (rmD 1) s m args below meth c D cy q A 0 0 6 (MQ below (gQc D cy q A Pq) args s 0 0 A) 4 [(0, gR 94), (1, gI t), (2, gI tk), (3, gI gn), (4, gI mi), (5, gI m_)] [] (sr (sr M 95 (adS (M 95) (M 96) gn tk mi (jshl 1 t) m_)) 96 (adG (M 96) gn tk mi m_)) := by
    intro n1
    induction n1 with
    | zero => intro m_ iv4 hm5; exact absurd hm5 (Nat.not_lt_zero _)
    | succ n1 ih2 =>
      intro m_ iv4 hm5
      refine g_iload (pc := 4) (i := 5) (x := m_) hK dd_X4_addBargain_4 rfl ?_
      refine g_iloadn (pc := 6) (i := 2) (x := tk) hK dd_X4_addBargain_6 rfl rfl ?_
      refine g_icmp_lt (pc := 7) (tgt := 75) hK dd_X4_addBargain_7 (by decide) ⟨by omega, by omega⟩ ⟨by omega, by omega⟩ (fun c6 => ?_) (fun c6 => ?_)
      · refine g_vret (pc := 75) hK hr hlocks dd_X4_addBargain_75 ?_
        exact g_finM hQ (by rw [adG_e (m := m_) (by omega), adS_e (m := m_) (by omega)])
      · have hg1_ := hG m_.toNat (by omega)
        have hg2_ := hG (m_ - tk).toNat (by omega)
        refine g_aloadn (pc := 10) (i := 0) (x := 94) hK dd_X4_addBargain_10 rfl rfl ?_
        refine g_getv (pc := 11) (f := (1, 2)) (j := 1) (v := gR 96) hK (kdm kd_94) rfl ef_4 (by decide) rfl kk_357 dd_X4_addBargain_11 rfl ?_
        refine g_iload (pc := 14) (i := 5) (x := m_) hK dd_X4_addBargain_14 rfl ?_
        refine g_iloadn (pc := 16) (i := 2) (x := tk) hK dd_X4_addBargain_16 rfl rfl ?_
        refine g_isub (pc := 17) (z := m_ - tk) hK dd_X4_addBargain_17 rfl ?_
        refine g_iald (pc := 18) hK (kdm kd_96) nl_96 (by decide) dd_X4_addBargain_18 (by omega) (by omega) (fun x7 ex7 rx7 => ?_)
        replace ex7 : x7 = (adG (M 96) gn tk mi m_) ((m_ - tk).toNat) := by first | exact ex7 | (rw [ex7]; simp [up, us, cp, sr])
        rw [adG_lo (by omega)] at ex7
        refine g_iloadn (pc := 19) (i := 3) (x := gn) hK dd_X4_addBargain_19 rfl rfl ?_
        refine g_iadd (pc := 20) (z := x7 + gn) hK dd_X4_addBargain_20 rfl ?_
        refine g_aloadn (pc := 21) (i := 0) (x := 94) hK dd_X4_addBargain_21 rfl rfl ?_
        refine g_getv (pc := 22) (f := (1, 2)) (j := 1) (v := gR 96) hK (kdm kd_94) rfl ef_4 (by decide) rfl kk_357 dd_X4_addBargain_22 rfl ?_
        refine g_iload (pc := 25) (i := 5) (x := m_) hK dd_X4_addBargain_25 rfl ?_
        refine g_iald (pc := 27) hK (kdm kd_96) nl_96 (by decide) dd_X4_addBargain_27 (by omega) (by omega) (fun x8 ex8 rx8 => ?_)
        replace ex8 : x8 = (adG (M 96) gn tk mi m_) m_.toNat := by first | exact ex8 | (rw [ex8]; simp [up, us, cp, sr])
        rw [adG_lo (by omega)] at ex8
        refine g_icmp_le (pc := 28) (tgt := 69) hK dd_X4_addBargain_28 (by decide) ⟨by omega, by omega⟩ rx8 (fun c9 => ?_) (fun c9 => ?_)
        · refine g_iinc (pc := 69) (i := 5) (y := m_ - 1) (L' := [(0, gR 94), (1, gI t), (2, gI tk), (3, gI gn), (4, gI mi), (5, gI (m_ - 1))]) hK dd_X4_addBargain_69 rfl (by omega) (by decide) rfl ?_
          refine g_goto (pc := 72) (tgt := 4) hK dd_X4_addBargain_72 (by decide) ?_
          refine g_sub (L' := [(0, gR 94), (1, gI t), (2, gI tk), (3, gI gn), (4, gI mi), (5, gI (m_ - 1))]) [0, 1, 2, 3, 4, 5] rfl ?_
          refine g_mem (M2 := sr (sr M 95 (adS (M 95) (M 96) gn tk mi (jshl 1 t) (m_ - 1))) 96 (adG (M 96) gn tk mi (m_ - 1))) (by first | (rw [adG_x (m := m_) (by omega) (by omega), adS_x (m := m_) (by omega) (by omega)]) | (rw [← adG_y (m := m_) (by omega) (by omega) (by omega) (by omega), ← adS_y (m := m_) (by omega) (by omega) (by omega) (by omega)]; subst_vars; simp (disch := decide) only [Int.reduceToNat, up_sr, sr_cp, sr_k, sr_o, sr_sr, us_us, @sr_lt _ 96 95 _ _ (by decide)]; try rfl)) ?_
          exact ih2 (m_ - 1) (by omega) (by omega)
        · refine g_aloadn (pc := 31) (i := 0) (x := 94) hK dd_X4_addBargain_31 rfl rfl ?_
          refine g_getv (pc := 32) (f := (1, 2)) (j := 1) (v := gR 96) hK (kdm kd_94) rfl ef_4 (by decide) rfl kk_357 dd_X4_addBargain_32 rfl ?_
          refine g_iload (pc := 35) (i := 5) (x := m_) hK dd_X4_addBargain_35 rfl ?_
          refine g_aloadn (pc := 37) (i := 0) (x := 94) hK dd_X4_addBargain_37 rfl rfl ?_
          refine g_getv (pc := 38) (f := (1, 2)) (j := 1) (v := gR 96) hK (kdm kd_94) rfl ef_4 (by decide) rfl kk_357 dd_X4_addBargain_38 rfl ?_
          refine g_iload (pc := 41) (i := 5) (x := m_) hK dd_X4_addBargain_41 rfl ?_
          refine g_iloadn (pc := 43) (i := 2) (x := tk) hK dd_X4_addBargain_43 rfl rfl ?_
          refine g_isub (pc := 44) (z := m_ - tk) hK dd_X4_addBargain_44 rfl ?_
          refine g_iald (pc := 45) hK (kdm kd_96) nl_96 (by decide) dd_X4_addBargain_45 (by omega) (by omega) (fun x10 ex10 rx10 => ?_)
          replace ex10 : x10 = (adG (M 96) gn tk mi m_) ((m_ - tk).toNat) := by first | exact ex10 | (rw [ex10]; simp [up, us, cp, sr])
          rw [adG_lo (by omega)] at ex10
          refine g_iloadn (pc := 46) (i := 3) (x := gn) hK dd_X4_addBargain_46 rfl rfl ?_
          refine g_iadd (pc := 47) (z := x10 + gn) hK dd_X4_addBargain_47 rfl ?_
          refine g_iast (pc := 48) hK (kdm kd_96) nl_96 (by decide) (by decide) dd_X4_addBargain_48 (by omega) (by omega) ⟨by omega, by omega⟩ ?_
          refine g_aloadn (pc := 49) (i := 0) (x := 94) hK dd_X4_addBargain_49 rfl rfl ?_
          refine g_getv (pc := 50) (f := (1, 1)) (j := 0) (v := gR 95) hK (kdm kd_94) rfl ef_4 (by decide) rfl kk_356 dd_X4_addBargain_50 rfl ?_
          refine g_iload (pc := 53) (i := 5) (x := m_) hK dd_X4_addBargain_53 rfl ?_
          refine g_aloadn (pc := 55) (i := 0) (x := 94) hK dd_X4_addBargain_55 rfl rfl ?_
          refine g_getv (pc := 56) (f := (1, 1)) (j := 0) (v := gR 95) hK (kdm kd_94) rfl ef_4 (by decide) rfl kk_356 dd_X4_addBargain_56 rfl ?_
          refine g_iload (pc := 59) (i := 5) (x := m_) hK dd_X4_addBargain_59 rfl ?_
          refine g_iloadn (pc := 61) (i := 2) (x := tk) hK dd_X4_addBargain_61 rfl rfl ?_
          refine g_isub (pc := 62) (z := m_ - tk) hK dd_X4_addBargain_62 rfl ?_
          refine g_iald (pc := 63) hK (kdm kd_95) nl_95 (by decide) dd_X4_addBargain_63 (by omega) (by omega) (fun x11 ex11 rx11 => ?_)
          replace ex11 : x11 = (adS (M 95) (M 96) gn tk mi (jshl 1 t) m_) ((m_ - tk).toNat) := by first | exact ex11 | (rw [ex11]; simp [up, us, cp, sr])
          rw [adS_lo (by omega)] at ex11
          refine g_iconst (pc := 64) (x := 1) hK dd_X4_addBargain_64 (by decide) ?_
          refine g_iloadn (pc := 65) (i := 1) (x := t) hK dd_X4_addBargain_65 rfl rfl ?_
          refine g_ishl (pc := 66) (z := jshl 1 t) hK dd_X4_addBargain_66 rfl ?_
          refine g_ior (pc := 67) (z := jor x11 (jshl 1 t)) hK dd_X4_addBargain_67 rfl ?_
          refine g_iast (pc := 68) hK (kdm kd_95) nl_95 (by decide) (by decide) dd_X4_addBargain_68 (by omega) (by omega) (jor_in _ _) ?_
          refine g_iinc (pc := 69) (i := 5) (y := m_ - 1) (L' := [(0, gR 94), (1, gI t), (2, gI tk), (3, gI gn), (4, gI mi), (5, gI (m_ - 1))]) hK dd_X4_addBargain_69 rfl (by omega) (by decide) rfl ?_
          refine g_goto (pc := 72) (tgt := 4) hK dd_X4_addBargain_72 (by decide) ?_
          refine g_sub (L' := [(0, gR 94), (1, gI t), (2, gI tk), (3, gI gn), (4, gI mi), (5, gI (m_ - 1))]) [0, 1, 2, 3, 4, 5] rfl ?_
          refine g_mem (M2 := sr (sr M 95 (adS (M 95) (M 96) gn tk mi (jshl 1 t) (m_ - 1))) 96 (adG (M 96) gn tk mi (m_ - 1))) (by first | (rw [adG_x (m := m_) (by omega) (by omega), adS_x (m := m_) (by omega) (by omega)]) | (rw [← adG_y (m := m_) (by omega) (by omega) (by omega) (by omega), ← adS_y (m := m_) (by omega) (by omega) (by omega) (by omega)]; subst_vars; simp (disch := decide) only [Int.reduceToNat, up_sr, sr_cp, sr_k, sr_o, sr_sr, us_us, @sr_lt _ 96 95 _ _ (by decide)]; try rfl)) ?_
          exact ih2 (m_ - 1) (by omega) (by omega)
  refine g_mem (M2 := sr (sr M 95 (adS (M 95) (M 96) gn tk mi (jshl 1 t) mi)) 96 (adG (M 96) gn tk mi mi)) (by rw [adG_0, adS_0, sr_self]; exact sr_self.symm) ?_
  refine g_sub (L' := [(0, gR 94), (1, gI t), (2, gI tk), (3, gI gn), (4, gI mi), (5, gI mi)]) [0, 1, 2, 3, 4, 5] rfl ?_
  exact lp3 _ mi (by omega) (Nat.lt_succ_self _)
