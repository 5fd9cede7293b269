set_option maxHeartbeats 4000000 in
set_option maxRecDepth 100000 in
theorem c_addBargain {l : Launch} {M : Mem} {Pq : Option gV → Mem → Prop} (t : Int) (tk : Int) (gn : Int) (mi : Int) (p1 : 0 ≤ t ∧ t < 30) (p2 : 2 ≤ tk ∧ tk ≤ 7) (p3 : -999 ≤ gn ∧ gn ≤ 1049) (p4 : 0 ≤ mi ∧ mi ≤ 200) (hG : ∀ j : Nat, (j : Int) ≤ mi → 0 ≤ M 96 j ∧ M 96 j ≤ 40000) (hQ : Pq none (sr (sr M 95 (adS (M 95) (M 96) gn tk mi (jshl 1 t) (-1))) 96 (adG (M 96) gn tk mi (-1)))) : gCtr l my_X4_addBargain mb_X4_addBargain 6 ((none : Option Jvm.ClassFile.FieldType)) 1 [gR 94, gI t, gI tk, gI gn, gI mi] M Pq := by
  refine g_intro (by decide) (Nat.le_of_ble_eq_true rfl) ?_
  intro p e s m args below meth c D cy q A hK hr hlocks hw
  refine g_sub (L' := [(0, gR 94), (1, gI t), (2, gI tk), (3, gI gn), (4, gI mi)]) [0, 1, 2, 3, 4] rfl ?_
  refine g_iload (pc := 0) (i := 4) (x := mi) hK dd_X4_addBargain_0 rfl ?_
  refine g_istore (pc := 2) (i := 5) (L' := [(0, gR 94), (1, gI t), (2, gI tk), (3, gI gn), (4, gI mi), (5, gI mi)]) hK dd_X4_addBargain_2 (by decide) rfl ?_
  have lp3 : ∀ (n1 : Nat) (m_ : Int), (m_ ≤ mi ∧ -1 ≤ m_) → (m_ + 1).toNat < n1 → G p l e (rmD 1) s m args below meth c D cy q A 0 0 6 (MQ below (gQc D cy q A Pq) args s 0 0 A) 4 [(0, gR 94), (1, gI t), (2, gI tk), (3, gI gn), (4, gI mi), (5, gI m_)] [] (sr (sr M 95 (adS (M 95) (M 96) gn tk mi (jshl 1 t) m_)) 96 (adG (M 96) gn tk mi m_)) := by
    intro n1
    induction n1 with
    | zero => intro m_ iv4 hm5; exact absurd hm5 (Nat.not_lt_zero _)
    | succ n1 ih2 =>
      intro m_ iv4 hm5
      refine g_iload (pc := 4) (i := 5) (x := m_) hK dd_X4_addBargain_4 rfl ?_
      refine g_iloadn (pc := 6) (i := 2) (x := tk) hK dd_X4_addBargain_6 rfl rfl ?_
      refine g_icmp_lt (pc := 7) (tgt := 75) hK dd_X4_addBargain_7 (by decide) ⟨by omega, by omega⟩ ⟨by omega, by omega⟩ (fun c6 => ?_) (fun c6 => ?_)
      · refine g_vret (pc := 75) hK hr hlocks dd_X4_addBargain_75 ?_
        exact g_finM hQ (by rw [adG_e (m := m_) (by omega), adS_e (m := m_) (by omega)])
      · have hg1_ := hG m_.toNat (by omega)
        have hg2_ := hG (m_ - tk).toNat (by omega)
        refine g_aloadn (pc := 10) (i := 0) (x := 94) hK dd_X4_addBargain_10 rfl rfl ?_
        refine g_getv (pc := 11) (f := (1, 2)) (j := 1) (v := gR 96) hK (kdm kd_94) rfl ef_4 (by decide) rfl kk_357 dd_X4_addBargain_11 rfl ?_
        refine g_iload (pc := 14) (i := 5) (x := m_) hK dd_X4_addBargain_14 rfl ?_
        refine g_iloadn (pc := 16) (i := 2) (x := tk) hK dd_X4_addBargain_16 rfl rfl ?_
        refine g_isub (pc := 17) (z := m_ - tk) hK dd_X4_addBargain_17 rfl ?_
        refine g_iald (pc := 18) hK (kdm kd_96) nl_96 (by decide) dd_X4_addBargain_18 (by omega) (by omega) (fun x7 ex7 rx7 => ?_)
        replace ex7 : x7 = (adG (M 96) gn tk mi m_) ((m_ - tk).toNat) := by first | exact ex7 | (rw [ex7]; simp [up, us, cp, sr])
        rw [adG_lo (by omega)] at ex7
        refine g_iloadn (pc := 19) (i := 3) (x := gn) hK dd_X4_addBargain_19 rfl rfl ?_
        refine g_iadd (pc := 20) (z := x7 + gn) hK dd_X4_addBargain_20 rfl ?_
        refine g_aloadn (pc := 21) (i := 0) (x := 94) hK dd_X4_addBargain_21 rfl rfl ?_
        refine g_getv (pc := 22) (f := (1, 2)) (j := 1) (v := gR 96) hK (kdm kd_94) rfl ef_4 (by decide) rfl kk_357 dd_X4_addBargain_22 rfl ?_
        refine g_iload (pc := 25) (i := 5) (x := m_) hK dd_X4_addBargain_25 rfl ?_
        refine g_iald (pc := 27) hK (kdm kd_96) nl_96 (by decide) dd_X4_addBargain_27 (by omega) (by omega) (fun x8 ex8 rx8 => ?_)
        replace ex8 : x8 = (adG (M 96) gn tk mi m_) m_.toNat := by first | exact ex8 | (rw [ex8]; simp [up, us, cp, sr])
        rw [adG_lo (by omega)] at ex8
        refine g_icmp_le (pc := 28) (tgt := 69) hK dd_X4_addBargain_28 (by decide) ⟨by omega, by omega⟩ rx8 (fun c9 => ?_) (fun c9 => ?_)
        · refine g_iinc (pc := 69) (i := 5) (y := m_ - 1) (L' := [(0, gR 94), (1, gI t), (2, gI tk), (3, gI gn), (4, gI mi), (5, gI (m_ - 1))]) hK dd_X4_addBargain_69 rfl (by omega) (by decide) rfl ?_
          refine g_goto (pc := 72) (tgt := 4) hK dd_X4_addBargain_72 (by decide) ?_
          refine g_sub (L' := [(0, gR 94), (1, gI t), (2, gI tk), (3, gI gn), (4, gI mi), (5, gI (m_ - 1))]) [0, 1, 2, 3, 4, 5] rfl ?_
          refine g_mem (M2 := sr (sr M 95 (adS (M 95) (M 96) gn tk mi (jshl 1 t) (m_ - 1))) 96 (adG (M 96) gn tk mi (m_ - 1))) (by first | (rw [adG_x (m := m_) (by omega) (by omega), adS_x (m := m_) (by omega) (by omega)]) | (rw [← adG_y (m := m_) (by omega) (by omega) (by omega) (by omega), ← adS_y (m := m_) (by omega) (by omega) (by omega) (by omega)]; subst_vars; simp (disch := decide) only [Int.reduceToNat, up_sr, sr_cp, sr_k, sr_o, sr_sr, us_us, @sr_lt _ 96 95 _ _ (by decide)]; try rfl)) ?_
          exact ih2 (m_ - 1) (by omega) (by omega)
        · refine g_aloadn (pc := 31) (i := 0) (x := 94) hK dd_X4_addBargain_31 rfl rfl ?_
          refine g_getv (pc := 32) (f := (1, 2)) (j := 1) (v := gR 96) hK (kdm kd_94) rfl ef_4 (by decide) rfl kk_357 dd_X4_addBargain_32 rfl ?_
          refine g_iload (pc := 35) (i := 5) (x := m_) hK dd_X4_addBargain_35 rfl ?_
          refine g_aloadn (pc := 37) (i := 0) (x := 94) hK dd_X4_addBargain_37 rfl rfl ?_
          refine g_getv (pc := 38) (f := (1, 2)) (j := 1) (v := gR 96) hK (kdm kd_94) rfl ef_4 (by decide) rfl kk_357 dd_X4_addBargain_38 rfl ?_
          refine g_iload (pc := 41) (i := 5) (x := m_) hK dd_X4_addBargain_41 rfl ?_
          refine g_iloadn (pc := 43) (i := 2) (x := tk) hK dd_X4_addBargain_43 rfl rfl ?_
          refine g_isub (pc := 44) (z := m_ - tk) hK dd_X4_addBargain_44 rfl ?_
          refine g_iald (pc := 45) hK (kdm kd_96) nl_96 (by decide) dd_X4_addBargain_45 (by omega) (by omega) (fun x10 ex10 rx10 => ?_)
          replace ex10 : x10 = (adG (M 96) gn tk mi m_) ((m_ - tk).toNat) := by first | exact ex10 | (rw [ex10]; simp [up, us, cp, sr])
          rw [adG_lo (by omega)] at ex10
          refine g_iloadn (pc := 46) (i := 3) (x := gn) hK dd_X4_addBargain_46 rfl rfl ?_
          refine g_iadd (pc := 47) (z := x10 + gn) hK dd_X4_addBargain_47 rfl ?_
          refine g_iast (pc := 48) hK (kdm kd_96) nl_96 (by decide) (by decide) dd_X4_addBargain_48 (by omega) (by omega) ⟨by omega, by omega⟩ ?_
          refine g_aloadn (pc := 49) (i := 0) (x := 94) hK dd_X4_addBargain_49 rfl rfl ?_
          refine g_getv (pc := 50) (f := (1, 1)) (j := 0) (v := gR 95) hK (kdm kd_94) rfl ef_4 (by decide) rfl kk_356 dd_X4_addBargain_50 rfl ?_
          refine g_iload (pc := 53) (i := 5) (x := m_) hK dd_X4_addBargain_53 rfl ?_
          refine g_aloadn (pc := 55) (i := 0) (x := 94) hK dd_X4_addBargain_55 rfl rfl ?_
          refine g_getv (pc := 56) (f := (1, 1)) (j := 0) (v := gR 95) hK (kdm kd_94) rfl ef_4 (by decide) rfl kk_356 dd_X4_addBargain_56 rfl ?_
          refine g_iload (pc := 59) (i := 5) (x := m_) hK dd_X4_addBargain_59 rfl ?_
          refine g_iloadn (pc := 61) (i := 2) (x := tk) hK dd_X4_addBargain_61 rfl rfl ?_
          refine g_isub (pc := 62) (z := m_ - tk) hK dd_X4_addBargain_62 rfl ?_
          refine g_iald (pc := 63) hK (kdm kd_95) nl_95 (by decide) dd_X4_addBargain_63 (by omega) (by omega) (fun x11 ex11 rx11 => ?_)
          replace ex11 : x11 = (adS (M 95) (M 96) gn tk mi (jshl 1 t) m_) ((m_ - tk).toNat) := by first | exact ex11 | (rw [ex11]; simp [up, us, cp, sr])
          rw [adS_lo (by omega)] at ex11
          refine g_iconst (pc := 64) (x := 1) hK dd_X4_addBargain_64 (by decide) ?_
          refine g_iloadn (pc := 65) (i := 1) (x := t) hK dd_X4_addBargain_65 rfl rfl ?_
          refine g_ishl (pc := 66) (z := jshl 1 t) hK dd_X4_addBargain_66 rfl ?_
          refine g_ior (pc := 67) (z := jor x11 (jshl 1 t)) hK dd_X4_addBargain_67 rfl ?_
          refine g_iast (pc := 68) hK (kdm kd_95) nl_95 (by decide) (by decide) dd_X4_addBargain_68 (by omega) (by omega) (jor_in _ _) ?_
          refine g_iinc (pc := 69) (i := 5) (y := m_ - 1) (L' := [(0, gR 94), (1, gI t), (2, gI tk), (3, gI gn), (4, gI mi), (5, gI (m_ - 1))]) hK dd_X4_addBargain_69 rfl (by omega) (by decide) rfl ?_
          refine g_goto (pc := 72) (tgt := 4) hK dd_X4_addBargain_72 (by decide) ?_
          refine g_sub (L' := [(0, gR 94), (1, gI t), (2, gI tk), (3, gI gn), (4, gI mi), (5, gI (m_ - 1))]) [0, 1, 2, 3, 4, 5] rfl ?_
          refine g_mem (M2 := sr (sr M 95 (adS (M 95) (M 96) gn tk mi (jshl 1 t) (m_ - 1))) 96 (adG (M 96) gn tk mi (m_ - 1))) (by first | (rw [adG_x (m := m_) (by omega) (by omega), adS_x (m := m_) (by omega) (by omega)]) | (rw [← adG_y (m := m_) (by omega) (by omega) (by omega) (by omega), ← adS_y (m := m_) (by omega) (by omega) (by omega) (by omega)]; subst_vars; simp (disch := decide) only [Int.reduceToNat, up_sr, sr_cp, sr_k, sr_o, sr_sr, us_us, @sr_lt _ 96 95 _ _ (by decide)]; try rfl)) ?_
          exact ih2 (m_ - 1) (by omega) (by omega)
  refine g_mem (M2 := sr (sr M 95 (adS (M 95) (M 96) gn tk mi (jshl 1 t) mi)) 96 (adG (M 96) gn tk mi mi)) (by rw [adG_0, adS_0, sr_self]; exact sr_self.symm) ?_
  refine g_sub (L' := [(0, gR 94), (1, gI t), (2, gI tk), (3, gI gn), (4, gI mi), (5, gI mi)]) [0, 1, 2, 3, 4, 5] rfl ?_
  exact lp3 _ mi (by omega) (Nat.lt_succ_self _)
set_option maxHeartbeats 4000000 in
set_option maxRecDepth 100000 in
theorem c_bargains {l : Launch} {M : Mem} {Pq : Option gV → Mem → Prop} (mi : Int) (p4 : 0 ≤ mi ∧ mi ≤ 200) (hc : 0 ≤ M 6 6 ∧ M 6 6 ≤ 30) (hth : thOK M) (hQ : Pq (some (gI ((bgS (M 10) (M 11) (M 7) (TWf (M 7) (M 8) (M 9)) mi (puA (fun _ => 0) (M 95) (mi + 1).toNat) (puA (fun _ => 0) (M 96) (mi + 1).toNat) (M 6 6).toNat).1 mi.toNat))) (sr (sr M 95 (bgS (M 10) (M 11) (M 7) (TWf (M 7) (M 8) (M 9)) mi (puA (fun _ => 0) (M 95) (mi + 1).toNat) (puA (fun _ => 0) (M 96) (mi + 1).toNat) (M 6 6).toNat).1) 96 (bgS (M 10) (M 11) (M 7) (TWf (M 7) (M 8) (M 9)) mi (puA (fun _ => 0) (M 95) (mi + 1).toNat) (puA (fun _ => 0) (M 96) (mi + 1).toNat) (M 6 6).toNat).2)) : gCtr l my_X4_bargains mb_X4_bargains 4 ((some .int)) 4 [gR 94, gR 6, gI mi] M Pq := by
  refine g_intro (by decide) (Nat.le_of_ble_eq_true rfl) ?_
  intro p e s m args below meth c D cy q A hK hr hlocks hw
  refine g_sub (L' := [(0, gR 94), (1, gR 6), (2, gI mi)]) [0, 1, 2] rfl ?_
  refine g_iconst (pc := 0) (x := 0) hK dd_X4_bargains_0 (by decide) ?_
  refine g_istoren (pc := 1) (i := 3) (L' := [(0, gR 94), (1, gR 6), (2, gI mi), (3, gI 0)]) hK dd_X4_bargains_1 rfl (by decide) rfl ?_
  have lp3 : ∀ (n1 : Nat) (m_ : Int), (0 ≤ m_ ∧ m_ ≤ mi + 1) → (mi + 1 - m_).toNat < n1 → G p l e (rmD 4) s m args below meth c D cy q A 0 0 4 (MQ below (gQc D cy q A Pq) args s 0 0 A) 2 [(0, gR 94), (1, gR 6), (2, gI mi), (3, gI m_)] [] (sr (sr M 95 (puA (fun _ => 0) (M 95) m_.toNat)) 96 (puA (fun _ => 0) (M 96) m_.toNat)) := by
    intro n1
    induction n1 with
    | zero => intro m_ iv4 hm5; exact absurd hm5 (Nat.not_lt_zero _)
    | succ n1 ih2 =>
      intro m_ iv4 hm5
      refine g_iloadn (pc := 2) (i := 3) (x := m_) hK dd_X4_bargains_2 rfl rfl ?_
      refine g_iloadn (pc := 3) (i := 2) (x := mi) hK dd_X4_bargains_3 rfl rfl ?_
      refine g_icmp_gt (pc := 4) (tgt := 27) hK dd_X4_bargains_4 (by decide) ⟨by omega, by omega⟩ ⟨by omega, by omega⟩ (fun c6 => ?_) (fun c6 => ?_)
      · refine g_iconst (pc := 27) (x := 0) hK dd_X4_bargains_27 (by decide) ?_
        refine g_istoren (pc := 28) (i := 3) (L' := [(0, gR 94), (1, gR 6), (2, gI mi), (3, gI 0)]) hK dd_X4_bargains_28 rfl (by decide) rfl ?_
        have lp9 : ∀ (n7 : Nat) (t : Int), (0 ≤ t ∧ t ≤ M 6 6) → (M 6 6 - t).toNat < n7 → G p l e (rmD 4) s m args below meth c D cy q A 0 0 4 (MQ below (gQc D cy q A Pq) args s 0 0 A) 29 [(0, gR 94), (1, gR 6), (2, gI mi), (3, gI t)] [] (sr (sr M 95 (bgS (M 10) (M 11) (M 7) (TWf (M 7) (M 8) (M 9)) mi (puA (fun _ => 0) (M 95) (mi + 1).toNat) (puA (fun _ => 0) (M 96) (mi + 1).toNat) t.toNat).1) 96 (bgS (M 10) (M 11) (M 7) (TWf (M 7) (M 8) (M 9)) mi (puA (fun _ => 0) (M 95) (mi + 1).toNat) (puA (fun _ => 0) (M 96) (mi + 1).toNat) t.toNat).2) := by
          intro n7
          induction n7 with
          | zero => intro t iv10 hm11; exact absurd hm11 (Nat.not_lt_zero _)
          | succ n7 ih8 =>
            intro t iv10 hm11
            refine g_iloadn (pc := 29) (i := 3) (x := t) hK dd_X4_bargains_29 rfl rfl ?_
            refine g_aloadn (pc := 30) (i := 1) (x := 6) hK dd_X4_bargains_30 rfl rfl ?_
            refine g_geti (pc := 31) (f := (0, 0)) (j := 6) hK (kdm kd_6) rfl ef_10 (by decide) rfl kk_87 nl_6 dd_X4_bargains_31 rfl (fun x12 ex12 rx12 => ?_)
            replace ex12 : x12 = M 6 6 := ex12
            refine g_icmp_ge (pc := 34) (tgt := 77) hK dd_X4_bargains_34 (by decide) ⟨by omega, by omega⟩ rx12 (fun c13 => ?_) (fun c13 => ?_)
            · refine g_aloadn (pc := 77) (i := 0) (x := 94) hK dd_X4_bargains_77 rfl rfl ?_
              refine g_getv (pc := 78) (f := (1, 1)) (j := 0) (v := gR 95) hK (kdm kd_94) rfl ef_4 (by decide) rfl kk_356 dd_X4_bargains_78 rfl ?_
              refine g_iloadn (pc := 81) (i := 2) (x := mi) hK dd_X4_bargains_81 rfl rfl ?_
              refine g_iald (pc := 82) hK (kdm kd_95) nl_95 (by decide) dd_X4_bargains_82 (by omega) (by omega) (fun x14 ex14 rx14 => ?_)
              replace ex14 : x14 = ((bgS (M 10) (M 11) (M 7) (TWf (M 7) (M 8) (M 9)) mi (puA (fun _ => 0) (M 95) (mi + 1).toNat) (puA (fun _ => 0) (M 96) (mi + 1).toNat) t.toNat).1) mi.toNat := by first | exact ex14 | (rw [ex14]; simp [up, us, cp, sr])
              refine g_iret (pc := 83) hK hr hlocks dd_X4_bargains_83 rfl ?_
              exact g_fin hQ (by subst_vars; rw [show M 6 6 = t by omega]) (by rw [show M 6 6 = t by omega])
            · have htt := hth t.toNat (by omega)
              refine g_aloadn (pc := 37) (i := 1) (x := 6) hK dd_X4_bargains_37 rfl rfl ?_
              refine g_iloadn (pc := 38) (i := 3) (x := t) hK dd_X4_bargains_38 rfl rfl ?_
              refine g_callV (pc := 39) (As := [gI t]) hK ws_Picks_24 md_X10_isOffered ⟨Nat.zero_le _, Nat.zero_le _⟩ ⟨by decide, by decide⟩ (kdm kd_6) rfl rfl dd_X4_bargains_39 rfl rfl (Nat.le_of_ble_eq_true rfl) (c_isOffered t (show 0 ≤ t by omega) (show t < 30 by omega) (fun c15 => g_r1 ?_) (fun c15 => g_r1 ?_))
              · refine g_if_eq (pc := 42) (tgt := 71) hK dd_X4_bargains_42 (by decide) (by decide) (fun c16 => absurd c16 (by decide)) (fun _ => ?_)
                have hyo_ : ¬ M 10 t.toNat = -1 ∧ M 11 t.toNat = -1 := c15
                have htw := TW_in (M 7 t.toNat) (M 9 t.toNat) htt.2.1.1 htt.2.1.2
                have hG1_ := bgS_in (P := M 10) (B := M 11) (K := M 7) (T := TWf (M 7) (M 8) (M 9)) (mi := mi) (S0 := puA (fun _ => 0) (M 95) (mi + 1).toNat) (G0 := puA (fun _ => 0) (M 96) (mi + 1).toNat) (fun j hj => (hth j hj).2.2.2.1) (fun j hj => (hth j hj).1) (TWx_in hth) (fun j hj => by unfold puA; rw [if_pos (by omega)]) t.toNat (by omega)
                have hG_ : ∀ j : Nat, (j : Int) ≤ mi → 0 ≤ (bgS (M 10) (M 11) (M 7) (TWf (M 7) (M 8) (M 9)) mi (puA (fun _ => 0) (M 95) (mi + 1).toNat) (puA (fun _ => 0) (M 96) (mi + 1).toNat) t.toNat).2 j ∧ (bgS (M 10) (M 11) (M 7) (TWf (M 7) (M 8) (M 9)) mi (puA (fun _ => 0) (M 95) (mi + 1).toNat) (puA (fun _ => 0) (M 96) (mi + 1).toNat) t.toNat).2 j ≤ 40000 := fun j hj => by have q_ := hG1_ j hj; omega
                refine g_aloadn (pc := 45) (i := 0) (x := 94) hK dd_X4_bargains_45 rfl rfl ?_
                refine g_iloadn (pc := 46) (i := 3) (x := t) hK dd_X4_bargains_46 rfl rfl ?_
                refine g_iconst (pc := 47) (x := 2) hK dd_X4_bargains_47 (by decide) ?_
                refine g_aloadn (pc := 48) (i := 1) (x := 6) hK dd_X4_bargains_48 rfl rfl ?_
                refine g_getv (pc := 49) (f := (1, 1)) (j := 0) (v := gR 7) hK (kdm kd_6) rfl ef_10 (by decide) rfl kk_67 dd_X4_bargains_49 rfl ?_
                refine g_iloadn (pc := 52) (i := 3) (x := t) hK dd_X4_bargains_52 rfl rfl ?_
                refine g_iald (pc := 53) hK (kdm kd_7) nl_7 (by decide) dd_X4_bargains_53 (by omega) (by omega) (fun x17 ex17 rx17 => ?_)
                replace ex17 : x17 = M 7 t.toNat := ex17
                refine g_iadd (pc := 54) (z := 2 + x17) hK dd_X4_bargains_54 rfl ?_
                refine g_aloadn (pc := 55) (i := 1) (x := 6) hK dd_X4_bargains_55 rfl rfl ?_
                refine g_iloadn (pc := 56) (i := 3) (x := t) hK dd_X4_bargains_56 rfl rfl ?_
                refine g_callV (pc := 57) (As := [gI t]) hK ws_Picks_31 md_X10_trueWorth ⟨Nat.zero_le _, Nat.zero_le _⟩ ⟨by decide, by decide⟩ (kdm kd_6) rfl rfl dd_X4_bargains_57 rfl rfl (Nat.le_of_ble_eq_true rfl) (c_trueWorth t (by omega) (by omega) hth (g_r1 ?_))
                refine g_topI (fun y18 ey18 => ?_)
                replace ey18 : y18 = TW (M 7 t.toNat) (M 8 t.toNat) (M 9 t.toNat) := ey18
                refine g_aloadn (pc := 60) (i := 1) (x := 6) hK dd_X4_bargains_60 rfl rfl ?_
                refine g_getv (pc := 61) (f := (1, 4)) (j := 3) (v := gR 10) hK (kdm kd_6) rfl ef_10 (by decide) rfl kk_75 dd_X4_bargains_61 rfl ?_
                refine g_iloadn (pc := 64) (i := 3) (x := t) hK dd_X4_bargains_64 rfl rfl ?_
                refine g_iald (pc := 65) hK (kdm kd_10) nl_10 (by decide) dd_X4_bargains_65 (by omega) (by omega) (fun x19 ex19 rx19 => ?_)
                replace ex19 : x19 = M 10 t.toNat := ex19
                refine g_isub (pc := 66) (z := y18 - x19) hK dd_X4_bargains_66 rfl ?_
                refine g_iloadn (pc := 67) (i := 2) (x := mi) hK dd_X4_bargains_67 rfl rfl ?_
                refine g_callV (pc := 68) (As := [gI t, gI (2 + x17), gI (y18 - x19), gI mi]) hK ws_Picks_38 md_X4_addBargain ⟨Nat.zero_le _, Nat.zero_le _⟩ ⟨by decide, by decide⟩ (kdm kd_94) rfl rfl dd_X4_bargains_68 rfl rfl (Nat.le_of_ble_eq_true rfl) (c_addBargain t (2 + x17) (y18 - x19) mi (by omega) (by omega) (by omega) (by omega) hG_ (g_r0 ?_))
                skip
                refine g_iinc (pc := 71) (i := 3) (y := t + 1) (L' := [(0, gR 94), (1, gR 6), (2, gI mi), (3, gI (t + 1))]) hK dd_X4_bargains_71 rfl rfl (by decide) rfl ?_
                refine g_goto (pc := 74) (tgt := 29) hK dd_X4_bargains_74 (by decide) ?_
                refine g_sub (L' := [(0, gR 94), (1, gR 6), (2, gI mi), (3, gI (t + 1))]) [0, 1, 2, 3] rfl ?_
                refine g_mem (M2 := sr (sr M 95 (bgS (M 10) (M 11) (M 7) (TWf (M 7) (M 8) (M 9)) mi (puA (fun _ => 0) (M 95) (mi + 1).toNat) (puA (fun _ => 0) (M 96) (mi + 1).toNat) (t + 1).toNat).1) 96 (bgS (M 10) (M 11) (M 7) (TWf (M 7) (M 8) (M 9)) mi (puA (fun _ => 0) (M 95) (mi + 1).toNat) (puA (fun _ => 0) (M 96) (mi + 1).toNat) (t + 1).toNat).2) (by rw [tn1 (t := t) (by omega)]; simp only [bgS]; first | (rw [if_neg hno_]) | (rw [if_pos hyo_, show ((t.toNat : Nat) : Int) = t by omega]; subst_vars; simp (disch := decide) only [Int.reduceToNat, up_sr, sr_cp, sr_k, sr_o, sr_sr, us_us, @sr_lt _ 96 95 _ _ (by decide)]; try rfl)) ?_
                exact ih8 (t + 1) (by omega) (by omega)
              · refine g_if_eq (pc := 42) (tgt := 71) hK dd_X4_bargains_42 (by decide) (by decide) (fun _ => ?_) (fun c20 => absurd (by decide) c20)
                have hno_ : ¬ (¬ M 10 t.toNat = -1 ∧ M 11 t.toNat = -1) := c15
                refine g_iinc (pc := 71) (i := 3) (y := t + 1) (L' := [(0, gR 94), (1, gR 6), (2, gI mi), (3, gI (t + 1))]) hK dd_X4_bargains_71 rfl rfl (by decide) rfl ?_
                refine g_goto (pc := 74) (tgt := 29) hK dd_X4_bargains_74 (by decide) ?_
                refine g_sub (L' := [(0, gR 94), (1, gR 6), (2, gI mi), (3, gI (t + 1))]) [0, 1, 2, 3] rfl ?_
                refine g_mem (M2 := sr (sr M 95 (bgS (M 10) (M 11) (M 7) (TWf (M 7) (M 8) (M 9)) mi (puA (fun _ => 0) (M 95) (mi + 1).toNat) (puA (fun _ => 0) (M 96) (mi + 1).toNat) (t + 1).toNat).1) 96 (bgS (M 10) (M 11) (M 7) (TWf (M 7) (M 8) (M 9)) mi (puA (fun _ => 0) (M 95) (mi + 1).toNat) (puA (fun _ => 0) (M 96) (mi + 1).toNat) (t + 1).toNat).2) (by rw [tn1 (t := t) (by omega)]; simp only [bgS]; first | (rw [if_neg hno_]) | (rw [if_pos hyo_, show ((t.toNat : Nat) : Int) = t by omega]; subst_vars; simp (disch := decide) only [Int.reduceToNat, up_sr, sr_cp, sr_k, sr_o, sr_sr, us_us, @sr_lt _ 96 95 _ _ (by decide)]; try rfl)) ?_
                exact ih8 (t + 1) (by omega) (by omega)
        refine g_mem (M2 := sr (sr M 95 (bgS (M 10) (M 11) (M 7) (TWf (M 7) (M 8) (M 9)) mi (puA (fun _ => 0) (M 95) (mi + 1).toNat) (puA (fun _ => 0) (M 96) (mi + 1).toNat) (0 : Int).toNat).1) 96 (bgS (M 10) (M 11) (M 7) (TWf (M 7) (M 8) (M 9)) mi (puA (fun _ => 0) (M 95) (mi + 1).toNat) (puA (fun _ => 0) (M 96) (mi + 1).toNat) (0 : Int).toNat).2) (by rw [show m_.toNat = (mi + 1).toNat by omega]; rfl) ?_
        refine g_sub (L' := [(0, gR 94), (1, gR 6), (2, gI mi), (3, gI 0)]) [0, 1, 2, 3] rfl ?_
        exact lp9 _ 0 (by omega) (Nat.lt_succ_self _)
      · refine g_aloadn (pc := 7) (i := 0) (x := 94) hK dd_X4_bargains_7 rfl rfl ?_
        refine g_getv (pc := 8) (f := (1, 1)) (j := 0) (v := gR 95) hK (kdm kd_94) rfl ef_4 (by decide) rfl kk_356 dd_X4_bargains_8 rfl ?_
        refine g_iloadn (pc := 11) (i := 3) (x := m_) hK dd_X4_bargains_11 rfl rfl ?_
        refine g_iconst (pc := 12) (x := 0) hK dd_X4_bargains_12 (by decide) ?_
        refine g_iast (pc := 13) hK (kdm kd_95) nl_95 (by decide) (by decide) dd_X4_bargains_13 (by omega) (by omega) (by decide) ?_
        refine g_aloadn (pc := 14) (i := 0) (x := 94) hK dd_X4_bargains_14 rfl rfl ?_
        refine g_getv (pc := 15) (f := (1, 2)) (j := 1) (v := gR 96) hK (kdm kd_94) rfl ef_4 (by decide) rfl kk_357 dd_X4_bargains_15 rfl ?_
        refine g_iloadn (pc := 18) (i := 3) (x := m_) hK dd_X4_bargains_18 rfl rfl ?_
        refine g_iconst (pc := 19) (x := 0) hK dd_X4_bargains_19 (by decide) ?_
        refine g_iast (pc := 20) hK (kdm kd_96) nl_96 (by decide) (by decide) dd_X4_bargains_20 (by omega) (by omega) (by decide) ?_
        refine g_iinc (pc := 21) (i := 3) (y := m_ + 1) (L' := [(0, gR 94), (1, gR 6), (2, gI mi), (3, gI (m_ + 1))]) hK dd_X4_bargains_21 rfl rfl (by decide) rfl ?_
        refine g_goto (pc := 24) (tgt := 2) hK dd_X4_bargains_24 (by decide) ?_
        refine g_sub (L' := [(0, gR 94), (1, gR 6), (2, gI mi), (3, gI (m_ + 1))]) [0, 1, 2, 3] rfl ?_
        refine g_mem (M2 := sr (sr M 95 (puA (fun _ => 0) (M 95) (m_ + 1).toNat)) 96 (puA (fun _ => 0) (M 96) (m_ + 1).toNat)) (by rw [tn1 (t := m_) (by omega), ← @puA_s (fun _ => 0) (M 95) m_.toNat 0 rfl, ← @puA_s (fun _ => 0) (M 96) m_.toNat 0 rfl]; simp (disch := decide) only [Int.reduceToNat, up_sr, sr_cp, sr_k, sr_o, sr_sr, us_us, @sr_lt _ 96 95 _ _ (by decide)]; try rfl) ?_
        exact ih2 (m_ + 1) (by omega) (by omega)
  refine g_mem (M2 := sr (sr M 95 (puA (fun _ => 0) (M 95) (0 : Int).toNat)) 96 (puA (fun _ => 0) (M 96) (0 : Int).toNat)) (by show M = sr (sr M 95 (puA (fun _ => 0) (M 95) 0)) 96 (puA (fun _ => 0) (M 96) 0); rw [puA_0, puA_0, sr_self]; exact sr_self.symm) ?_
  refine g_sub (L' := [(0, gR 94), (1, gR 6), (2, gI mi), (3, gI 0)]) [0, 1, 2, 3] rfl ?_
  exact lp3 _ 0 (by omega) (Nat.lt_succ_self _)
set_option maxHeartbeats 4000000 in
set_option maxRecDepth 100000 in
theorem x_shown {l : Launch} {M : Mem} {Pq : Option gV → Mem → Prop} (mi : Int) (h_mi : inI mi) (hrf : rfOK M) (hc : 0 ≤ M 6 6 ∧ M 6 6 ≤ 30) (hth : thOK M) (hB : (¬ (0 ≤ mi ∧ mi ≤ 200)) → Pq (some (gI (-2))) (rf M 0)) (hY : (0 ≤ mi ∧ mi ≤ 200) → Pq (some (gI ((bgS (M 10) (M 11) (M 7) (TWf (M 7) (M 8) (M 9)) mi (puA (fun _ => 0) (M 95) (mi + 1).toNat) (puA (fun _ => 0) (M 96) (mi + 1).toNat) (M 6 6).toNat).1 mi.toNat))) (sr (sr M 95 (bgS (M 10) (M 11) (M 7) (TWf (M 7) (M 8) (M 9)) mi (puA (fun _ => 0) (M 95) (mi + 1).toNat) (puA (fun _ => 0) (M 96) (mi + 1).toNat) (M 6 6).toNat).1) 96 (bgS (M 10) (M 11) (M 7) (TWf (M 7) (M 8) (M 9)) mi (puA (fun _ => 0) (M 95) (mi + 1).toNat) (puA (fun _ => 0) (M 96) (mi + 1).toNat) (M 6 6).toNat).2)) : gCtr l my_X11_shown mb_X11_shown 2 ((some .int)) 5 [gR 0, gI mi] M Pq := by
  refine g_intro (by decide) (Nat.le_of_ble_eq_true rfl) ?_
  intro p e s m args below meth c D cy q A hK hr hlocks hw
  refine g_sub (L' := [(0, gR 0), (1, gI mi)]) [0, 1] rfl ?_
  refine g_iloadn (pc := 0) (i := 1) (x := mi) hK dd_X11_shown_0 rfl rfl ?_
  refine g_iconst (pc := 1) (x := 0) hK dd_X11_shown_1 (by decide) ?_
  refine g_sipush (pc := 2) (x := 200) hK dd_X11_shown_2 (by decide) ?_
  refine g_callT (pc := 5) (As := [gI mi, gI 0, gI 200]) hK ws_X_59 md_X11_within ⟨Nat.zero_le _, Nat.zero_le _⟩ ⟨by decide, by decide⟩ dd_X11_shown_5 rfl rfl (Nat.le_of_ble_eq_true rfl) (c_within mi 0 200 h_mi (by decide) (by decide) (fun c1 => g_r1 ?_) (fun c1 => g_r1 ?_))
  · refine g_if_ne (pc := 8) (tgt := 18) hK dd_X11_shown_8 (by decide) (by decide) (fun _ => ?_) (fun c2 => absurd (by decide) c2)
    refine g_aloadn (pc := 18) (i := 0) (x := 0) hK dd_X11_shown_18 rfl rfl ?_
    refine g_getv (pc := 19) (f := (1, 94)) (j := 6) (v := gR 94) hK (kdm kd_0) rfl ef_11 (by decide) rfl kk_388 dd_X11_shown_19 rfl ?_
    refine g_aloadn (pc := 22) (i := 0) (x := 0) hK dd_X11_shown_22 rfl rfl ?_
    refine g_getv (pc := 23) (f := (1, 5)) (j := 3) (v := gR 5) hK (kdm kd_0) rfl ef_11 (by decide) rfl kk_385 dd_X11_shown_23 rfl ?_
    refine g_getv (pc := 26) (f := (1, 1)) (j := 0) (v := gR 6) hK (kdm kd_5) rfl ef_1 (by decide) rfl kk_260 dd_X11_shown_26 rfl ?_
    refine g_iloadn (pc := 29) (i := 1) (x := mi) hK dd_X11_shown_29 rfl rfl ?_
    refine g_callV (pc := 30) (As := [gR 6, gI mi]) hK ws_X_299 md_X4_bargains ⟨Nat.zero_le _, Nat.zero_le _⟩ ⟨by decide, by decide⟩ (kdm kd_94) rfl rfl dd_X11_shown_30 rfl rfl (Nat.le_of_ble_eq_true rfl) (c_bargains mi (by omega) hc hth (g_r1 ?_))
    refine g_topI (fun y3 ey3 => ?_)
    refine g_iret (pc := 33) hK hr hlocks dd_X11_shown_33 rfl ?_
    first | exact g_fin (hB (by first | omega | (subst_vars; omega) | exact ⟨by first | assumption | omega | (subst_vars; first | assumption | omega), by first | assumption | omega | (subst_vars; first | assumption | omega)⟩)) (by first | rfl | omega | (subst_vars; first | rfl | omega)) (by first | rfl | (subst_vars; rfl)) | exact g_fin (hY (by first | omega | (subst_vars; omega) | exact ⟨by first | assumption | omega | (subst_vars; first | assumption | omega), by first | assumption | omega | (subst_vars; first | assumption | omega)⟩)) (by first | rfl | omega | (subst_vars; first | rfl | omega)) (by first | rfl | (subst_vars; rfl)) | (exfalso; omega)
  · refine g_if_ne (pc := 8) (tgt := 18) hK dd_X11_shown_8 (by decide) (by decide) (fun c4 => absurd c4 (by decide)) (fun _ => ?_)
    refine g_aloadn (pc := 11) (i := 0) (x := 0) hK dd_X11_shown_11 rfl rfl ?_
    refine g_bipush (pc := 12) (x := (-2)) hK dd_X11_shown_12 (by decide) ?_
    refine g_callV (pc := 14) (As := [gI (-2)]) hK ws_X_63 md_X11_refuse ⟨Nat.zero_le _, Nat.zero_le _⟩ ⟨by decide, by decide⟩ (kdm kd_0) rfl rfl dd_X11_shown_14 rfl rfl (Nat.le_of_ble_eq_true rfl) (c_refuse_0 hrf (g_r1 ?_))
    refine g_iret (pc := 17) hK hr hlocks dd_X11_shown_17 rfl ?_
    first | exact g_fin (hB (by first | omega | (subst_vars; omega) | exact ⟨by first | assumption | omega | (subst_vars; first | assumption | omega), by first | assumption | omega | (subst_vars; first | assumption | omega)⟩)) (by first | rfl | omega | (subst_vars; first | rfl | omega)) (by first | rfl | (subst_vars; rfl)) | exact g_fin (hY (by first | omega | (subst_vars; omega) | exact ⟨by first | assumption | omega | (subst_vars; first | assumption | omega), by first | assumption | omega | (subst_vars; first | assumption | omega)⟩)) (by first | rfl | omega | (subst_vars; first | rfl | omega)) (by first | rfl | (subst_vars; rfl)) | (exfalso; omega)
