set_option maxHeartbeats 4000000 in
set_option maxRecDepth 100000 in
theorem c_findHidden {l : Launch} {M : Mem} {Pq : Option gV → Mem → Prop} (hec : 0 ≤ M 35 2 ∧ M 35 2 ≤ 10) (hse : ∀ j : Nat, j < 10 → (j : Int) < M 35 2 → (0 ≤ M 36 j ∧ M 36 j < 30) ∧ 0 ≤ M 37 j ∧ M 37 j ≤ 15) (hQ : Pq none (sr (sr (sr M 35 (us (M 35) 7 (hdS (M 36) (M 37) (M 38) (M 35 2).toNat (M 39) (M 40) 30).2.2)) 39 (hdS (M 36) (M 37) (M 38) (M 35 2).toNat (M 39) (M 40) 30).1) 40 (hdS (M 36) (M 37) (M 38) (M 35 2).toNat (M 39) (M 40) 30).2.1)) : gCtr l my_X6_findHidden mb_X6_findHidden 5 ((none : Option Jvm.ClassFile.FieldType)) 1 [gR 35] M Pq := by
  refine g_intro (by decide) (Nat.le_of_ble_eq_true rfl) ?_
  intro p e s m args below meth c D cy q A hK hr hlocks hw
  refine g_sub (L' := [(0, gR 35)]) [0] rfl ?_
  refine g_aloadn (pc := 0) (i := 0) (x := 35) hK dd_X6_findHidden_0 rfl rfl ?_
  refine g_iconst (pc := 1) (x := 0) hK dd_X6_findHidden_1 (by decide) ?_
  refine g_puti (pc := 2) (f := (0, 0)) (j := 7) (ty := .int) hK (kdm kd_35) rfl ef_6 (by decide) rfl kk_237 nl_35 (by decide) dd_X6_findHidden_2 rfl rfl rfl rfl rfl (by decide) ?_
  refine g_iconst (pc := 5) (x := 0) hK dd_X6_findHidden_5 (by decide) ?_
  refine g_istoren (pc := 6) (i := 1) (L' := [(0, gR 35), (1, gI 0)]) hK dd_X6_findHidden_6 rfl (by decide) rfl ?_
  have lp3 : ∀ (n1 : Nat) (t : Int), (0 ≤ t ∧ t ≤ 30) → (30 - t).toNat < n1 → G p l e (rmD 1) s m args below meth c D cy q A 0 0 5 (MQ below (gQc D cy q A Pq) args s 0 0 A) 7 [(0, gR 35), (1, gI t)] [] (sr (sr (sr M 35 (us (M 35) 7 (hdS (M 36) (M 37) (M 38) (M 35 2).toNat (M 39) (M 40) t.toNat).2.2)) 39 (hdS (M 36) (M 37) (M 38) (M 35 2).toNat (M 39) (M 40) t.toNat).1) 40 (hdS (M 36) (M 37) (M 38) (M 35 2).toNat (M 39) (M 40) t.toNat).2.1) := by
    intro n1
    induction n1 with
    | zero => intro t iv4 hm5; exact absurd hm5 (Nat.not_lt_zero _)
    | succ n1 ih2 =>
      intro t iv4 hm5
      refine g_iloadn (pc := 7) (i := 1) (x := t) hK dd_X6_findHidden_7 rfl rfl ?_
      refine g_bipush (pc := 8) (x := 30) hK dd_X6_findHidden_8 (by decide) ?_
      have hds_ := hdS_in (th := M 36) (pe := M 37) (se := M 38) (n := (M 35 2).toNat) (h0 := M 39) (s0 := M 40) t.toNat
      refine g_icmp_ge (pc := 10) (tgt := 118) hK dd_X6_findHidden_10 (by decide) ⟨by omega, by omega⟩ (by decide) (fun c6 => ?_) (fun c6 => ?_)
      · refine g_vret (pc := 118) hK hr hlocks dd_X6_findHidden_118 ?_
        exact g_finM hQ (by rw [show t.toNat = 30 by omega])
      · refine g_iconst (pc := 13) (x := 0) hK dd_X6_findHidden_13 (by decide) ?_
        refine g_istoren (pc := 14) (i := 2) (L' := [(0, gR 35), (1, gI t), (2, gI 0)]) hK dd_X6_findHidden_14 rfl (by decide) rfl ?_
        refine g_iconst (pc := 15) (x := 0) hK dd_X6_findHidden_15 (by decide) ?_
        refine g_istoren (pc := 16) (i := 3) (L' := [(0, gR 35), (1, gI t), (2, gI 0), (3, gI 0)]) hK dd_X6_findHidden_16 rfl (by decide) rfl ?_
        refine g_iconst (pc := 17) (x := 0) hK dd_X6_findHidden_17 (by decide) ?_
        refine g_istore (pc := 18) (i := 4) (L' := [(0, gR 35), (1, gI t), (2, gI 0), (3, gI 0), (4, gI 0)]) hK dd_X6_findHidden_18 (by decide) rfl ?_
        have lp9 : ∀ (n7 : Nat) (fo : Int) (wa : Int) (i : Int), (0 ≤ i ∧ i ≤ M 35 2) → (fo = fdN (M 36) t i.toNat) → (wa = watN (M 36) (M 37) (M 38) t i.toNat) → (M 35 2 - i).toNat < n7 → G p l e (rmD 1) s m args below meth c D cy q A 0 0 5 (MQ below (gQc D cy q A Pq) args s 0 0 A) 20 [(0, gR 35), (1, gI t), (2, gI fo), (3, gI wa), (4, gI i)] [] (sr (sr (sr M 35 (us (M 35) 7 (hdS (M 36) (M 37) (M 38) (M 35 2).toNat (M 39) (M 40) t.toNat).2.2)) 39 (hdS (M 36) (M 37) (M 38) (M 35 2).toNat (M 39) (M 40) t.toNat).1) 40 (hdS (M 36) (M 37) (M 38) (M 35 2).toNat (M 39) (M 40) t.toNat).2.1) := by
          intro n7
          induction n7 with
          | zero => intro fo wa i iv10 hfo_ hwa_ hm11; exact absurd hm11 (Nat.not_lt_zero _)
          | succ n7 ih8 =>
            intro fo wa i iv10 hfo_ hwa_ hm11
            refine g_iload (pc := 20) (i := 4) (x := i) hK dd_X6_findHidden_20 rfl ?_
            have hfi_ := fdN_in (M 36) t i.toNat
            have hwi_ := watN_in (M 36) (M 37) (M 38) t i.toNat
            rw [← hwa_] at hwi_
            refine g_aloadn (pc := 22) (i := 0) (x := 35) hK dd_X6_findHidden_22 rfl rfl ?_
            refine g_geti (pc := 23) (f := (0, 0)) (j := 2) hK (kdm kd_35) rfl ef_6 (by decide) rfl kk_230 nl_35 dd_X6_findHidden_23 rfl (fun x12 ex12 rx12 => ?_)
            replace ex12 : x12 = (us (M 35) 7 (hdS (M 36) (M 37) (M 38) (M 35 2).toNat (M 39) (M 40) t.toNat).2.2) 2 := by first | exact ex12 | (rw [ex12]; simp [up, us, cp, sr])
            replace ex12 : x12 = M 35 2 := ex12
            refine g_icmp_ge (pc := 26) (tgt := 64) hK dd_X6_findHidden_26 (by decide) ⟨by omega, by omega⟩ rx12 (fun c13 => ?_) (fun c13 => ?_)
            · have hfn_ : fo = fdN (M 36) t (M 35 2).toNat := by rw [hfo_, show M 35 2 = i by omega]
              have hwn_ : wa = watN (M 36) (M 37) (M 38) t (M 35 2).toNat := by rw [hwa_, show M 35 2 = i by omega]
              refine g_iloadn (pc := 64) (i := 2) (x := fo) hK dd_X6_findHidden_64 rfl rfl ?_
              refine g_if_le (pc := 65) (tgt := 112) hK dd_X6_findHidden_65 (by decide) ⟨by omega, by omega⟩ (fun c14 => ?_) (fun c14 => ?_)
              · refine g_iinc (pc := 112) (i := 1) (y := t + 1) (L' := [(0, gR 35), (1, gI (t + 1)), (2, gI fo), (3, gI wa), (4, gI i)]) hK dd_X6_findHidden_112 rfl rfl (by decide) rfl ?_
                refine g_goto (pc := 115) (tgt := 7) hK dd_X6_findHidden_115 (by decide) ?_
                refine g_sub (L' := [(0, gR 35), (1, gI (t + 1))]) [0, 1] rfl ?_
                refine g_mem (M2 := sr (sr (sr M 35 (us (M 35) 7 (hdS (M 36) (M 37) (M 38) (M 35 2).toNat (M 39) (M 40) (t + 1).toNat).2.2)) 39 (hdS (M 36) (M 37) (M 38) (M 35 2).toNat (M 39) (M 40) (t + 1).toNat).1) 40 (hdS (M 36) (M 37) (M 38) (M 35 2).toNat (M 39) (M 40) (t + 1).toNat).2.1) (by rw [tn1 (by omega)]; simp only [hdS]; rw [show ((t.toNat : Nat) : Int) = t by omega]; first | (rw [← hfn_, ← hwn_, if_pos ⟨by omega, by omega⟩]; subst_vars; simp (disch := decide) only [Int.reduceToNat, up_sr, sr_cp, sr_k, sr_o, sr_sr, us_us, @sr_lt _ 39 35 _ _ (by decide), @sr_lt _ 40 35 _ _ (by decide), @sr_lt _ 40 39 _ _ (by decide)]; try rfl) | (rw [← hfn_, if_neg (fun z_ => by omega)])) ?_
                exact ih2 (t + 1) (by omega) (by omega)
              · refine g_aloadn (pc := 68) (i := 0) (x := 35) hK dd_X6_findHidden_68 rfl rfl ?_
                refine g_geti (pc := 69) (f := (0, 0)) (j := 7) hK (kdm kd_35) rfl ef_6 (by decide) rfl kk_237 nl_35 dd_X6_findHidden_69 rfl (fun x15 ex15 rx15 => ?_)
                replace ex15 : x15 = (us (M 35) 7 (hdS (M 36) (M 37) (M 38) (M 35 2).toNat (M 39) (M 40) t.toNat).2.2) 7 := by first | exact ex15 | (rw [ex15]; simp [up, us, cp, sr])
                replace ex15 : x15 = (hdS (M 36) (M 37) (M 38) (M 35 2).toNat (M 39) (M 40) t.toNat).2.2 := ex15
                refine g_bipush (pc := 72) (x := 10) hK dd_X6_findHidden_72 (by decide) ?_
                refine g_icmp_ge (pc := 74) (tgt := 112) hK dd_X6_findHidden_74 (by decide) rx15 (by decide) (fun c16 => ?_) (fun c16 => ?_)
                · refine g_iinc (pc := 112) (i := 1) (y := t + 1) (L' := [(0, gR 35), (1, gI (t + 1)), (2, gI fo), (3, gI wa), (4, gI i)]) hK dd_X6_findHidden_112 rfl rfl (by decide) rfl ?_
                  refine g_goto (pc := 115) (tgt := 7) hK dd_X6_findHidden_115 (by decide) ?_
                  refine g_sub (L' := [(0, gR 35), (1, gI (t + 1))]) [0, 1] rfl ?_
                  refine g_mem (M2 := sr (sr (sr M 35 (us (M 35) 7 (hdS (M 36) (M 37) (M 38) (M 35 2).toNat (M 39) (M 40) (t + 1).toNat).2.2)) 39 (hdS (M 36) (M 37) (M 38) (M 35 2).toNat (M 39) (M 40) (t + 1).toNat).1) 40 (hdS (M 36) (M 37) (M 38) (M 35 2).toNat (M 39) (M 40) (t + 1).toNat).2.1) (by rw [tn1 (by omega)]; simp only [hdS]; rw [show ((t.toNat : Nat) : Int) = t by omega]; first | (rw [← hfn_, ← hwn_, if_pos ⟨by omega, by omega⟩]; subst_vars; simp (disch := decide) only [Int.reduceToNat, up_sr, sr_cp, sr_k, sr_o, sr_sr, us_us, @sr_lt _ 39 35 _ _ (by decide), @sr_lt _ 40 35 _ _ (by decide), @sr_lt _ 40 39 _ _ (by decide)]; try rfl) | (rw [← hfn_, if_neg (fun z_ => by omega)])) ?_
                  exact ih2 (t + 1) (by omega) (by omega)
                · refine g_aloadn (pc := 77) (i := 0) (x := 35) hK dd_X6_findHidden_77 rfl rfl ?_
                  refine g_getv (pc := 78) (f := (1, 4)) (j := 4) (v := gR 39) hK (kdm kd_35) rfl ef_6 (by decide) rfl kk_234 dd_X6_findHidden_78 rfl ?_
                  refine g_aloadn (pc := 81) (i := 0) (x := 35) hK dd_X6_findHidden_81 rfl rfl ?_
                  refine g_geti (pc := 82) (f := (0, 0)) (j := 7) hK (kdm kd_35) rfl ef_6 (by decide) rfl kk_237 nl_35 dd_X6_findHidden_82 rfl (fun x17 ex17 rx17 => ?_)
                  replace ex17 : x17 = (us (M 35) 7 (hdS (M 36) (M 37) (M 38) (M 35 2).toNat (M 39) (M 40) t.toNat).2.2) 7 := by first | exact ex17 | (rw [ex17]; simp [up, us, cp, sr])
                  replace ex17 : x17 = (hdS (M 36) (M 37) (M 38) (M 35 2).toNat (M 39) (M 40) t.toNat).2.2 := ex17
                  refine g_iloadn (pc := 85) (i := 1) (x := t) hK dd_X6_findHidden_85 rfl rfl ?_
                  refine g_iast (pc := 86) hK (kdm kd_39) nl_39 (by decide) (by decide) dd_X6_findHidden_86 (by omega) (by omega) ⟨by omega, by omega⟩ ?_
                  refine g_aloadn (pc := 87) (i := 0) (x := 35) hK dd_X6_findHidden_87 rfl rfl ?_
                  refine g_getv (pc := 88) (f := (1, 5)) (j := 5) (v := gR 40) hK (kdm kd_35) rfl ef_6 (by decide) rfl kk_235 dd_X6_findHidden_88 rfl ?_
                  refine g_aloadn (pc := 91) (i := 0) (x := 35) hK dd_X6_findHidden_91 rfl rfl ?_
                  refine g_geti (pc := 92) (f := (0, 0)) (j := 7) hK (kdm kd_35) rfl ef_6 (by decide) rfl kk_237 nl_35 dd_X6_findHidden_92 rfl (fun x18 ex18 rx18 => ?_)
                  replace ex18 : x18 = (us (M 35) 7 (hdS (M 36) (M 37) (M 38) (M 35 2).toNat (M 39) (M 40) t.toNat).2.2) 7 := by first | exact ex18 | (rw [ex18]; simp [up, us, cp, sr])
                  replace ex18 : x18 = (hdS (M 36) (M 37) (M 38) (M 35 2).toNat (M 39) (M 40) t.toNat).2.2 := ex18
                  refine g_bipush (pc := 95) (x := 31) hK dd_X6_findHidden_95 (by decide) ?_
                  refine g_iloadn (pc := 97) (i := 3) (x := wa) hK dd_X6_findHidden_97 rfl rfl ?_
                  refine g_iconst (pc := 98) (x := (-1)) hK dd_X6_findHidden_98 (by decide) ?_
                  refine g_ixor (pc := 99) (z := jxor wa (-1)) hK dd_X6_findHidden_99 rfl ?_
                  refine g_iand (pc := 100) (z := jand 31 (jxor wa (-1))) hK dd_X6_findHidden_100 rfl ?_
                  refine g_iast (pc := 101) hK (kdm kd_40) nl_40 (by decide) (by decide) dd_X6_findHidden_101 (by omega) (by omega) (jand_in _ _) ?_
                  refine g_aloadn (pc := 102) (i := 0) (x := 35) hK dd_X6_findHidden_102 rfl rfl ?_
                  refine g_dup (pc := 103) hK dd_X6_findHidden_103 rfl ?_
                  refine g_geti (pc := 104) (f := (0, 0)) (j := 7) hK (kdm kd_35) rfl ef_6 (by decide) rfl kk_237 nl_35 dd_X6_findHidden_104 rfl (fun x19 ex19 rx19 => ?_)
                  replace ex19 : x19 = (us (M 35) 7 (hdS (M 36) (M 37) (M 38) (M 35 2).toNat (M 39) (M 40) t.toNat).2.2) 7 := by first | exact ex19 | (rw [ex19]; simp [up, us, cp, sr])
                  replace ex19 : x19 = (hdS (M 36) (M 37) (M 38) (M 35 2).toNat (M 39) (M 40) t.toNat).2.2 := ex19
                  refine g_iconst (pc := 107) (x := 1) hK dd_X6_findHidden_107 (by decide) ?_
                  refine g_iadd (pc := 108) (z := x19 + 1) hK dd_X6_findHidden_108 rfl ?_
                  refine g_puti (pc := 109) (f := (0, 0)) (j := 7) (ty := .int) hK (kdm kd_35) rfl ef_6 (by decide) rfl kk_237 nl_35 (by decide) dd_X6_findHidden_109 rfl rfl rfl rfl rfl ⟨by omega, by omega⟩ ?_
                  refine g_iinc (pc := 112) (i := 1) (y := t + 1) (L' := [(0, gR 35), (1, gI (t + 1)), (2, gI fo), (3, gI wa), (4, gI i)]) hK dd_X6_findHidden_112 rfl rfl (by decide) rfl ?_
                  refine g_goto (pc := 115) (tgt := 7) hK dd_X6_findHidden_115 (by decide) ?_
                  refine g_sub (L' := [(0, gR 35), (1, gI (t + 1))]) [0, 1] rfl ?_
                  refine g_mem (M2 := sr (sr (sr M 35 (us (M 35) 7 (hdS (M 36) (M 37) (M 38) (M 35 2).toNat (M 39) (M 40) (t + 1).toNat).2.2)) 39 (hdS (M 36) (M 37) (M 38) (M 35 2).toNat (M 39) (M 40) (t + 1).toNat).1) 40 (hdS (M 36) (M 37) (M 38) (M 35 2).toNat (M 39) (M 40) (t + 1).toNat).2.1) (by rw [tn1 (by omega)]; simp only [hdS]; rw [show ((t.toNat : Nat) : Int) = t by omega]; first | (rw [← hfn_, ← hwn_, if_pos ⟨by omega, by omega⟩]; subst_vars; simp (disch := decide) only [Int.reduceToNat, up_sr, sr_cp, sr_k, sr_o, sr_sr, us_us, @sr_lt _ 39 35 _ _ (by decide), @sr_lt _ 40 35 _ _ (by decide), @sr_lt _ 40 39 _ _ (by decide)]; try rfl) | (rw [← hfn_, if_neg (fun z_ => by omega)])) ?_
                  exact ih2 (t + 1) (by omega) (by omega)
            · have hsj_ := hse i.toNat (by omega) (by omega)
              refine g_aloadn (pc := 29) (i := 0) (x := 35) hK dd_X6_findHidden_29 rfl rfl ?_
              refine g_getv (pc := 30) (f := (1, 1)) (j := 0) (v := gR 36) hK (kdm kd_35) rfl ef_6 (by decide) rfl kk_228 dd_X6_findHidden_30 rfl ?_
              refine g_iload (pc := 33) (i := 4) (x := i) hK dd_X6_findHidden_33 rfl ?_
              refine g_iald (pc := 35) hK (kdm kd_36) nl_36 (by decide) dd_X6_findHidden_35 (by omega) (by omega) (fun x20 ex20 rx20 => ?_)
              replace ex20 : x20 = M 36 i.toNat := ex20
              refine g_iloadn (pc := 36) (i := 1) (x := t) hK dd_X6_findHidden_36 rfl rfl ?_
              refine g_icmp_ne (pc := 37) (tgt := 58) hK dd_X6_findHidden_37 (by decide) rx20 ⟨by omega, by omega⟩ (fun c21 => ?_) (fun c21 => ?_)
              · refine g_iinc (pc := 58) (i := 4) (y := i + 1) (L' := [(0, gR 35), (1, gI t), (2, gI fo), (3, gI wa), (4, gI (i + 1))]) hK dd_X6_findHidden_58 rfl rfl (by decide) rfl ?_
                refine g_goto (pc := 61) (tgt := 20) hK dd_X6_findHidden_61 (by decide) ?_
                refine g_sub (L' := [(0, gR 35), (1, gI t), (2, gI fo), (3, gI wa), (4, gI (i + 1))]) [0, 1, 2, 3, 4] rfl ?_
                refine g_mem (M2 := sr (sr (sr M 35 (us (M 35) 7 (hdS (M 36) (M 37) (M 38) (M 35 2).toNat (M 39) (M 40) t.toNat).2.2)) 39 (hdS (M 36) (M 37) (M 38) (M 35 2).toNat (M 39) (M 40) t.toNat).1) 40 (hdS (M 36) (M 37) (M 38) (M 35 2).toNat (M 39) (M 40) t.toNat).2.1) (rfl) ?_
                exact ih8 fo wa (i + 1) (by omega) (by rw [tn1 (by omega)]; simp only [fdN]; first | (rw [if_pos (by omega)]; omega) | (rw [if_neg (by omega)]; assumption)) (by rw [tn1 (by omega)]; simp only [watN]; first | (rw [if_pos (by omega)]; subst_vars; rfl) | (rw [if_neg (by omega)]; assumption)) (by omega)
              · refine g_iinc (pc := 40) (i := 2) (y := fo + 1) (L' := [(0, gR 35), (1, gI t), (2, gI (fo + 1)), (3, gI wa), (4, gI i)]) hK dd_X6_findHidden_40 rfl rfl (by decide) rfl ?_
                refine g_iloadn (pc := 43) (i := 3) (x := wa) hK dd_X6_findHidden_43 rfl rfl ?_
                refine g_aloadn (pc := 44) (i := 0) (x := 35) hK dd_X6_findHidden_44 rfl rfl ?_
                refine g_getv (pc := 45) (f := (1, 3)) (j := 3) (v := gR 38) hK (kdm kd_35) rfl ef_6 (by decide) rfl kk_232 dd_X6_findHidden_45 rfl ?_
                refine g_aloadn (pc := 48) (i := 0) (x := 35) hK dd_X6_findHidden_48 rfl rfl ?_
                refine g_getv (pc := 49) (f := (1, 2)) (j := 1) (v := gR 37) hK (kdm kd_35) rfl ef_6 (by decide) rfl kk_229 dd_X6_findHidden_49 rfl ?_
                refine g_iload (pc := 52) (i := 4) (x := i) hK dd_X6_findHidden_52 rfl ?_
                refine g_iald (pc := 54) hK (kdm kd_37) nl_37 (by decide) dd_X6_findHidden_54 (by omega) (by omega) (fun x22 ex22 rx22 => ?_)
                replace ex22 : x22 = M 37 i.toNat := ex22
                refine g_iald (pc := 55) hK (kdm kd_38) nl_38 (by decide) dd_X6_findHidden_55 (by omega) (by omega) (fun x23 ex23 rx23 => ?_)
                replace ex23 : x23 = M 38 x22.toNat := ex23
                refine g_ior (pc := 56) (z := jor wa x23) hK dd_X6_findHidden_56 rfl ?_
                refine g_istoren (pc := 57) (i := 3) (L' := [(0, gR 35), (1, gI t), (2, gI (fo + 1)), (3, gI (jor wa x23)), (4, gI i)]) hK dd_X6_findHidden_57 rfl (by decide) rfl ?_
                refine g_iinc (pc := 58) (i := 4) (y := i + 1) (L' := [(0, gR 35), (1, gI t), (2, gI (fo + 1)), (3, gI (jor wa x23)), (4, gI (i + 1))]) hK dd_X6_findHidden_58 rfl rfl (by decide) rfl ?_
                refine g_goto (pc := 61) (tgt := 20) hK dd_X6_findHidden_61 (by decide) ?_
                refine g_sub (L' := [(0, gR 35), (1, gI t), (2, gI (fo + 1)), (3, gI (jor wa x23)), (4, gI (i + 1))]) [0, 1, 2, 3, 4] rfl ?_
                refine g_mem (M2 := sr (sr (sr M 35 (us (M 35) 7 (hdS (M 36) (M 37) (M 38) (M 35 2).toNat (M 39) (M 40) t.toNat).2.2)) 39 (hdS (M 36) (M 37) (M 38) (M 35 2).toNat (M 39) (M 40) t.toNat).1) 40 (hdS (M 36) (M 37) (M 38) (M 35 2).toNat (M 39) (M 40) t.toNat).2.1) (rfl) ?_
                exact ih8 (fo + 1) (jor wa x23) (i + 1) (by omega) (by rw [tn1 (by omega)]; simp only [fdN]; first | (rw [if_pos (by omega)]; omega) | (rw [if_neg (by omega)]; assumption)) (by rw [tn1 (by omega)]; simp only [watN]; first | (rw [if_pos (by omega)]; subst_vars; rfl) | (rw [if_neg (by omega)]; assumption)) (by omega)
        refine g_mem (M2 := sr (sr (sr M 35 (us (M 35) 7 (hdS (M 36) (M 37) (M 38) (M 35 2).toNat (M 39) (M 40) t.toNat).2.2)) 39 (hdS (M 36) (M 37) (M 38) (M 35 2).toNat (M 39) (M 40) t.toNat).1) 40 (hdS (M 36) (M 37) (M 38) (M 35 2).toNat (M 39) (M 40) t.toNat).2.1) (rfl) ?_
        refine g_sub (L' := [(0, gR 35), (1, gI t), (2, gI 0), (3, gI 0), (4, gI 0)]) [0, 1, 2, 3, 4] rfl ?_
        exact lp9 _ 0 0 0 (by omega) (rfl) (rfl) (Nat.lt_succ_self _)
  refine g_mem (M2 := sr (sr (sr M 35 (us (M 35) 7 (hdS (M 36) (M 37) (M 38) (M 35 2).toNat (M 39) (M 40) (0 : Int).toNat).2.2)) 39 (hdS (M 36) (M 37) (M 38) (M 35 2).toNat (M 39) (M 40) (0 : Int).toNat).1) 40 (hdS (M 36) (M 37) (M 38) (M 35 2).toNat (M 39) (M 40) (0 : Int).toNat).2.1) (by rw [up_sr]; refine Eq.trans ?_ (sr_id (k := 40) rfl).symm; exact (sr_id (k := 39) rfl).symm) ?_
  refine g_sub (L' := [(0, gR 35), (1, gI 0)]) [0, 1] rfl ?_
  exact lp3 _ 0 (by omega) (Nat.lt_succ_self _)
set_option maxHeartbeats 4000000 in
set_option maxRecDepth 100000 in
theorem c_canLie {l : Launch} {M : Mem} {Pq : Option gV → Mem → Prop} (f : Int) (f1 : 0 ≤ f ∧ f ≤ 10) (hhc : 0 ≤ M 35 7 ∧ M 35 7 ≤ 10) (hsp : ∀ j : Nat, j < 5 → 0 ≤ M 42 j ∧ M 42 j ≤ 10) (hT : (cLie (M 42) (M 40) f.toNat (M 35 7).toNat) → Pq (some (gI 1)) M) (hF : ¬ (cLie (M 42) (M 40) f.toNat (M 35 7).toNat) → Pq (some (gI 0)) M) : gCtr l my_X6_canLie mb_X6_canLie 5 ((some .boolean)) 2 [gR 35, gI f] M Pq := by
  refine g_intro (by decide) (Nat.le_of_ble_eq_true rfl) ?_
  intro p e s m args below meth c D cy q A hK hr hlocks hw
  refine g_sub (L' := [(0, gR 35), (1, gI f)]) [0, 1] rfl ?_
  refine g_iconst (pc := 0) (x := 0) hK dd_X6_canLie_0 (by decide) ?_
  refine g_istoren (pc := 1) (i := 2) (L' := [(0, gR 35), (1, gI f), (2, gI 0)]) hK dd_X6_canLie_1 rfl (by decide) rfl ?_
  have lp3 : ∀ (n1 : Nat) (z : Int), (0 ≤ z ∧ z ≤ 32) → (∀ w : Nat, w < z.toNat → coN (M 40) w f.toNat ((M 35 7).toNat - f.toNat) ≤ spN (M 42) w 5) → (32 - z).toNat < n1 → G p l e (rmD 2) s m args below meth c D cy q A 0 0 5 (MQ below (gQc D cy q A Pq) args s 0 0 A) 2 [(0, gR 35), (1, gI f), (2, gI z)] [] M := by
    intro n1
    induction n1 with
    | zero => intro z iv4 hall_ hm5; exact absurd hm5 (Nat.not_lt_zero _)
    | succ n1 ih2 =>
      intro z iv4 hall_ hm5
      refine g_iloadn (pc := 2) (i := 2) (x := z) hK dd_X6_canLie_2 rfl rfl ?_
      refine g_bipush (pc := 3) (x := 31) hK dd_X6_canLie_3 (by decide) ?_
      refine g_icmp_gt (pc := 5) (tgt := 91) hK dd_X6_canLie_5 (by decide) ⟨by omega, by omega⟩ (by decide) (fun c6 => ?_) (fun c6 => ?_)
      · refine g_iconst (pc := 91) (x := 1) hK dd_X6_canLie_91 (by decide) ?_
        refine g_iret (pc := 92) hK hr hlocks dd_X6_canLie_92 rfl ?_
        exact g_finM (hT (by first | exact fun w_ hw_ => hall_ w_ (by omega) | (intro hP_; have q_ := hP_ z.toNat (by omega); rw [show ((z.toNat : Nat) : Int) = z by omega] at q_; omega))) (by first | rfl | (subst_vars; rfl))
      · refine g_iconst (pc := 8) (x := 0) hK dd_X6_canLie_8 (by decide) ?_
        refine g_istoren (pc := 9) (i := 3) (L' := [(0, gR 35), (1, gI f), (2, gI z), (3, gI 0)]) hK dd_X6_canLie_9 rfl (by decide) rfl ?_
        refine g_iconst (pc := 10) (x := 0) hK dd_X6_canLie_10 (by decide) ?_
        refine g_istore (pc := 11) (i := 4) (L' := [(0, gR 35), (1, gI f), (2, gI z), (3, gI 0), (4, gI 0)]) hK dd_X6_canLie_11 (by decide) rfl ?_
        have lp9 : ∀ (n7 : Nat) (pa : Int) (k : Int), (0 ≤ k ∧ k ≤ 5) → (pa = spN (M 42) z k.toNat) → (5 - k).toNat < n7 → G p l e (rmD 2) s m args below meth c D cy q A 0 0 5 (MQ below (gQc D cy q A Pq) args s 0 0 A) 13 [(0, gR 35), (1, gI f), (2, gI z), (3, gI pa), (4, gI k)] [] M := by
          intro n7
          induction n7 with
          | zero => intro pa k iv10 hpa_ hm11; exact absurd hm11 (Nat.not_lt_zero _)
          | succ n7 ih8 =>
            intro pa k iv10 hpa_ hm11
            refine g_iload (pc := 13) (i := 4) (x := k) hK dd_X6_canLie_13 rfl ?_
            have hsn_ := spN_in (z := z) hsp k.toNat (by omega)
            refine g_iconst (pc := 15) (x := 5) hK dd_X6_canLie_15 (by decide) ?_
            refine g_icmp_ge (pc := 16) (tgt := 44) hK dd_X6_canLie_16 (by decide) ⟨by omega, by omega⟩ (by decide) (fun c12 => ?_) (fun c12 => ?_)
            · refine g_iloadn (pc := 44) (i := 1) (x := f) hK dd_X6_canLie_44 rfl rfl ?_
              refine g_istore (pc := 45) (i := 4) (L' := [(0, gR 35), (1, gI f), (2, gI z), (3, gI pa), (4, gI f)]) hK dd_X6_canLie_45 (by decide) rfl ?_
              have lp15 : ∀ (n13 : Nat) (pb : Int) (h : Int), (f ≤ h ∧ (h ≤ M 35 7 ∨ h = f)) → (pb = spN (M 42) z 5 - coN (M 40) z f.toNat (h - f).toNat) → (M 35 7 - h).toNat < n13 → G p l e (rmD 2) s m args below meth c D cy q A 0 0 5 (MQ below (gQc D cy q A Pq) args s 0 0 A) 47 [(0, gR 35), (1, gI f), (2, gI z), (3, gI pb), (4, gI h)] [] M := by
                intro n13
                induction n13 with
                | zero => intro pb h iv16 hpb_ hm17; exact absurd hm17 (Nat.not_lt_zero _)
                | succ n13 ih14 =>
                  intro pb h iv16 hpb_ hm17
                  refine g_iload (pc := 47) (i := 4) (x := h) hK dd_X6_canLie_47 rfl ?_
                  have hs5_ := spN_in (z := z) hsp 5 (by omega)
                  have hcn_ := coN_in (M 40) z f.toNat (h - f).toNat
                  refine g_aloadn (pc := 49) (i := 0) (x := 35) hK dd_X6_canLie_49 rfl rfl ?_
                  refine g_geti (pc := 50) (f := (0, 0)) (j := 7) hK (kdm kd_35) rfl ef_6 (by decide) rfl kk_237 nl_35 dd_X6_canLie_50 rfl (fun x18 ex18 rx18 => ?_)
                  refine g_icmp_ge (pc := 53) (tgt := 79) hK dd_X6_canLie_53 (by decide) ⟨by omega, by omega⟩ rx18 (fun c19 => ?_) (fun c19 => ?_)
                  · have hco_ : (h - f).toNat = (M 35 7).toNat - f.toNat := by omega
                    rw [hco_] at hpb_ hcn_
                    refine g_iloadn (pc := 79) (i := 3) (x := pb) hK dd_X6_canLie_79 rfl rfl ?_
                    refine g_if_ge (pc := 80) (tgt := 85) hK dd_X6_canLie_80 (by decide) ⟨by omega, by omega⟩ (fun c20 => ?_) (fun c20 => ?_)
                    · refine g_iinc (pc := 85) (i := 2) (y := z + 1) (L' := [(0, gR 35), (1, gI f), (2, gI (z + 1)), (3, gI pb), (4, gI h)]) hK dd_X6_canLie_85 rfl rfl (by decide) rfl ?_
                      refine g_goto (pc := 88) (tgt := 2) hK dd_X6_canLie_88 (by decide) ?_
                      refine g_sub (L' := [(0, gR 35), (1, gI f), (2, gI (z + 1))]) [0, 1, 2] rfl ?_
                      exact ih2 (z + 1) (by omega) (fun w hw => by
                        by_cases e : w = z.toNat
                        · subst e; rw [show ((z.toNat : Nat) : Int) = z by omega]; omega
                        · exact hall_ w (by omega)) (by omega)
                    · refine g_iconst (pc := 83) (x := 0) hK dd_X6_canLie_83 (by decide) ?_
                      refine g_iret (pc := 84) hK hr hlocks dd_X6_canLie_84 rfl ?_
                      exact g_finM (hF (by first | exact fun w_ hw_ => hall_ w_ (by omega) | (intro hP_; have q_ := hP_ z.toNat (by omega); rw [show ((z.toNat : Nat) : Int) = z by omega] at q_; omega))) (by first | rfl | (subst_vars; rfl))
                  · refine g_aloadn (pc := 56) (i := 0) (x := 35) hK dd_X6_canLie_56 rfl rfl ?_
                    refine g_getv (pc := 57) (f := (1, 5)) (j := 5) (v := gR 40) hK (kdm kd_35) rfl ef_6 (by decide) rfl kk_235 dd_X6_canLie_57 rfl ?_
                    refine g_iload (pc := 60) (i := 4) (x := h) hK dd_X6_canLie_60 rfl ?_
                    refine g_iald (pc := 62) hK (kdm kd_40) nl_40 (by decide) dd_X6_canLie_62 (by omega) (by omega) (fun x21 ex21 rx21 => ?_)
                    refine g_iloadn (pc := 63) (i := 2) (x := z) hK dd_X6_canLie_63 rfl rfl ?_
                    refine g_iconst (pc := 64) (x := (-1)) hK dd_X6_canLie_64 (by decide) ?_
                    refine g_ixor (pc := 65) (z := jxor z (-1)) hK dd_X6_canLie_65 rfl ?_
                    refine g_iand (pc := 66) (z := jand x21 (jxor z (-1))) hK dd_X6_canLie_66 rfl ?_
                    refine g_if_ne (pc := 67) (tgt := 73) hK dd_X6_canLie_67 (by decide) (jand_in _ _) (fun c22 => ?_) (fun c22 => ?_)
                    · refine g_iinc (pc := 73) (i := 4) (y := h + 1) (L' := [(0, gR 35), (1, gI f), (2, gI z), (3, gI pb), (4, gI (h + 1))]) hK dd_X6_canLie_73 rfl rfl (by decide) rfl ?_
                      refine g_goto (pc := 76) (tgt := 47) hK dd_X6_canLie_76 (by decide) ?_
                      refine g_sub (L' := [(0, gR 35), (1, gI f), (2, gI z), (3, gI pb), (4, gI (h + 1))]) [0, 1, 2, 3, 4] rfl ?_
                      exact ih14 pb (h + 1) (by omega) (by rw [show (h + 1 - f).toNat = (h - f).toNat + 1 by omega]; simp only [coN]; rw [show f.toNat + (h - f).toNat = h.toNat by omega]; first | (rw [if_pos (by subst_vars; omega)]; omega) | (rw [if_neg (by subst_vars; omega)]; omega)) (by omega)
                    · refine g_iinc (pc := 70) (i := 3) (y := pb - 1) (L' := [(0, gR 35), (1, gI f), (2, gI z), (3, gI (pb - 1)), (4, gI h)]) hK dd_X6_canLie_70 rfl (by omega) (by decide) rfl ?_
                      refine g_iinc (pc := 73) (i := 4) (y := h + 1) (L' := [(0, gR 35), (1, gI f), (2, gI z), (3, gI (pb - 1)), (4, gI (h + 1))]) hK dd_X6_canLie_73 rfl rfl (by decide) rfl ?_
                      refine g_goto (pc := 76) (tgt := 47) hK dd_X6_canLie_76 (by decide) ?_
                      refine g_sub (L' := [(0, gR 35), (1, gI f), (2, gI z), (3, gI (pb - 1)), (4, gI (h + 1))]) [0, 1, 2, 3, 4] rfl ?_
                      exact ih14 (pb - 1) (h + 1) (by omega) (by rw [show (h + 1 - f).toNat = (h - f).toNat + 1 by omega]; simp only [coN]; rw [show f.toNat + (h - f).toNat = h.toNat by omega]; first | (rw [if_pos (by subst_vars; omega)]; omega) | (rw [if_neg (by subst_vars; omega)]; omega)) (by omega)
              refine g_sub (L' := [(0, gR 35), (1, gI f), (2, gI z), (3, gI pa), (4, gI f)]) [0, 1, 2, 3, 4] rfl ?_
              exact lp15 _ pa f (by omega) (by rw [hpa_, show k.toNat = 5 by omega, show (f - f).toNat = 0 by omega]; simp only [coN]; omega) (Nat.lt_succ_self _)
            · refine g_iloadn (pc := 19) (i := 2) (x := z) hK dd_X6_canLie_19 rfl rfl ?_
              refine g_iload (pc := 20) (i := 4) (x := k) hK dd_X6_canLie_20 rfl ?_
              refine g_callTN (pc := 22) (As := [gI z, gI k]) hK ws_Secrets_57 md_X11_hasBit ⟨Nat.zero_le _, Nat.zero_le _⟩ ⟨by decide, by decide⟩ dd_X6_canLie_22 rfl rfl (Nat.le_of_ble_eq_true rfl) (c_hasBit z k (fun c23 => g_r1 ?_) (fun c23 => g_r1 ?_))
              · refine g_if_eq (pc := 25) (tgt := 38) hK dd_X6_canLie_25 (by decide) (by decide) (fun c24 => absurd c24 (by decide)) (fun _ => ?_)
                have hs1_ := hsp k.toNat (by omega)
                refine g_iloadn (pc := 28) (i := 3) (x := pa) hK dd_X6_canLie_28 rfl rfl ?_
                refine g_aloadn (pc := 29) (i := 0) (x := 35) hK dd_X6_canLie_29 rfl rfl ?_
                refine g_getv (pc := 30) (f := (1, 7)) (j := 8) (v := gR 42) hK (kdm kd_35) rfl ef_6 (by decide) rfl kk_238 dd_X6_canLie_30 rfl ?_
                refine g_iload (pc := 33) (i := 4) (x := k) hK dd_X6_canLie_33 rfl ?_
                refine g_iald (pc := 35) hK (kdm kd_42) nl_42 (by decide) dd_X6_canLie_35 (by omega) (by omega) (fun x25 ex25 rx25 => ?_)
                refine g_iadd (pc := 36) (z := pa + x25) hK dd_X6_canLie_36 rfl ?_
                refine g_istoren (pc := 37) (i := 3) (L' := [(0, gR 35), (1, gI f), (2, gI z), (3, gI (pa + x25)), (4, gI k)]) hK dd_X6_canLie_37 rfl (by decide) rfl ?_
                refine g_iinc (pc := 38) (i := 4) (y := k + 1) (L' := [(0, gR 35), (1, gI f), (2, gI z), (3, gI (pa + x25)), (4, gI (k + 1))]) hK dd_X6_canLie_38 rfl rfl (by decide) rfl ?_
                refine g_goto (pc := 41) (tgt := 13) hK dd_X6_canLie_41 (by decide) ?_
                refine g_sub (L' := [(0, gR 35), (1, gI f), (2, gI z), (3, gI (pa + x25)), (4, gI (k + 1))]) [0, 1, 2, 3, 4] rfl ?_
                exact ih8 (pa + x25) (k + 1) (by omega) (by rw [tn1 (by omega)]; simp only [spN]; rw [show ((k.toNat : Nat) : Int) = k by omega]; first | (rw [if_pos (by assumption)]; omega) | (rw [if_neg (by assumption)]; omega)) (by omega)
              · refine g_if_eq (pc := 25) (tgt := 38) hK dd_X6_canLie_25 (by decide) (by decide) (fun _ => ?_) (fun c26 => absurd (by decide) c26)
                refine g_iinc (pc := 38) (i := 4) (y := k + 1) (L' := [(0, gR 35), (1, gI f), (2, gI z), (3, gI pa), (4, gI (k + 1))]) hK dd_X6_canLie_38 rfl rfl (by decide) rfl ?_
                refine g_goto (pc := 41) (tgt := 13) hK dd_X6_canLie_41 (by decide) ?_
                refine g_sub (L' := [(0, gR 35), (1, gI f), (2, gI z), (3, gI pa), (4, gI (k + 1))]) [0, 1, 2, 3, 4] rfl ?_
                exact ih8 pa (k + 1) (by omega) (by rw [tn1 (by omega)]; simp only [spN]; rw [show ((k.toNat : Nat) : Int) = k by omega]; first | (rw [if_pos (by assumption)]; omega) | (rw [if_neg (by assumption)]; omega)) (by omega)
        refine g_sub (L' := [(0, gR 35), (1, gI f), (2, gI z), (3, gI 0), (4, gI 0)]) [0, 1, 2, 3, 4] rfl ?_
        exact lp9 _ 0 0 (by omega) (rfl) (Nat.lt_succ_self _)
  refine g_sub (L' := [(0, gR 35), (1, gI f), (2, gI 0)]) [0, 1, 2] rfl ?_
  exact lp3 _ 0 (by omega) (fun w hw => absurd hw (Nat.not_lt_zero _)) (Nat.lt_succ_self _)
set_option maxHeartbeats 4000000 in
set_option maxRecDepth 100000 in
theorem c_firstTable {l : Launch} {M : Mem} {Pq : Option gV → Mem → Prop} (h : Int) (h1 : 0 ≤ h ∧ h < M 35 7) (hhc : 0 ≤ M 35 7 ∧ M 35 7 ≤ 10) (hsp : ∀ j : Nat, j < 5 → 0 ≤ M 42 j ∧ M 42 j ≤ 10) (hQ : Pq (some (gI ((ftF (M 42) (M 40) h.toNat (M 35 7).toNat 5 0).1))) (sr M 42 (ftF (M 42) (M 40) h.toNat (M 35 7).toNat 5 0).2)) : gCtr l my_X6_firstTable mb_X6_firstTable 3 ((some .int)) 3 [gR 35, gI h] M Pq := by
  refine g_intro (by decide) (Nat.le_of_ble_eq_true rfl) ?_
  intro p e s m args below meth c D cy q A hK hr hlocks hw
  refine g_sub (L' := [(0, gR 35), (1, gI h)]) [0, 1] rfl ?_
  refine g_iconst (pc := 0) (x := 0) hK dd_X6_firstTable_0 (by decide) ?_
  refine g_istoren (pc := 1) (i := 2) (L' := [(0, gR 35), (1, gI h), (2, gI 0)]) hK dd_X6_firstTable_1 rfl (by decide) rfl ?_
  have lp3 : ∀ (n1 : Nat) (t : Int), (0 ≤ t ∧ t ≤ 5) → (ftF (M 42) (M 40) h.toNat (M 35 7).toNat 5 0 = ftF (M 42) (M 40) h.toNat (M 35 7).toNat (5 - t.toNat) t.toNat) → (5 - t).toNat < n1 → G p l e (rmD 3) s m args below meth c D cy q A 0 0 3 (MQ below (gQc D cy q A Pq) args s 0 0 A) 2 [(0, gR 35), (1, gI h), (2, gI t)] [] M := by
    intro n1
    induction n1 with
    | zero => intro t iv4 hft_ hm5; exact absurd hm5 (Nat.not_lt_zero _)
    | succ n1 ih2 =>
      intro t iv4 hft_ hm5
      refine g_iloadn (pc := 2) (i := 2) (x := t) hK dd_X6_firstTable_2 rfl rfl ?_
      refine g_iconst (pc := 3) (x := 5) hK dd_X6_firstTable_3 (by decide) ?_
      refine g_icmp_ge (pc := 4) (tgt := 67) hK dd_X6_firstTable_4 (by decide) ⟨by omega, by omega⟩ (by decide) (fun c6 => ?_) (fun c6 => ?_)
      · refine g_iconst (pc := 67) (x := (-1)) hK dd_X6_firstTable_67 (by decide) ?_
        refine g_iret (pc := 68) hK hr hlocks dd_X6_firstTable_68 rfl ?_
        exact g_fin hQ (by first | (rw [hft_, show 5 - t.toNat = (5 - (t.toNat + 1)) + 1 by omega, ftF_y ⟨by rw [show ((t.toNat : Nat) : Int) = t by omega]; subst_vars; assumption, by omega, hyl_⟩]; show _ = ((t.toNat : Nat) : Int); omega) | (rw [hft_, show 5 - t.toNat = 0 by omega]; rfl)) (by first | (rw [hft_, show 5 - t.toNat = (5 - (t.toNat + 1)) + 1 by omega, ftF_y ⟨by rw [show ((t.toNat : Nat) : Int) = t by omega]; subst_vars; assumption, by omega, hyl_⟩, up_sr]; subst_vars; rfl) | (rw [hft_, show 5 - t.toNat = 0 by omega]; exact sr_self.symm))
      · refine g_aloadn (pc := 7) (i := 0) (x := 35) hK dd_X6_firstTable_7 rfl rfl ?_
        refine g_getv (pc := 8) (f := (1, 5)) (j := 5) (v := gR 40) hK (kdm kd_35) rfl ef_6 (by decide) rfl kk_235 dd_X6_firstTable_8 rfl ?_
        refine g_iloadn (pc := 11) (i := 1) (x := h) hK dd_X6_firstTable_11 rfl rfl ?_
        refine g_iald (pc := 12) hK (kdm kd_40) nl_40 (by decide) dd_X6_firstTable_12 (by omega) (by omega) (fun x7 ex7 rx7 => ?_)
        refine g_iloadn (pc := 13) (i := 2) (x := t) hK dd_X6_firstTable_13 rfl rfl ?_
        refine g_callTN (pc := 14) (As := [gI x7, gI t]) hK ws_Secrets_57 md_X11_hasBit ⟨Nat.zero_le _, Nat.zero_le _⟩ ⟨by decide, by decide⟩ dd_X6_firstTable_14 rfl rfl (Nat.le_of_ble_eq_true rfl) (c_hasBit x7 t (fun c8 => g_r1 ?_) (fun c8 => g_r1 ?_))
        · refine g_if_eq (pc := 17) (tgt := 61) hK dd_X6_firstTable_17 (by decide) (by decide) (fun c9 => absurd c9 (by decide)) (fun _ => ?_)
          refine g_aloadn (pc := 20) (i := 0) (x := 35) hK dd_X6_firstTable_20 rfl rfl ?_
          refine g_getv (pc := 21) (f := (1, 7)) (j := 8) (v := gR 42) hK (kdm kd_35) rfl ef_6 (by decide) rfl kk_238 dd_X6_firstTable_21 rfl ?_
          refine g_iloadn (pc := 24) (i := 2) (x := t) hK dd_X6_firstTable_24 rfl rfl ?_
          refine g_iald (pc := 25) hK (kdm kd_42) nl_42 (by decide) dd_X6_firstTable_25 (by omega) (by omega) (fun x10 ex10 rx10 => ?_)
          refine g_if_le (pc := 26) (tgt := 61) hK dd_X6_firstTable_26 (by decide) rx10 (fun c11 => ?_) (fun c11 => ?_)
          · refine g_iinc (pc := 61) (i := 2) (y := t + 1) (L' := [(0, gR 35), (1, gI h), (2, gI (t + 1))]) hK dd_X6_firstTable_61 rfl rfl (by decide) rfl ?_
            refine g_goto (pc := 64) (tgt := 2) hK dd_X6_firstTable_64 (by decide) ?_
            refine g_sub (L' := [(0, gR 35), (1, gI h), (2, gI (t + 1))]) [0, 1, 2] rfl ?_
            refine g_mem (M2 := M) (by first | rfl | exact up_bk (by omega)) ?_
            exact ih2 (t + 1) (by omega) (by rw [tn1 (by omega), hft_, show 5 - t.toNat = (5 - (t.toNat + 1)) + 1 by omega]; refine ftF_n (fun z_ => ?_); rw [show ((t.toNat : Nat) : Int) = t by omega] at z_; first | exact absurd z_.1 (by subst_vars; assumption) | exact absurd z_.2.1 (by omega) | exact hnl_ z_.2.2) (by omega)
          · have hs1_ := hsp t.toNat (by omega)
            refine g_aloadn (pc := 29) (i := 0) (x := 35) hK dd_X6_firstTable_29 rfl rfl ?_
            refine g_getv (pc := 30) (f := (1, 7)) (j := 8) (v := gR 42) hK (kdm kd_35) rfl ef_6 (by decide) rfl kk_238 dd_X6_firstTable_30 rfl ?_
            refine g_iloadn (pc := 33) (i := 2) (x := t) hK dd_X6_firstTable_33 rfl rfl ?_
            refine g_dup2 (pc := 34) hK dd_X6_firstTable_34 rfl rfl ?_
            refine g_iald (pc := 35) hK (kdm kd_42) nl_42 (by decide) dd_X6_firstTable_35 (by omega) (by omega) (fun x12 ex12 rx12 => ?_)
            refine g_iconst (pc := 36) (x := 1) hK dd_X6_firstTable_36 (by decide) ?_
            refine g_isub (pc := 37) (z := x12 - 1) hK dd_X6_firstTable_37 rfl ?_
            refine g_iast (pc := 38) hK (kdm kd_42) nl_42 (by decide) (by decide) dd_X6_firstTable_38 (by omega) (by omega) ⟨by omega, by omega⟩ ?_
            have hsp2_ : ∀ j : Nat, j < 5 → 0 ≤ us (M 42) t.toNat (M 42 t.toNat - 1) j ∧ us (M 42) t.toNat (M 42 t.toNat - 1) j ≤ 10 := us_rng hsp (by omega)
            refine g_aloadn (pc := 39) (i := 0) (x := 35) hK dd_X6_firstTable_39 rfl rfl ?_
            refine g_iloadn (pc := 40) (i := 1) (x := h) hK dd_X6_firstTable_40 rfl rfl ?_
            refine g_iconst (pc := 41) (x := 1) hK dd_X6_firstTable_41 (by decide) ?_
            refine g_iadd (pc := 42) (z := h + 1) hK dd_X6_firstTable_42 rfl ?_
            refine g_callV (pc := 43) (As := [gI (h + 1)]) hK ws_Secrets_49 md_X6_canLie ⟨Nat.zero_le _, Nat.zero_le _⟩ ⟨by decide, by decide⟩ (kdm kd_35) rfl rfl dd_X6_firstTable_43 rfl rfl (Nat.le_of_ble_eq_true rfl) (c_canLie (h + 1) (by omega) hhc (by subst_vars; exact hsp2_) (fun c13 => g_r1 ?_) (fun c13 => g_r1 ?_))
            · refine g_if_eq (pc := 46) (tgt := 51) hK dd_X6_firstTable_46 (by decide) (by decide) (fun c14 => absurd c14 (by decide)) (fun _ => ?_)
              have hyl_ : cLie (us (M 42) t.toNat (M 42 t.toNat - 1)) (M 40) (h.toNat + 1) (M 35 7).toNat := by have q_ := c13; rw [show (h + 1).toNat = h.toNat + 1 by omega] at q_; subst_vars; exact q_
              refine g_iloadn (pc := 49) (i := 2) (x := t) hK dd_X6_firstTable_49 rfl rfl ?_
              refine g_iret (pc := 50) hK hr hlocks dd_X6_firstTable_50 rfl ?_
              exact g_fin hQ (by first | (rw [hft_, show 5 - t.toNat = (5 - (t.toNat + 1)) + 1 by omega, ftF_y ⟨by rw [show ((t.toNat : Nat) : Int) = t by omega]; subst_vars; assumption, by omega, hyl_⟩]; show _ = ((t.toNat : Nat) : Int); omega) | (rw [hft_, show 5 - t.toNat = 0 by omega]; rfl)) (by first | (rw [hft_, show 5 - t.toNat = (5 - (t.toNat + 1)) + 1 by omega, ftF_y ⟨by rw [show ((t.toNat : Nat) : Int) = t by omega]; subst_vars; assumption, by omega, hyl_⟩, up_sr]; subst_vars; rfl) | (rw [hft_, show 5 - t.toNat = 0 by omega]; exact sr_self.symm))
            · refine g_if_eq (pc := 46) (tgt := 51) hK dd_X6_firstTable_46 (by decide) (by decide) (fun _ => ?_) (fun c15 => absurd (by decide) c15)
              have hnl_ : ¬ cLie (us (M 42) t.toNat (M 42 t.toNat - 1)) (M 40) (h.toNat + 1) (M 35 7).toNat := by have q_ := c13; rw [show (h + 1).toNat = h.toNat + 1 by omega] at q_; subst_vars; exact q_
              refine g_aloadn (pc := 51) (i := 0) (x := 35) hK dd_X6_firstTable_51 rfl rfl ?_
              refine g_getv (pc := 52) (f := (1, 7)) (j := 8) (v := gR 42) hK (kdm kd_35) rfl ef_6 (by decide) rfl kk_238 dd_X6_firstTable_52 rfl ?_
              refine g_iloadn (pc := 55) (i := 2) (x := t) hK dd_X6_firstTable_55 rfl rfl ?_
              refine g_dup2 (pc := 56) hK dd_X6_firstTable_56 rfl rfl ?_
              refine g_iald (pc := 57) hK (kdm kd_42) nl_42 (by decide) dd_X6_firstTable_57 (by omega) (by omega) (fun x16 ex16 rx16 => ?_)
              replace ex16 : x16 = x12 - 1 := by first | exact ex16 | (rw [ex16]; simp [up, us, cp, sr])
              refine g_iconst (pc := 58) (x := 1) hK dd_X6_firstTable_58 (by decide) ?_
              refine g_iadd (pc := 59) (z := x16 + 1) hK dd_X6_firstTable_59 rfl ?_
              refine g_iast (pc := 60) hK (kdm kd_42) nl_42 (by decide) (by decide) dd_X6_firstTable_60 (by omega) (by omega) ⟨by omega, by omega⟩ ?_
              refine g_iinc (pc := 61) (i := 2) (y := t + 1) (L' := [(0, gR 35), (1, gI h), (2, gI (t + 1))]) hK dd_X6_firstTable_61 rfl rfl (by decide) rfl ?_
              refine g_goto (pc := 64) (tgt := 2) hK dd_X6_firstTable_64 (by decide) ?_
              refine g_sub (L' := [(0, gR 35), (1, gI h), (2, gI (t + 1))]) [0, 1, 2] rfl ?_
              refine g_mem (M2 := M) (by first | rfl | exact up_bk (by omega)) ?_
              exact ih2 (t + 1) (by omega) (by rw [tn1 (by omega), hft_, show 5 - t.toNat = (5 - (t.toNat + 1)) + 1 by omega]; refine ftF_n (fun z_ => ?_); rw [show ((t.toNat : Nat) : Int) = t by omega] at z_; first | exact absurd z_.1 (by subst_vars; assumption) | exact absurd z_.2.1 (by omega) | exact hnl_ z_.2.2) (by omega)
        · refine g_if_eq (pc := 17) (tgt := 61) hK dd_X6_firstTable_17 (by decide) (by decide) (fun _ => ?_) (fun c17 => absurd (by decide) c17)
          refine g_iinc (pc := 61) (i := 2) (y := t + 1) (L' := [(0, gR 35), (1, gI h), (2, gI (t + 1))]) hK dd_X6_firstTable_61 rfl rfl (by decide) rfl ?_
          refine g_goto (pc := 64) (tgt := 2) hK dd_X6_firstTable_64 (by decide) ?_
          refine g_sub (L' := [(0, gR 35), (1, gI h), (2, gI (t + 1))]) [0, 1, 2] rfl ?_
          refine g_mem (M2 := M) (by first | rfl | exact up_bk (by omega)) ?_
          exact ih2 (t + 1) (by omega) (by rw [tn1 (by omega), hft_, show 5 - t.toNat = (5 - (t.toNat + 1)) + 1 by omega]; refine ftF_n (fun z_ => ?_); rw [show ((t.toNat : Nat) : Int) = t by omega] at z_; first | exact absurd z_.1 (by subst_vars; assumption) | exact absurd z_.2.1 (by omega) | exact hnl_ z_.2.2) (by omega)
  refine g_mem (M2 := M) (rfl) ?_
  refine g_sub (L' := [(0, gR 35), (1, gI h), (2, gI 0)]) [0, 1, 2] rfl ?_
  exact lp3 _ 0 (by omega) (rfl) (Nat.lt_succ_self _)
