set_option maxHeartbeats 4000000 in
set_option maxRecDepth 100000 in
theorem c_findHidden {l : Launch} {M : Mem} {Pq : Option gV → Mem → Prop} (hec : 0 ≤ M 35 2 ∧ M 35 2 ≤ 10) (hse : ∀ j : Nat, j < 10 → (j : Int) < M 35 2 → (0 ≤ M 36 j ∧ M 36 j < 30) ∧ 0 ≤ M 37 j ∧ M 37 j ≤ 15) (hQ : Pq none (sr (sr (sr M 35 (us (M 35) 7 (hdS (M 36) (M 37) (M 38) (M 35 2).toNat (M 39) (M 40) 30).2.2)) 39 (hdS (M 36) (M 37) (M 38) (M 35 2).toNat (M 39) (M 40) 30).1) 40 (hdS (M 36) (M 37) (M 38) (M 35 2).toNat (M 39) (M 40) 30).2.1)) : gCtr l my_X6_findHidden mb_X6_findHidden 5 ((none : Option Jvm.ClassFile.FieldType)) 1 [gR 35] M Pq := by
  refine g_intro (by decide) (Nat.le_of_ble_eq_true rfl) ?_
  intro p e s m args below meth c D cy q A hK hr hlocks hw
  refine g_sub (L' := [(0, gR 35)]) [0] rfl ?_
  refine g_aloadn (pc := 0) (i := 0) (x := 35) hK dd_X6_findHidden_0 rfl rfl ?_
  refine g_iconst (pc := 1) (x := 0) hK dd_X6_findHidden_1 (by decide) ?_
  refine g_puti (pc := 2) (f := (0, 0)) (j := 7) (ty := .int) hK (kdm kd_35) rfl ef_6 (by decide) rfl kk_237 nl_35 (by decide) dd_X6_findHidden_2 rfl rfl rfl rfl rfl (by decide) ?_
  refine g_iconst (pc := 5) (x := 0) hK dd_X6_findHidden_5 (by decide) ?_
  refine g_istoren (pc := 6) (i := 1) (L' := [(0, gR 35), (1, gI 0)]) hK dd_X6_findHidden_6 rfl (by decide) rfl ?_
  have lp3 : ∀ (n1 : Nat) (t : Int), (0 ≤ t ∧ t ≤ 30) → (30 - t).toNat < n1 → G p l e (rmD 1) s m args below meth c D cy q A 0 0 5 (MQ below (gQc D cy q A Pq) args s 0 0 A) 7 [(0, gR 35), (1, gI t)] [] (sr (sr (sr M 35 (us (M 35) 7 (hdS (M 36) (M 37) (M 38) (M 35 2).toNat (M 39) (M 40) t.toNat).2.2)) 39 (hdS (M 36) (M 37) (M 38) (M 35 2).toNat (M 39) (M 40) t.toNat).1) 40 (hdS (M 36) (M 37) (M 38) (M 35 2).toNat (M 39) (M 40) t.toNat).2.1) := by
    intro n1
    induction n1 with
    | zero => intro t iv4 hm5; exact absurd hm5 (Nat.not_lt_zero _)
    | succ n1 ih2 =>
      intro t iv4 hm5
      refine g_iloadn (pc := 7) (i := 1) (x := t) hK dd_X6_findHidden_7 rfl rfl ?_
      refine g_bipush (pc := 8) (x := 30) hK dd_X6_findHidden_8 (by decide) ?_
      have hds_ := hdS_in (th := M 36) (pe := M 37) (se := M 38) (n := (M 35 2).toNat) (h0 := M 39) (s0 := M 40) t.toNat
      refine g_icmp_ge (pc := 10) (tgt := 118) hK dd_X6_findHidden_10 (by decide) ⟨by omega, by omega⟩ (by decide) (fun c6 => ?_) (fun c6 => ?_)
      · refine g_vret (pc := 118) hK hr hlocks dd_X6_findHidden_118 ?_
        exact g_finM hQ (by rw [show t.toNat = 30 by omega])
      · refine g_iconst (pc := 13) (x := 0) hK dd_X6_findHidden_13 (by decide) ?_
        refine g_istoren (pc := 14) (i := 2) (L' := [(0, gR 35), (1, gI t), (2, gI 0)]) hK dd_X6_findHidden_14 rfl (by decide) rfl ?_
        refine g_iconst (pc := 15) (x := 0) hK dd_X6_findHidden_15 (by decide) ?_
        refine g_istoren (pc := 16) (i := 3) (L' := [(0, gR 35), (1, gI t), (2, gI 0), (3, gI 0)]) hK dd_X6_findHidden_16 rfl (by decide) rfl ?_
        refine g_iconst (pc := 17) (x := 0) hK dd_X6_findHidden_17 (by decide) ?_
        refine g_istore (pc := 18) (i := 4) (L' := [(0, gR 35), (1, gI t), (2, gI 0), (3, gI 0), (4, gI 0)]) hK dd_X6_findHidden_18 (by decide) rfl ?_
        have lp9 : ∀ (n7 : Nat) (fo : Int) (wa : Int) (i : Int), (0 ≤ i ∧ i ≤ M 35 2) → (fo = fdN (M 36) t i.toNat) → (wa = watN (M 36) (M 37) (M 38) t i.toNat) → (M 35 2 - i).toNat < n7 → G p l e (rmD 1) s m args below meth c D cy q A 0 0 5 (MQ below (gQc D cy q A Pq) args s 0 0 A) 20 [(0, gR 35), (1, gI t), (2, gI fo), (3, gI wa), (4, gI i)] [] (sr (sr (sr M 35 (us (M 35) 7 (hdS (M 36) (M 37) (M 38) (M 35 2).toNat (M 39) (M 40) t.toNat).2.2)) 39 (hdS (M 36) (M 37) (M 38) (M 35 2).toNat (M 39) (M 40) t.toNat).1) 40 (hdS (M 36) (M 37) (M 38) (M 35 2).toNat (M 39) (M 40) t.toNat).2.1) := by
          intro n7
          induction n7 with
          | zero => intro fo wa i iv10 hfo_ hwa_ hm11; exact absurd hm11 (Nat.not_lt_zero _)
          | succ n7 ih8 =>
            intro fo wa i iv10 hfo_ hwa_ hm11
            refine g_iload (pc := 20) (i := 4) (x := i) hK dd_X6_findHidden_20 rfl ?_
            have hfi_ := fdN_in (M 36) t i.toNat
            have hwi_ := watN_in (M 36) (M 37) (M 38) t i.toNat
            rw [← hwa_] at hwi_
            refine g_aloadn (pc := 22) (i := 0) (x := 35) hK dd_X6_findHidden_22 rfl rfl ?_
            refine g_geti (pc := 23) (f := (0, 0)) (j := 2) hK (kdm kd_35) rfl ef_6 (by decide) rfl kk_230 nl_35 dd_X6_findHidden_23 rfl (fun x12 ex12 rx12 => ?_)
            replace ex12 : x12 = (us (M 35) 7 (hdS (M 36) (M 37) (M 38) (M 35 2).toNat (M 39) (M 40) t.toNat).2.2) 2 := by first | exact ex12 | (rw [ex12]; simp [up, us, cp, sr])
            replace ex12 : x12 = M 35 2 := ex12
            refine g_icmp_ge (pc := 26) (tgt := 64) hK dd_X6_findHidden_26 (by decide) ⟨by omega, by omega⟩ rx12 (fun c13 => ?_) (fun c13 => ?_)
            · have hfn_ : fo = fdN (M 36) t (M 35 2).toNat := by rw [hfo_, show M 35 2 = i by omega]
              have hwn_ : wa = watN (M 36) (M 37) (M 38) t (M 35 2).toNat := by rw [hwa_, show M 35 2 = i by omega]
              refine g_iloadn (pc := 64) (i := 2) (x := fo) hK dd_X6_findHidden_64 rfl rfl ?_
              refine g_if_le (pc := 65) (tgt := 112) hK dd_X6_findHidden_65 (by decide) ⟨by omega, by omega⟩ (fun c14 => ?_) (fun c14 => ?_)
              · refine g_iinc (pc := 112) (i := 1) (y := t + 1) (L' := [(0, gR 35), (1, gI (t + 1)), (2, gI fo), (3, gI wa), (4, gI i)]) hK dd_X6_findHidden_112 rfl rfl (by decide) rfl ?_
                refine g_goto (pc := 115) (tgt := 7) hK dd_X6_findHidden_115 (by decide) ?_
                refine g_sub (L' := [(0, gR 35), (1, gI (t + 1))]) [0, 1] rfl ?_
                refine g_mem (M2 := sr (sr (sr M 35 (us (M 35) 7 (hdS (M 36) (M 37) (M 38) (M 35 2).toNat (M 39) (M 40) (t + 1).toNat).2.2)) 39 (hdS (M 36) (M 37) (M 38) (M 35 2).toNat (M 39) (M 40) (t + 1).toNat).1) 40 (hdS (M 36) (M 37) (M 38) (M 35 2).toNat (M 39) (M 40) (t + 1).toNat).2.1) (by rw [tn1 (by omega)]; simp only [hdS]; rw [show ((t.toNat : Nat) : Int) = t by omega]; first | (rw [← hfn_, ← hwn_, if_pos ⟨by omega, by omega⟩]; subst_vars; simp (disch := decide) only [Int.reduceToNat, up_sr, sr_cp, sr_k, sr_o, sr_sr, us_us, @sr_lt _ 39 35 _ _ (by decide), @sr_lt _ 40 35 _ _ (by decide), @sr_lt _ 40 39 _ _ (by decide)]; try rfl) | (rw [← hfn_, if_neg (fun z_ => by omega)])) ?_
                exact ih2 (t + 1) (by omega) (by omega)
              · refine g_aloadn (pc := 68) (i := 0) (x := 35) hK dd_X6_findHidden_68 rfl rfl ?_
                refine g_geti (pc := 69) (f := (0, 0)) (j := 7) hK (kdm kd_35) rfl ef_6 (by decide) rfl kk_237 nl_35 dd_X6_findHidden_69 rfl (fun x15 ex15 rx15 => ?_)
                replace ex15 : x15 = (us (M 35) 7 (hdS (M 36) (M 37) (M 38) (M 35 2).toNat (M 39) (M 40) t.toNat).2.2) 7 := by first | exact ex15 | (rw [ex15]; simp [up, us, cp, sr])
                replace ex15 : x15 = (hdS (M 36) (M 37) (M 38) (M 35 2).toNat (M 39) (M 40) t.toNat).2.2 := ex15
                refine g_bipush (pc := 72) (x := 10) hK dd_X6_findHidden_72 (by decide) ?_
                refine g_icmp_ge (pc := 74) (tgt := 112) hK dd_X6_findHidden_74 (by decide) rx15 (by decide) (fun c16 => ?_) (fun c16 => ?_)
                · refine g_iinc (pc := 112) (i := 1) (y := t + 1) (L' := [(0, gR 35), (1, gI (t + 1)), (2, gI fo), (3, gI wa), (4, gI i)]) hK dd_X6_findHidden_112 rfl rfl (by decide) rfl ?_
                  refine g_goto (pc := 115) (tgt := 7) hK dd_X6_findHidden_115 (by decide) ?_
                  refine g_sub (L' := [(0, gR 35), (1, gI (t + 1))]) [0, 1] rfl ?_
                  refine g_mem (M2 := sr (sr (sr M 35 (us (M 35) 7 (hdS (M 36) (M 37) (M 38) (M 35 2).toNat (M 39) (M 40) (t + 1).toNat).2.2)) 39 (hdS (M 36) (M 37) (M 38) (M 35 2).toNat (M 39) (M 40) (t + 1).toNat).1) 40 (hdS (M 36) (M 37) (M 38) (M 35 2).toNat (M 39) (M 40) (t + 1).toNat).2.1) (by rw [tn1 (by omega)]; simp only [hdS]; rw [show ((t.toNat : Nat) : Int) = t by omega]; first | (rw [← hfn_, ← hwn_, if_pos ⟨by omega, by omega⟩]; subst_vars; simp (disch := decide) only [Int.reduceToNat, up_sr, sr_cp, sr_k, sr_o, sr_sr, us_us, @sr_lt _ 39 35 _ _ (by decide), @sr_lt _ 40 35 _ _ (by decide), @sr_lt _ 40 39 _ _ (by decide)]; try rfl) | (rw [← hfn_, if_neg (fun z_ => by omega)])) ?_
                  exact ih2 (t + 1) (by omega) (by omega)
                · refine g_aloadn (pc := 77) (i := 0) (x := 35) hK dd_X6_findHidden_77 rfl rfl ?_
                  refine g_getv (pc := 78) (f := (1, 4)) (j := 4) (v := gR 39) hK (kdm kd_35) rfl ef_6 (by decide) rfl kk_234 dd_X6_findHidden_78 rfl ?_
                  refine g_aloadn (pc := 81) (i := 0) (x := 35) hK dd_X6_findHidden_81 rfl rfl ?_
                  refine g_geti (pc := 82) (f := (0, 0)) (j := 7) hK (kdm kd_35) rfl ef_6 (by decide) rfl kk_237 nl_35 dd_X6_findHidden_82 rfl (fun x17 ex17 rx17 => ?_)
                  replace ex17 : x17 = (us (M 35) 7 (hdS (M 36) (M 37) (M 38) (M 35 2).toNat (M 39) (M 40) t.toNat).2.2) 7 := by first | exact ex17 | (rw [ex17]; simp [up, us, cp, sr])
                  replace ex17 : x17 = (hdS (M 36) (M 37) (M 38) (M 35 2).toNat (M 39) (M 40) t.toNat).2.2 := ex17
                  refine g_iloadn (pc := 85) (i := 1) (x := t) hK dd_X6_findHidden_85 rfl rfl ?_
                  refine g_iast (pc := 86) hK (kdm kd_39) nl_39 (by decide) (by decide) dd_X6_findHidden_86 (by omega) (by omega) ⟨by omega, by omega⟩ ?_
                  refine g_aloadn (pc := 87) (i := 0) (x := 35) hK dd_X6_findHidden_87 rfl rfl ?_
                  refine g_getv (pc := 88) (f := (1, 5)) (j := 5) (v := gR 40) hK (kdm kd_35) rfl ef_6 (by decide) rfl kk_235 dd_X6_findHidden_88 rfl ?_
                  refine g_aloadn (pc := 91) (i := 0) (x := 35) hK dd_X6_findHidden_91 rfl rfl ?_
                  refine g_geti (pc := 92) (f := (0, 0)) (j := 7) hK (kdm kd_35) rfl ef_6 (by decide) rfl kk_237 nl_35 dd_X6_findHidden_92 rfl (fun x18 ex18 rx18 => ?_)
                  replace ex18 : x18 = (us (M 35) 7 (hdS (M 36) (M 37) (M 38) (M 35 2).toNat (M 39) (M 40) t.toNat).2.2) 7 := by first | exact ex18 | (rw [ex18]; simp [up, us, cp, sr])
                  replace ex18 : x18 = (hdS (M 36) (M 37) (M 38) (M 35 2).toNat (M 39) (M 40) t.toNat).2.2 := ex18
                  refine g_bipush (pc := 95) (x := 31) hK dd_X6_findHidden_95 (by decide) ?_
                  refine g_iloadn (pc := 97) (i := 3) (x := wa) hK dd_X6_findHidden_97 rfl rfl ?_
                  refine g_iconst (pc := 98) (x := (-1)) hK dd_X6_findHidden_98 (by decide) ?_
                  refine g_ixor (pc := 99) (z := jxor wa (-1)) hK dd_X6_findHidden_99 rfl ?_
                  refine g_iand (pc := 100) (z := jand 31 (jxor wa (-1))) hK dd_X6_findHidden_100 rfl ?_
                  refine g_iast (pc := 101) hK (kdm kd_40) nl_40 (by decide) (by decide) dd_X6_findHidden_101 (by omega) (by omega) (jand_in _ _) ?_
                  refine g_aloadn (pc := 102) (i := 0) (x := 35) hK dd_X6_findHidden_102 rfl rfl ?_
                  refine g_dup (pc := 103) hK dd_X6_findHidden_103 rfl ?_
                  refine g_geti (pc := 104) (f := (0, 0)) (j := 7) hK (kdm kd_35) rfl ef_6 (by decide) rfl kk_237 nl_35 dd_X6_findHidden_104 rfl (fun x19 ex19 rx19 => ?_)
                  replace ex19 : x19 = (us (M 35) 7 (hdS (M 36) (M 37) (M 38) (M 35 2).toNat (M 39) (M 40) t.toNat).2.2) 7 := by first | exact ex19 | (rw [ex19]; simp [up, us, cp, sr])
                  replace ex19 : x19 = (hdS (M 36) (M 37) (M 38) (M 35 2).toNat (M 39) (M 40) t.toNat).2.2 := ex19
                  refine g_iconst (pc := 107) (x := 1) hK dd_X6_findHidden_107 (by decide) ?_
                  refine g_iadd (pc := 108) (z := x19 + 1) hK dd_X6_findHidden_108 rfl ?_
                  refine g_puti (pc := 109) (f := (0, 0)) (j := 7) (ty := .int) hK (kdm kd_35) rfl ef_6 (by decide) rfl kk_237 nl_35 (by decide) dd_X6_findHidden_109 rfl rfl rfl rfl rfl ⟨by omega, by omega⟩ ?_
                  refine g_iinc (pc := 112) (i := 1) (y := t + 1) (L' := [(0, gR 35), (1, gI (t + 1)), (2, gI fo), (3, gI wa), (4, gI i)]) hK dd_X6_findHidden_112 rfl rfl (by decide) rfl ?_
                  refine g_goto (pc := 115) (tgt := 7) hK dd_X6_findHidden_115 (by decide) ?_
                  refine g_sub (L' := [(0, gR 35), (1, gI (t + 1))]) [0, 1] rfl ?_
                  refine g_mem (M2 := sr (sr (sr M 35 (us (M 35) 7 (hdS (M 36) (M 37) (M 38) (M 35 2).toNat (M 39) (M 40) (t + 1).toNat).2.2)) 39 (hdS (M 36) (M 37) (M 38) (M 35 2).toNat (M 39) (M 40) (t + 1).toNat).1) 40 (hdS (M 36) (M 37) (M 38) (M 35 2).toNat (M 39) (M 40) (t + 1).toNat).2.1) (by rw [tn1 (by omega)]; simp only [hdS]; rw [show ((t.toNat : Nat) : Int) = t by omega]; first | (rw [← hfn_, ← hwn_, if_pos ⟨by omega, by omega⟩]; subst_vars; simp (disch := decide) only [Int.reduceToNat, up_sr, sr_cp, sr_k, sr_o, sr_sr, us_us, @sr_lt _ 39 35 _ _ (by decide), @sr_lt _ 40 35 _ _ (by decide), @sr_lt _ 40 39 _ _ (by decide)]; try rfl) | (rw [← hfn_, if_neg (fun z_ => by omega)])) ?_
                  exact ih2 (t + 1) (by omega) (by omega)
            · have hsj_ := hse i.toNat (by omega) (by omega)
              refine g_aloadn (pc := 29) (i := 0) (x := 35) hK dd_X6_findHidden_29 rfl rfl ?_
              refine g_getv (pc := 30) (f := (1, 1)) (j := 0) (v := gR 36) hK (kdm kd_35) rfl ef_6 (by decide) rfl kk_228 dd_X6_findHidden_30 rfl ?_
              refine g_iload (pc := 33) (i := 4) (x := i) hK dd_X6_findHidden_33 rfl ?_
              refine g_iald (pc := 35) hK (kdm kd_36) nl_36 (by decide) dd_X6_findHidden_35 (by omega) (by omega) (fun x20 ex20 rx20 => ?_)
              replace ex20 : x20 = M 36 i.toNat := ex20
              refine g_iloadn (pc := 36) (i := 1) (x := t) hK dd_X6_findHidden_36 rfl rfl ?_
              refine g_icmp_ne (pc := 37) (tgt := 58) hK dd_X6_findHidden_37 (by decide) rx20 ⟨by omega, by omega⟩ (fun c21 => ?_) (fun c21 => ?_)
              · refine g_iinc (pc := 58) (i := 4) (y := i + 1) (L' := [(0, gR 35), (1, gI t), (2, gI fo), (3, gI wa), (4, gI (i + 1))]) hK dd_X6_findHidden_58 rfl rfl (by decide) rfl ?_
                refine g_goto (pc := 61) (tgt := 20) hK dd_X6_findHidden_61 (by decide) ?_
                refine g_sub (L' := [(0, gR 35), (1, gI t), (2, gI fo), (3, gI wa), (4, gI (i + 1))]) [0, 1, 2, 3, 4] rfl ?_
                refine g_mem (M2 := sr (sr (sr M 35 (us (M 35) 7 (hdS (M 36) (M 37) (M 38) (M 35 2).toNat (M 39) (M 40) t.toNat).2.2)) 39 (hdS (M 36) (M 37) (M 38) (M 35 2).toNat (M 39) (M 40) t.toNat).1) 40 (hdS (M 36) (M 37) (M 38) (M 35 2).toNat (M 39) (M 40) t.toNat).2.1) (rfl) ?_
                exact ih8 fo wa (i + 1) (by omega) (by rw [tn1 (by omega)]; simp only [fdN]; first | (rw [if_pos (by omega)]; omega) | (rw [if_neg (by omega)]; assumption)) (by rw [tn1 (by omega)]; simp only [watN]; first | (rw [if_pos (by omega)]; subst_vars; rfl) | (rw [if_neg (by omega)]; assumption)) (by omega)
              · refine g_iinc (pc := 40) (i := 2) (y := fo + 1) (L' := [(0, gR 35), (1, gI t), (2, gI (fo + 1)), (3, gI wa), (4, gI i)]) hK dd_X6_findHidden_40 rfl rfl (by decide) rfl ?_
                refine g_iloadn (pc := 43) (i := 3) (x := wa) hK dd_X6_findHidden_43 rfl rfl ?_
                refine g_aloadn (pc := 44) (i := 0) (x := 35) hK dd_X6_findHidden_44 rfl rfl ?_
                refine g_getv (pc := 45) (f := (1, 3)) (j := 3) (v := gR 38) hK (kdm kd_35) rfl ef_6 (by decide) rfl kk_232 dd_X6_findHidden_45 rfl ?_
                refine g_aloadn (pc := 48) (i := 0) (x := 35) hK dd_X6_findHidden_48 rfl rfl ?_
                refine g_getv (pc := 49) (f := (1, 2)) (j := 1) (v := gR 37) hK (kdm kd_35) rfl ef_6 (by decide) rfl kk_229 dd_X6_findHidden_49 rfl ?_
                refine g_iload (pc := 52) (i := 4) (x := i) hK dd_X6_findHidden_52 rfl ?_
                refine g_iald (pc := 54) hK (kdm kd_37) nl_37 (by decide) dd_X6_findHidden_54 (by omega) (by omega) (fun x22 ex22 rx22 => ?_)
                replace ex22 : x22 = M 37 i.toNat := ex22
                refine g_iald (pc := 55) hK (kdm kd_38) nl_38 (by decide) dd_X6_findHidden_55 (by omega) (by omega) (fun x23 ex23 rx23 => ?_)
                replace ex23 : x23 = M 38 x22.toNat := ex23
                refine g_ior (pc := 56) (z := jor wa x23) hK dd_X6_findHidden_56 rfl ?_
                refine g_istoren (pc := 57) (i := 3) (L' := [(0, gR 35), (1, gI t), (2, gI (fo + 1)), (3, gI (jor wa x23)), (4, gI i)]) hK dd_X6_findHidden_57 rfl (by decide) rfl ?_
                refine g_iinc (pc := 58) (i := 4) (y := i + 1) (L' := [(0, gR 35), (1, gI t), (2, gI (fo + 1)), (3, gI (jor wa x23)), (4, gI (i + 1))]) hK dd_X6_findHidden_58 rfl rfl (by decide) rfl ?_
                refine g_goto (pc := 61) (tgt := 20) hK dd_X6_findHidden_61 (by decide) ?_
                refine g_sub (L' := [(0, gR 35), (1, gI t), (2, gI (fo + 1)), (3, gI (jor wa x23)), (4, gI (i + 1))]) [0, 1, 2, 3, 4] rfl ?_
                refine g_mem (M2 := sr (sr (sr M 35 (us (M 35) 7 (hdS (M 36) (M 37) (M 38) (M 35 2).toNat (M 39) (M 40) t.toNat).2.2)) 39 (hdS (M 36) (M 37) (M 38) (M 35 2).toNat (M 39) (M 40) t.toNat).1) 40 (hdS (M 36) (M 37) (M 38) (M 35 2).toNat (M 39) (M 40) t.toNat).2.1) (rfl) ?_
                exact ih8 (fo + 1) (jor wa x23) (i + 1) (by omega) (by rw [tn1 (by omega)]; simp only [fdN]; first | (rw [if_pos (by omega)]; omega) | (rw [if_neg (by omega)]; assumption)) (by rw [tn1 (by omega)]; simp only [watN]; first | (rw [if_pos (by omega)]; subst_vars; rfl) | (rw [if_neg (by omega)]; assumption)) (by omega)
        refine g_mem (M2 := sr (sr (sr M 35 (us (M 35) 7 (hdS (M 36) (M 37) (M 38) (M 35 2).toNat (M 39) (M 40) t.toNat).2.2)) 39 (hdS (M 36) (M 37) (M 38) (M 35 2).toNat (M 39) (M 40) t.toNat).1) 40 (hdS (M 36) (M 37) (M 38) (M 35 2).toNat (M 39) (M 40) t.toNat).2.1) (rfl) ?_
        refine g_sub (L' := [(0, gR 35), (1, gI t), (2, gI 0), (3, gI 0), (4, gI 0)]) [0, 1, 2, 3, 4] rfl ?_
        exact lp9 _ 0 0 0 (by omega) (rfl) (rfl) (Nat.lt_succ_self _)
  refine g_mem (M2 := sr (sr (sr M 35 (us (M 35) 7 (hdS (M 36) (M 37) (M 38) (M 35 2).toNat (M 39) (M 40) (0 : Int).toNat).2.2)) 39 (hdS (M 36) (M 37) (M 38) (M 35 2).toNat (M 39) (M 40) (0 : Int).toNat).1) 40 (hdS (M 36) (M 37) (M 38) (M 35 2).toNat (M 39) (M 40) (0 : Int).toNat).2.1) (by rw [up_sr]; refine Eq.trans ?_ (sr_id (k := 40) rfl).symm; exact (sr_id (k := 39) rfl).symm) ?_
  refine g_sub (L' := [(0, gR 35), (1, gI 0)]) [0, 1] rfl ?_
  exact lp3 _ 0 (by omega) (Nat.lt_succ_self _)
