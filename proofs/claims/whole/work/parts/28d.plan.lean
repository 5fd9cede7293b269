set_option maxHeartbeats 4000000 in
set_option maxRecDepth 100000 in
theorem c_planTables {l : Launch} {M : Mem} {Pq : Option gV → Mem → Prop} (hlc : 0 ≤ M 14 3 ∧ M 14 3 ≤ 5) (htc : 0 ≤ M 5 7 ∧ M 5 7 ≤ 5) (hc : 0 ≤ M 6 6 ∧ M 6 6 ≤ 30) (hth : thOK M) (hwc : 0 ≤ M 18 2 ∧ M 18 2 ≤ 6) (hla : laOK M) (hlw : lwOK (M 19) (M 18 2)) (hQ : Pq none (sr (sr M 44 (ltF (M 44) (fun a t => losK (M 7) (M 8) (M 9) (M 15 a) (M 16 a) (M 17 a) (M 19) (M 18 2) (M 43 t) (M 6 6).toNat) (M 14 3).toNat 0 (M 5 7).toNat)) 45 (plS (ltF (M 44) (fun a t => losK (M 7) (M 8) (M 9) (M 15 a) (M 16 a) (M 17 a) (M 19) (M 18 2) (M 43 t) (M 6 6).toNat) (M 14 3).toNat 0 (M 5 7).toNat) (M 45) (M 14 3).toNat (M 5 7) (jshl 1 (M 14 3) - 1) (jshl 1 (M 14 3)).toNat))) : gCtr l my_X1_planTables mb_X1_planTables 4 ((none : Option Jvm.ClassFile.FieldType)) 7 [gR 5] M Pq := by
  refine g_intro (by decide) (Nat.le_of_ble_eq_true rfl) ?_
  intro p e s m args below meth c D cy q A hK hr hlocks hw
  refine g_sub (L' := [(0, gR 5)]) [0] rfl ?_
  have hls_ := fun (a t : Nat) (ha : (a : Int) < M 14 3) => losK_in (k := M 7) (w := M 8) (c := M 9) (kn := M 15 a) (gs := M 16 a) (lw := M 17 a) (ks := M 43 t) hlw (hla a (by omega)).2 (fun j hj => thW hth hj) (M 6 6).toNat (by omega)
  have hp_ := jsh1 hlc.1 hlc.2
  refine g_iconst (pc := 0) (x := 0) hK dd_X1_planTables_0 (by decide) ?_
  refine g_istoren (pc := 1) (i := 1) (L' := [(0, gR 5), (1, gI 0)]) hK dd_X1_planTables_1 rfl (by decide) rfl ?_
  have lp3 : ∀ (n1 : Nat) (la : Int), (0 ≤ la ∧ la ≤ M 14 3) → (M 14 3 - la).toNat < n1 → G p l e (rmD 7) s m args below meth c D cy q A 0 0 4 (MQ below (gQc D cy q A Pq) args s 0 0 A) 2 [(0, gR 5), (1, gI la)] [] (sr M 44 (ltF (M 44) (fun a t => losK (M 7) (M 8) (M 9) (M 15 a) (M 16 a) (M 17 a) (M 19) (M 18 2) (M 43 t) (M 6 6).toNat) la.toNat 0 (M 5 7).toNat)) := by
    intro n1
    induction n1 with
    | zero => intro la iv4 hm5; exact absurd hm5 (Nat.not_lt_zero _)
    | succ n1 ih2 =>
      intro la iv4 hm5
      refine g_iloadn (pc := 2) (i := 1) (x := la) hK dd_X1_planTables_2 rfl rfl ?_
      refine g_aloadn (pc := 3) (i := 0) (x := 5) hK dd_X1_planTables_3 rfl rfl ?_
      refine g_getv (pc := 4) (f := (1, 9)) (j := 1) (v := gR 14) hK (kdm kd_5) rfl ef_1 (by decide) rfl kk_261 dd_X1_planTables_4 rfl ?_
      refine g_geti (pc := 7) (f := (0, 0)) (j := 3) hK (kdm kd_14) rfl ef_2 (by decide) rfl kk_124 nl_14 dd_X1_planTables_7 rfl (fun x6 ex6 rx6 => ?_)
      replace ex6 : x6 = M 14 3 := ex6
      refine g_icmp_ge (pc := 10) (tgt := 56) hK dd_X1_planTables_10 (by decide) ⟨by omega, by omega⟩ rx6 (fun c7 => ?_) (fun c7 => ?_)
      · refine g_iconst (pc := 56) (x := 1) hK dd_X1_planTables_56 (by decide) ?_
        refine g_aloadn (pc := 57) (i := 0) (x := 5) hK dd_X1_planTables_57 rfl rfl ?_
        refine g_getv (pc := 58) (f := (1, 9)) (j := 1) (v := gR 14) hK (kdm kd_5) rfl ef_1 (by decide) rfl kk_261 dd_X1_planTables_58 rfl ?_
        refine g_geti (pc := 61) (f := (0, 0)) (j := 3) hK (kdm kd_14) rfl ef_2 (by decide) rfl kk_124 nl_14 dd_X1_planTables_61 rfl (fun x8 ex8 rx8 => ?_)
        replace ex8 : x8 = M 14 3 := ex8
        refine g_topv (v := gI (M 14 3)) (by rw [ex8]) ?_
        refine g_ishl (pc := 64) (z := jshl 1 (M 14 3)) hK dd_X1_planTables_64 rfl ?_
        refine g_iconst (pc := 65) (x := 1) hK dd_X1_planTables_65 (by decide) ?_
        refine g_isub (pc := 66) (z := (jshl 1 (M 14 3)) - 1) hK dd_X1_planTables_66 rfl ?_
        refine g_istoren (pc := 67) (i := 1) (L' := [(0, gR 5), (1, gI ((jshl 1 (M 14 3)) - 1))]) hK dd_X1_planTables_67 rfl (by decide) rfl ?_
        have lp11 : ∀ (n9 : Nat) (bz : Int), (-1 ≤ bz ∧ bz ≤ (jshl 1 (M 14 3) - 1)) → (bz + 1).toNat < n9 → G p l e (rmD 7) s m args below meth c D cy q A 0 0 4 (MQ below (gQc D cy q A Pq) args s 0 0 A) 68 [(0, gR 5), (1, gI bz)] [] (sr (sr M 44 (ltF (M 44) (fun a t => losK (M 7) (M 8) (M 9) (M 15 a) (M 16 a) (M 17 a) (M 19) (M 18 2) (M 43 t) (M 6 6).toNat) (M 14 3).toNat 0 (M 5 7).toNat)) 45 (plS (ltF (M 44) (fun a t => losK (M 7) (M 8) (M 9) (M 15 a) (M 16 a) (M 17 a) (M 19) (M 18 2) (M 43 t) (M 6 6).toNat) (M 14 3).toNat 0 (M 5 7).toNat) (M 45) (M 14 3).toNat (M 5 7) (jshl 1 (M 14 3) - 1) ((jshl 1 (M 14 3) - 1) - bz).toNat)) := by
          intro n9
          induction n9 with
          | zero => intro bz hbz_ hm12; exact absurd hm12 (Nat.not_lt_zero _)
          | succ n9 ih10 =>
            intro bz hbz_ hm12
            refine g_iloadn (pc := 68) (i := 1) (x := bz) hK dd_X1_planTables_68 rfl rfl ?_
            refine g_if_lt (pc := 69) (tgt := 112) hK dd_X1_planTables_69 (by decide) ⟨by omega, by omega⟩ (fun c13 => ?_) (fun c13 => ?_)
            · refine g_vret (pc := 112) hK hr hlocks dd_X1_planTables_112 ?_
              exact g_finM hQ (by rw [show ((jshl 1 (M 14 3) - 1) - bz).toNat = (jshl 1 (M 14 3)).toNat by omega])
            · have hkb_ : (jshl 1 (M 14 3) - 1) - ((((jshl 1 (M 14 3) - 1) - bz).toNat : Nat) : Int) = bz := by omega
              have b5_ := bc8_5 (b := bz) (by omega) (by omega)
              have hA_ : ∀ a t : Nat, (a : Int) < M 14 3 → (t : Int) < M 5 7 → 0 ≤ (ltF (M 44) (fun a t => losK (M 7) (M 8) (M 9) (M 15 a) (M 16 a) (M 17 a) (M 19) (M 18 2) (M 43 t) (M 6 6).toNat) (M 14 3).toNat 0 (M 5 7).toNat) (a * 5 + t) ∧ (ltF (M 44) (fun a t => losK (M 7) (M 8) (M 9) (M 15 a) (M 16 a) (M 17 a) (M 19) (M 18 2) (M 43 t) (M 6 6).toNat) (M 14 3).toNat 0 (M 5 7).toNat) (a * 5 + t) ≤ 40000 := fun a t ha ht => by rw [ltF_in (by omega) (by omega) (by omega)]; have q_ := hls_ a t ha; omega
              have hpi_ := plS_in (LA := ltF (M 44) (fun a t => losK (M 7) (M 8) (M 9) (M 15 a) (M 16 a) (M 17 a) (M 19) (M 18 2) (M 43 t) (M 6 6).toNat) (M 14 3).toNat 0 (M 5 7).toNat) (L0 := M 45) hlc htc.2 hA_ ((jshl 1 (M 14 3) - 1) - bz).toNat (by omega)
              have hw2_ : ∀ a : Int, 0 ≤ a → a < M 14 3 → ¬ hb bz a → bc8 bz < M 5 7 → (0 ≤ (ltF (M 44) (fun a t => losK (M 7) (M 8) (M 9) (M 15 a) (M 16 a) (M 17 a) (M 19) (M 18 2) (M 43 t) (M 6 6).toNat) (M 14 3).toNat 0 (M 5 7).toNat) (a * 5 + bc8 bz).toNat ∧ (ltF (M 44) (fun a t => losK (M 7) (M 8) (M 9) (M 15 a) (M 16 a) (M 17 a) (M 19) (M 18 2) (M 43 t) (M 6 6).toNat) (M 14 3).toNat 0 (M 5 7).toNat) (a * 5 + bc8 bz).toNat ≤ 40000) ∧ 0 ≤ (plS (ltF (M 44) (fun a t => losK (M 7) (M 8) (M 9) (M 15 a) (M 16 a) (M 17 a) (M 19) (M 18 2) (M 43 t) (M 6 6).toNat) (M 14 3).toNat 0 (M 5 7).toNat) (M 45) (M 14 3).toNat (M 5 7) (jshl 1 (M 14 3) - 1) ((jshl 1 (M 14 3) - 1) - bz).toNat) (jor bz (jshl 1 a)).toNat ∧ (plS (ltF (M 44) (fun a t => losK (M 7) (M 8) (M 9) (M 15 a) (M 16 a) (M 17 a) (M 19) (M 18 2) (M 43 t) (M 6 6).toNat) (M 14 3).toNat 0 (M 5 7).toNat) (M 45) (M 14 3).toNat (M 5 7) (jshl 1 (M 14 3) - 1) ((jshl 1 (M 14 3) - 1) - bz).toNat) (jor bz (jshl 1 a)).toNat ≤ 400000 := fun a h0 h1 h2 h3 => by
                have b5_ := bc8_5 (b := bz) (by omega) (by omega)
                have w_ := jorW hlc (b := bz) (a := a) (by omega) (by omega) h2
                have q1_ := hA_ a.toNat (bc8 bz).toNat (by omega) (by omega)
                rw [← show (a * 5 + bc8 bz).toNat = a.toNat * 5 + (bc8 bz).toNat by omega] at q1_
                have q2_ := hpi_ (jor bz (jshl 1 a)).toNat (by omega) (by omega)
                have b6_ := bc8_in (((jor bz (jshl 1 a)).toNat : Nat) : Int)
                exact ⟨q1_, q2_.1, by omega⟩
              refine g_iloadn (pc := 72) (i := 1) (x := bz) hK dd_X1_planTables_72 rfl rfl ?_
              refine g_callT (pc := 73) (As := [gI bz]) hK ws_Hall_134 md_J6_bitCount_0f7a4 ⟨Nat.zero_le _, Nat.zero_le _⟩ ⟨by decide, by decide⟩ dd_X1_planTables_73 rfl rfl (Nat.le_of_ble_eq_true rfl) (c_bitCount bz (show 0 ≤ bz by omega) (show bz ≤ 255 by omega) (g_r1 ?_))
              refine g_istoren (pc := 76) (i := 2) (L' := [(0, gR 5), (1, gI bz), (2, gI (bc8 bz))]) hK dd_X1_planTables_76 rfl (by decide) rfl ?_
              refine g_aloadn (pc := 77) (i := 0) (x := 5) hK dd_X1_planTables_77 rfl rfl ?_
              refine g_iloadn (pc := 78) (i := 1) (x := bz) hK dd_X1_planTables_78 rfl rfl ?_
              refine g_iloadn (pc := 79) (i := 2) (x := bc8 bz) hK dd_X1_planTables_79 rfl rfl ?_
              refine g_callV (pc := 80) (As := [gI bz, gI (bc8 bz)]) hK ws_Hall_139 md_X1_bestLady ⟨Nat.zero_le _, Nat.zero_le _⟩ ⟨by decide, by decide⟩ (kdm kd_5) rfl rfl dd_X1_planTables_80 rfl rfl (Nat.le_of_ble_eq_true rfl) (c_bestLady bz (bc8 bz) (by omega) (by omega) htc hlc hw2_ (fun c14 => g_r1 ?_) (fun c15 => g_r1 ?_))
              · replace c14 : M 5 7 ≤ (bc8 bz) := c14
                refine g_istoren (pc := 83) (i := 3) (L' := [(0, gR 5), (1, gI bz), (2, gI (bc8 bz)), (3, gI (-1))]) hK dd_X1_planTables_83 rfl (by decide) rfl ?_
                refine g_aloadn (pc := 84) (i := 0) (x := 5) hK dd_X1_planTables_84 rfl rfl ?_
                refine g_getv (pc := 85) (f := (1, 40)) (j := 13) (v := gR 45) hK (kdm kd_5) rfl ef_1 (by decide) rfl kk_285 dd_X1_planTables_85 rfl ?_
                refine g_iloadn (pc := 88) (i := 1) (x := bz) hK dd_X1_planTables_88 rfl rfl ?_
                refine g_iloadn (pc := 89) (i := 3) (x := (-1)) hK dd_X1_planTables_89 rfl rfl ?_
                refine g_iconst (pc := 90) (x := (-1)) hK dd_X1_planTables_90 (by decide) ?_
                refine g_icmp_ne (pc := 91) (tgt := 98) hK dd_X1_planTables_91 (by decide) (by decide) (by decide) (fun c16 => absurd c16 (by decide)) (fun _ => ?_)
                refine g_iconst (pc := 94) (x := 0) hK dd_X1_planTables_94 (by decide) ?_
                refine g_goto (pc := 95) (tgt := 105) hK dd_X1_planTables_95 (by decide) ?_
                have hpv_ : plV (ltF (M 44) (fun a t => losK (M 7) (M 8) (M 9) (M 15 a) (M 16 a) (M 17 a) (M 19) (M 18 2) (M 43 t) (M 6 6).toNat) (M 14 3).toNat 0 (M 5 7).toNat) (plS (ltF (M 44) (fun a t => losK (M 7) (M 8) (M 9) (M 15 a) (M 16 a) (M 17 a) (M 19) (M 18 2) (M 43 t) (M 6 6).toNat) (M 14 3).toNat 0 (M 5 7).toNat) (M 45) (M 14 3).toNat (M 5 7) (jshl 1 (M 14 3) - 1) ((jshl 1 (M 14 3) - 1) - bz).toNat) bz (M 14 3).toNat (M 5 7) = 0 := by unfold plV; rw [if_pos (by omega)]
                refine g_iast (pc := 105) hK (kdm kd_45) nl_45 (by decide) (by decide) dd_X1_planTables_105 (by omega) (by omega) (by decide) ?_
                refine g_iinc (pc := 106) (i := 1) (y := bz - 1) (L' := [(0, gR 5), (1, gI (bz - 1)), (2, gI (bc8 bz)), (3, gI (-1))]) hK dd_X1_planTables_106 rfl (by omega) (by decide) rfl ?_
                refine g_goto (pc := 109) (tgt := 68) hK dd_X1_planTables_109 (by decide) ?_
                refine g_sub (L' := [(0, gR 5), (1, gI (bz - 1))]) [0, 1] rfl ?_
                refine g_mem (M2 := sr (sr M 44 (ltF (M 44) (fun a t => losK (M 7) (M 8) (M 9) (M 15 a) (M 16 a) (M 17 a) (M 19) (M 18 2) (M 43 t) (M 6 6).toNat) (M 14 3).toNat 0 (M 5 7).toNat)) 45 (plS (ltF (M 44) (fun a t => losK (M 7) (M 8) (M 9) (M 15 a) (M 16 a) (M 17 a) (M 19) (M 18 2) (M 43 t) (M 6 6).toNat) (M 14 3).toNat 0 (M 5 7).toNat) (M 45) (M 14 3).toNat (M 5 7) (jshl 1 (M 14 3) - 1) ((jshl 1 (M 14 3) - 1) - (bz - 1)).toNat)) (by rw [show ((jshl 1 (M 14 3) - 1) - (bz - 1)).toNat = ((jshl 1 (M 14 3) - 1) - bz).toNat + 1 by omega]; simp only [plS]; rw [hkb_]; rw [← hpv_]; simp (disch := decide) only [Int.reduceToNat, up_sr, sr_cp, sr_k, sr_o, sr_sr, us_us, @sr_lt _ 45 44 _ _ (by decide)]; try rfl) ?_
                exact ih10 (bz - 1) (by omega) (by omega)
              · replace c15 : (bc8 bz) < M 5 7 := c15
                refine g_topI (fun y17 ey17 => ?_)
                replace ey17 : y17 = (blS (lwV ((ltF (M 44) (fun a t => losK (M 7) (M 8) (M 9) (M 15 a) (M 16 a) (M 17 a) (M 19) (M 18 2) (M 43 t) (M 6 6).toNat) (M 14 3).toNat 0 (M 5 7).toNat)) ((plS (ltF (M 44) (fun a t => losK (M 7) (M 8) (M 9) (M 15 a) (M 16 a) (M 17 a) (M 19) (M 18 2) (M 43 t) (M 6 6).toNat) (M 14 3).toNat 0 (M 5 7).toNat) (M 45) (M 14 3).toNat (M 5 7) (jshl 1 (M 14 3) - 1) ((jshl 1 (M 14 3) - 1) - bz).toNat)) bz (bc8 bz)) bz (M 14 3).toNat).1 := ey17
                have hnb_ := blS_nb (w := lwV (ltF (M 44) (fun a t => losK (M 7) (M 8) (M 9) (M 15 a) (M 16 a) (M 17 a) (M 19) (M 18 2) (M 43 t) (M 6 6).toNat) (M 14 3).toNat 0 (M 5 7).toNat) (plS (ltF (M 44) (fun a t => losK (M 7) (M 8) (M 9) (M 15 a) (M 16 a) (M 17 a) (M 19) (M 18 2) (M 43 t) (M 6 6).toNat) (M 14 3).toNat 0 (M 5 7).toNat) (M 45) (M 14 3).toNat (M 5 7) (jshl 1 (M 14 3) - 1) ((jshl 1 (M 14 3) - 1) - bz).toNat) bz (bc8 bz)) (bz := bz) (M 14 3).toNat
                rw [← ey17] at hnb_
                refine g_istoren (pc := 83) (i := 3) (L' := [(0, gR 5), (1, gI bz), (2, gI (bc8 bz)), (3, gI y17)]) hK dd_X1_planTables_83 rfl (by decide) rfl ?_
                refine g_aloadn (pc := 84) (i := 0) (x := 5) hK dd_X1_planTables_84 rfl rfl ?_
                refine g_getv (pc := 85) (f := (1, 40)) (j := 13) (v := gR 45) hK (kdm kd_5) rfl ef_1 (by decide) rfl kk_285 dd_X1_planTables_85 rfl ?_
                refine g_iloadn (pc := 88) (i := 1) (x := bz) hK dd_X1_planTables_88 rfl rfl ?_
                refine g_iloadn (pc := 89) (i := 3) (x := y17) hK dd_X1_planTables_89 rfl rfl ?_
                refine g_iconst (pc := 90) (x := (-1)) hK dd_X1_planTables_90 (by decide) ?_
                refine g_icmp_ne (pc := 91) (tgt := 98) hK dd_X1_planTables_91 (by decide) ⟨by omega, by omega⟩ (by decide) (fun c18 => ?_) (fun c18 => ?_)
                · have hyr_ : (0 ≤ y17 ∧ y17 < M 14 3) ∧ ¬ hb bz y17 := by
                    rcases hnb_ with z_ | z_
                    · exact absurd z_ (by omega)
                    · exact ⟨⟨z_.1.1, by omega⟩, z_.2⟩
                  refine g_aloadn (pc := 98) (i := 0) (x := 5) hK dd_X1_planTables_98 rfl rfl ?_
                  refine g_iloadn (pc := 99) (i := 1) (x := bz) hK dd_X1_planTables_99 rfl rfl ?_
                  refine g_iloadn (pc := 100) (i := 2) (x := bc8 bz) hK dd_X1_planTables_100 rfl rfl ?_
                  refine g_iloadn (pc := 101) (i := 3) (x := y17) hK dd_X1_planTables_101 rfl rfl ?_
                  refine g_callV (pc := 102) (As := [gI bz, gI (bc8 bz), gI y17]) hK ws_Hall_142 md_X1_lostWith ⟨Nat.zero_le _, Nat.zero_le _⟩ ⟨by decide, by decide⟩ (kdm kd_5) rfl rfl dd_X1_planTables_102 rfl rfl (Nat.le_of_ble_eq_true rfl) (c_lostWith bz (bc8 bz) y17 (show 0 ≤ bz ∧ bz < 32 by omega) (show 0 ≤ (bc8 bz) ∧ (bc8 bz) < 5 by omega) (show 0 ≤ y17 ∧ y17 < 5 by omega) (g_r1 ?_))
                  refine g_topI (fun lw elw => ?_)
                  replace elw : lw = lwV ((ltF (M 44) (fun a t => losK (M 7) (M 8) (M 9) (M 15 a) (M 16 a) (M 17 a) (M 19) (M 18 2) (M 43 t) (M 6 6).toNat) (M 14 3).toNat 0 (M 5 7).toNat)) ((plS (ltF (M 44) (fun a t => losK (M 7) (M 8) (M 9) (M 15 a) (M 16 a) (M 17 a) (M 19) (M 18 2) (M 43 t) (M 6 6).toNat) (M 14 3).toNat 0 (M 5 7).toNat) (M 45) (M 14 3).toNat (M 5 7) (jshl 1 (M 14 3) - 1) ((jshl 1 (M 14 3) - 1) - bz).toNat)) bz (bc8 bz) y17 := elw
                  have hlv_ : 0 ≤ lw ∧ lw ≤ 440000 := by
                    have q_ := hw2_ _ hyr_.1.1 hyr_.1.2 hyr_.2 (by omega)
                    rw [elw]; unfold lwV; omega
                  have hpv_ : plV (ltF (M 44) (fun a t => losK (M 7) (M 8) (M 9) (M 15 a) (M 16 a) (M 17 a) (M 19) (M 18 2) (M 43 t) (M 6 6).toNat) (M 14 3).toNat 0 (M 5 7).toNat) (plS (ltF (M 44) (fun a t => losK (M 7) (M 8) (M 9) (M 15 a) (M 16 a) (M 17 a) (M 19) (M 18 2) (M 43 t) (M 6 6).toNat) (M 14 3).toNat 0 (M 5 7).toNat) (M 45) (M 14 3).toNat (M 5 7) (jshl 1 (M 14 3) - 1) ((jshl 1 (M 14 3) - 1) - bz).toNat) bz (M 14 3).toNat (M 5 7) = lw := by unfold plV; rw [if_neg (by omega), ← ey17, if_neg (by omega)]; exact elw.symm
                  refine g_iast (pc := 105) hK (kdm kd_45) nl_45 (by decide) (by decide) dd_X1_planTables_105 (by omega) (by omega) ⟨by omega, by omega⟩ ?_
                  refine g_iinc (pc := 106) (i := 1) (y := bz - 1) (L' := [(0, gR 5), (1, gI (bz - 1)), (2, gI (bc8 bz)), (3, gI y17)]) hK dd_X1_planTables_106 rfl (by omega) (by decide) rfl ?_
                  refine g_goto (pc := 109) (tgt := 68) hK dd_X1_planTables_109 (by decide) ?_
                  refine g_sub (L' := [(0, gR 5), (1, gI (bz - 1))]) [0, 1] rfl ?_
                  refine g_mem (M2 := sr (sr M 44 (ltF (M 44) (fun a t => losK (M 7) (M 8) (M 9) (M 15 a) (M 16 a) (M 17 a) (M 19) (M 18 2) (M 43 t) (M 6 6).toNat) (M 14 3).toNat 0 (M 5 7).toNat)) 45 (plS (ltF (M 44) (fun a t => losK (M 7) (M 8) (M 9) (M 15 a) (M 16 a) (M 17 a) (M 19) (M 18 2) (M 43 t) (M 6 6).toNat) (M 14 3).toNat 0 (M 5 7).toNat) (M 45) (M 14 3).toNat (M 5 7) (jshl 1 (M 14 3) - 1) ((jshl 1 (M 14 3) - 1) - (bz - 1)).toNat)) (by rw [show ((jshl 1 (M 14 3) - 1) - (bz - 1)).toNat = ((jshl 1 (M 14 3) - 1) - bz).toNat + 1 by omega]; simp only [plS]; rw [hkb_]; rw [← hpv_]; simp (disch := decide) only [Int.reduceToNat, up_sr, sr_cp, sr_k, sr_o, sr_sr, us_us, @sr_lt _ 45 44 _ _ (by decide)]; try rfl) ?_
                  exact ih10 (bz - 1) (by omega) (by omega)
                · refine g_iconst (pc := 94) (x := 0) hK dd_X1_planTables_94 (by decide) ?_
                  refine g_goto (pc := 95) (tgt := 105) hK dd_X1_planTables_95 (by decide) ?_
                  have hpv_ : plV (ltF (M 44) (fun a t => losK (M 7) (M 8) (M 9) (M 15 a) (M 16 a) (M 17 a) (M 19) (M 18 2) (M 43 t) (M 6 6).toNat) (M 14 3).toNat 0 (M 5 7).toNat) (plS (ltF (M 44) (fun a t => losK (M 7) (M 8) (M 9) (M 15 a) (M 16 a) (M 17 a) (M 19) (M 18 2) (M 43 t) (M 6 6).toNat) (M 14 3).toNat 0 (M 5 7).toNat) (M 45) (M 14 3).toNat (M 5 7) (jshl 1 (M 14 3) - 1) ((jshl 1 (M 14 3) - 1) - bz).toNat) bz (M 14 3).toNat (M 5 7) = 0 := by unfold plV; rw [if_neg (by omega), ← ey17, if_pos (by omega)]
                  refine g_iast (pc := 105) hK (kdm kd_45) nl_45 (by decide) (by decide) dd_X1_planTables_105 (by omega) (by omega) (by decide) ?_
                  refine g_iinc (pc := 106) (i := 1) (y := bz - 1) (L' := [(0, gR 5), (1, gI (bz - 1)), (2, gI (bc8 bz)), (3, gI y17)]) hK dd_X1_planTables_106 rfl (by omega) (by decide) rfl ?_
                  refine g_goto (pc := 109) (tgt := 68) hK dd_X1_planTables_109 (by decide) ?_
                  refine g_sub (L' := [(0, gR 5), (1, gI (bz - 1))]) [0, 1] rfl ?_
                  refine g_mem (M2 := sr (sr M 44 (ltF (M 44) (fun a t => losK (M 7) (M 8) (M 9) (M 15 a) (M 16 a) (M 17 a) (M 19) (M 18 2) (M 43 t) (M 6 6).toNat) (M 14 3).toNat 0 (M 5 7).toNat)) 45 (plS (ltF (M 44) (fun a t => losK (M 7) (M 8) (M 9) (M 15 a) (M 16 a) (M 17 a) (M 19) (M 18 2) (M 43 t) (M 6 6).toNat) (M 14 3).toNat 0 (M 5 7).toNat) (M 45) (M 14 3).toNat (M 5 7) (jshl 1 (M 14 3) - 1) ((jshl 1 (M 14 3) - 1) - (bz - 1)).toNat)) (by rw [show ((jshl 1 (M 14 3) - 1) - (bz - 1)).toNat = ((jshl 1 (M 14 3) - 1) - bz).toNat + 1 by omega]; simp only [plS]; rw [hkb_]; rw [← hpv_]; simp (disch := decide) only [Int.reduceToNat, up_sr, sr_cp, sr_k, sr_o, sr_sr, us_us, @sr_lt _ 45 44 _ _ (by decide)]; try rfl) ?_
                  exact ih10 (bz - 1) (by omega) (by omega)
        refine g_mem (M2 := sr (sr M 44 (ltF (M 44) (fun a t => losK (M 7) (M 8) (M 9) (M 15 a) (M 16 a) (M 17 a) (M 19) (M 18 2) (M 43 t) (M 6 6).toNat) (M 14 3).toNat 0 (M 5 7).toNat)) 45 (plS (ltF (M 44) (fun a t => losK (M 7) (M 8) (M 9) (M 15 a) (M 16 a) (M 17 a) (M 19) (M 18 2) (M 43 t) (M 6 6).toNat) (M 14 3).toNat 0 (M 5 7).toNat) (M 45) (M 14 3).toNat (M 5 7) (jshl 1 (M 14 3) - 1) ((jshl 1 (M 14 3) - 1) - ((jshl 1 (M 14 3)) - 1)).toNat)) (by rw [show ((jshl 1 (M 14 3) - 1) - (jshl 1 (M 14 3) - 1)).toNat = 0 by omega, show la.toNat = (M 14 3).toNat by omega]; exact (sr_id (X := sr M 44 (ltF (M 44) (fun a t => losK (M 7) (M 8) (M 9) (M 15 a) (M 16 a) (M 17 a) (M 19) (M 18 2) (M 43 t) (M 6 6).toNat) (M 14 3).toNat 0 (M 5 7).toNat)) (k := 45) rfl).symm) ?_
        refine g_sub (L' := [(0, gR 5), (1, gI ((jshl 1 (M 14 3)) - 1))]) [0, 1] rfl ?_
        exact lp11 _ ((jshl 1 (M 14 3)) - 1) (by omega) (Nat.lt_succ_self _)
      · refine g_iconst (pc := 13) (x := 0) hK dd_X1_planTables_13 (by decide) ?_
        refine g_istoren (pc := 14) (i := 2) (L' := [(0, gR 5), (1, gI la), (2, gI 0)]) hK dd_X1_planTables_14 rfl (by decide) rfl ?_
        have lp21 : ∀ (n19 : Nat) (tb : Int), (0 ≤ tb ∧ tb ≤ M 5 7) → (M 5 7 - tb).toNat < n19 → G p l e (rmD 7) s m args below meth c D cy q A 0 0 4 (MQ below (gQc D cy q A Pq) args s 0 0 A) 15 [(0, gR 5), (1, gI la), (2, gI tb)] [] (sr M 44 (ltF (M 44) (fun a t => losK (M 7) (M 8) (M 9) (M 15 a) (M 16 a) (M 17 a) (M 19) (M 18 2) (M 43 t) (M 6 6).toNat) la.toNat tb.toNat (M 5 7).toNat)) := by
          intro n19
          induction n19 with
          | zero => intro tb iv22 hm23; exact absurd hm23 (Nat.not_lt_zero _)
          | succ n19 ih20 =>
            intro tb iv22 hm23
            refine g_iloadn (pc := 15) (i := 2) (x := tb) hK dd_X1_planTables_15 rfl rfl ?_
            refine g_aloadn (pc := 16) (i := 0) (x := 5) hK dd_X1_planTables_16 rfl rfl ?_
            have hix_ : (la * 5 + tb).toNat = la.toNat * 5 + tb.toNat := by omega
            refine g_geti (pc := 17) (f := (0, 0)) (j := 7) hK (kdm kd_5) rfl ef_1 (by decide) rfl kk_274 nl_5 dd_X1_planTables_17 rfl (fun x24 ex24 rx24 => ?_)
            replace ex24 : x24 = M 5 7 := ex24
            refine g_icmp_ge (pc := 20) (tgt := 50) hK dd_X1_planTables_20 (by decide) ⟨by omega, by omega⟩ rx24 (fun c25 => ?_) (fun c25 => ?_)
            · refine g_iinc (pc := 50) (i := 1) (y := la + 1) (L' := [(0, gR 5), (1, gI (la + 1)), (2, gI tb)]) hK dd_X1_planTables_50 rfl rfl (by decide) rfl ?_
              refine g_goto (pc := 53) (tgt := 2) hK dd_X1_planTables_53 (by decide) ?_
              refine g_sub (L' := [(0, gR 5), (1, gI (la + 1))]) [0, 1] rfl ?_
              refine g_mem (M2 := sr M 44 (ltF (M 44) (fun a t => losK (M 7) (M 8) (M 9) (M 15 a) (M 16 a) (M 17 a) (M 19) (M 18 2) (M 43 t) (M 6 6).toNat) (la + 1).toNat 0 (M 5 7).toNat)) (by rw [tn1 (t := la) (by omega), show tb.toNat = (M 5 7).toNat by omega, ltF_r]) ?_
              exact ih2 (la + 1) (by omega) (by omega)
            · refine g_aloadn (pc := 23) (i := 0) (x := 5) hK dd_X1_planTables_23 rfl rfl ?_
              refine g_getv (pc := 24) (f := (1, 39)) (j := 12) (v := gR 44) hK (kdm kd_5) rfl ef_1 (by decide) rfl kk_284 dd_X1_planTables_24 rfl ?_
              refine g_iloadn (pc := 27) (i := 1) (x := la) hK dd_X1_planTables_27 rfl rfl ?_
              refine g_iconst (pc := 28) (x := 5) hK dd_X1_planTables_28 (by decide) ?_
              refine g_imul (pc := 29) (z := la * 5) hK dd_X1_planTables_29 rfl ?_
              refine g_iloadn (pc := 30) (i := 2) (x := tb) hK dd_X1_planTables_30 rfl rfl ?_
              refine g_iadd (pc := 31) (z := (la * 5) + tb) hK dd_X1_planTables_31 rfl ?_
              refine g_aloadn (pc := 32) (i := 0) (x := 5) hK dd_X1_planTables_32 rfl rfl ?_
              refine g_iloadn (pc := 33) (i := 1) (x := la) hK dd_X1_planTables_33 rfl rfl ?_
              refine g_aloadn (pc := 34) (i := 0) (x := 5) hK dd_X1_planTables_34 rfl rfl ?_
              refine g_getv (pc := 35) (f := (1, 38)) (j := 6) (v := gR 43) hK (kdm kd_5) rfl ef_1 (by decide) rfl kk_272 dd_X1_planTables_35 rfl ?_
              refine g_iloadn (pc := 38) (i := 2) (x := tb) hK dd_X1_planTables_38 rfl rfl ?_
              refine g_iald (pc := 39) hK (kdm kd_43) nl_43 (by decide) dd_X1_planTables_39 (by omega) (by omega) (fun x26 ex26 rx26 => ?_)
              replace ex26 : x26 = M 43 tb.toNat := ex26
              skip
              refine g_callV (pc := 40) (As := [gI la, gI x26]) hK ws_Hall_131 md_X1_lostOnKinds ⟨Nat.zero_le _, Nat.zero_le _⟩ ⟨by decide, by decide⟩ (kdm kd_5) rfl rfl dd_X1_planTables_40 rfl rfl (Nat.le_of_ble_eq_true rfl) (c_lostOnKinds la x26 (by omega) (by omega) hc hth hwc hla hlw (g_r1 ?_))
              refine g_topI (fun y27 ey27 => ?_)
              replace ey27 : y27 = losK (M 7) (M 8) (M 9) (M 15 la.toNat) (M 16 la.toNat) (M 17 la.toNat) (M 19) (M 18 2) x26 (M 6 6).toNat := ey27
              have hlk_ := hls_ la.toNat tb.toNat (by omega)
              rw [← ex26] at hlk_
              have hly_ : 0 ≤ y27 ∧ y27 ≤ 31470 := by omega
              refine g_iast (pc := 43) hK (kdm kd_44) nl_44 (by decide) (by decide) dd_X1_planTables_43 (by omega) (by omega) ⟨by omega, by omega⟩ ?_
              refine g_iinc (pc := 44) (i := 2) (y := tb + 1) (L' := [(0, gR 5), (1, gI la), (2, gI (tb + 1))]) hK dd_X1_planTables_44 rfl rfl (by decide) rfl ?_
              refine g_goto (pc := 47) (tgt := 15) hK dd_X1_planTables_47 (by decide) ?_
              refine g_sub (L' := [(0, gR 5), (1, gI la), (2, gI (tb + 1))]) [0, 1, 2] rfl ?_
              refine g_mem (M2 := sr M 44 (ltF (M 44) (fun a t => losK (M 7) (M 8) (M 9) (M 15 a) (M 16 a) (M 17 a) (M 19) (M 18 2) (M 43 t) (M 6 6).toNat) la.toNat (tb + 1).toNat (M 5 7).toNat)) (by rw [tn1 (t := tb) (by omega), ← ltF_s (by omega) (by omega), ← hix_]; subst_vars; simp (disch := decide) only [Int.reduceToNat, up_sr, sr_cp, sr_k, sr_o, sr_sr, us_us]; try rfl) ?_
              exact ih20 (tb + 1) (by omega) (by omega)
        refine g_mem (M2 := sr M 44 (ltF (M 44) (fun a t => losK (M 7) (M 8) (M 9) (M 15 a) (M 16 a) (M 17 a) (M 19) (M 18 2) (M 43 t) (M 6 6).toNat) la.toNat (0 : Int).toNat (M 5 7).toNat)) (rfl) ?_
        refine g_sub (L' := [(0, gR 5), (1, gI la), (2, gI 0)]) [0, 1, 2] rfl ?_
        exact lp21 _ 0 (by omega) (Nat.lt_succ_self _)
  refine g_mem (M2 := sr M 44 (ltF (M 44) (fun a t => losK (M 7) (M 8) (M 9) (M 15 a) (M 16 a) (M 17 a) (M 19) (M 18 2) (M 43 t) (M 6 6).toNat) (0 : Int).toNat 0 (M 5 7).toNat)) (by show M = sr M 44 (ltF (M 44) _ 0 0 _); rw [ltF_0]; exact sr_self.symm) ?_
  refine g_sub (L' := [(0, gR 5), (1, gI 0)]) [0, 1] rfl ?_
  exact lp3 _ 0 (by omega) (Nat.lt_succ_self _)
set_option maxHeartbeats 4000000 in
set_option maxRecDepth 100000 in
theorem c_ladyAt {l : Launch} {M : Mem} {Pq : Option gV → Mem → Prop} (ta : Int) (ha : -1 ≤ ta ∧ ta ≤ 4) (hlc : 0 ≤ M 14 3 ∧ M 14 3 ≤ 5) (htc : 0 ≤ M 5 7 ∧ M 5 7 ≤ 5) (hlt : ∀ a t : Nat, (a : Int) < M 14 3 → (t : Int) < M 5 7 → 0 ≤ M 44 (a * 5 + t) ∧ M 44 (a * 5 + t) ≤ 40000) (hll : ∀ j : Nat, (j : Int) ≤ (jshl 1 (M 14 3) - 1) → 0 ≤ M 45 j ∧ M 45 j ≤ 400000) (hQ : Pq (some (gI ((lyS (M 44) (M 45) (M 14 3).toNat (M 5 7) (ta + 1).toNat).2))) M) : gCtr l my_X1_ladyAt mb_X1_ladyAt 5 ((some .int)) 3 [gR 5, gI ta] M Pq := by
  refine g_intro (by decide) (Nat.le_of_ble_eq_true rfl) ?_
  intro p e s m args below meth c D cy q A hK hr hlocks hw
  refine g_sub (L' := [(0, gR 5), (1, gI ta)]) [0, 1] rfl ?_
  have hp_ := jsh1 hlc.1 hlc.2
  refine g_iconst (pc := 0) (x := 0) hK dd_X1_ladyAt_0 (by decide) ?_
  refine g_istoren (pc := 1) (i := 2) (L' := [(0, gR 5), (1, gI ta), (2, gI 0)]) hK dd_X1_ladyAt_1 rfl (by decide) rfl ?_
  refine g_iconst (pc := 2) (x := (-1)) hK dd_X1_ladyAt_2 (by decide) ?_
  refine g_istoren (pc := 3) (i := 3) (L' := [(0, gR 5), (1, gI ta), (2, gI 0), (3, gI (-1))]) hK dd_X1_ladyAt_3 rfl (by decide) rfl ?_
  refine g_iconst (pc := 4) (x := 0) hK dd_X1_ladyAt_4 (by decide) ?_
  refine g_istore (pc := 5) (i := 4) (L' := [(0, gR 5), (1, gI ta), (2, gI 0), (3, gI (-1)), (4, gI 0)]) hK dd_X1_ladyAt_5 (by decide) rfl ?_
  have lp3 : ∀ (n1 : Nat) (bz : Int) (ld : Int) (i : Int), (0 ≤ i ∧ i ≤ ta + 1) → (bz = (lyS (M 44) (M 45) (M 14 3).toNat (M 5 7) i.toNat).1) → (ld = (lyS (M 44) (M 45) (M 14 3).toNat (M 5 7) i.toNat).2) → (ta + 1 - i).toNat < n1 → G p l e (rmD 3) s m args below meth c D cy q A 0 0 5 (MQ below (gQc D cy q A Pq) args s 0 0 A) 7 [(0, gR 5), (1, gI ta), (2, gI bz), (3, gI ld), (4, gI i)] [] M := by
    intro n1
    induction n1 with
    | zero => intro bz ld i iv4 hbz_ hld_ hm5; exact absurd hm5 (Nat.not_lt_zero _)
    | succ n1 ih2 =>
      intro bz ld i iv4 hbz_ hld_ hm5
      refine g_iload (pc := 7) (i := 4) (x := i) hK dd_X1_ladyAt_7 rfl ?_
      refine g_iloadn (pc := 9) (i := 1) (x := ta) hK dd_X1_ladyAt_9 rfl rfl ?_
      have hly0_ := lyS_in (LA := M 44) (LL := M 45) (tc := M 5 7) hlc i.toNat
      rw [← hbz_, ← hld_] at hly0_
      refine g_icmp_gt (pc := 10) (tgt := 38) hK dd_X1_ladyAt_10 (by decide) ⟨by omega, by omega⟩ ⟨by omega, by omega⟩ (fun c6 => ?_) (fun c6 => ?_)
      · refine g_iloadn (pc := 38) (i := 3) (x := ld) hK dd_X1_ladyAt_38 rfl rfl ?_
        refine g_iret (pc := 39) hK hr hlocks dd_X1_ladyAt_39 rfl ?_
        exact g_fin hQ (by rw [show (ta + 1).toNat = i.toNat by omega]; exact hld_) (by first | rfl | (subst_vars; rfl))
      · have hw2_ : ∀ a : Int, 0 ≤ a → a < M 14 3 → ¬ hb bz a → i < M 5 7 → (0 ≤ M 44 (a * 5 + i).toNat ∧ M 44 (a * 5 + i).toNat ≤ 40000) ∧ 0 ≤ M 45 (jor bz (jshl 1 a)).toNat ∧ M 45 (jor bz (jshl 1 a)).toNat ≤ 400000 := fun a h0 h1 h2 h3 => by
          have w_ := jorW hlc (b := bz) (a := a) (by omega) (by omega) h2
          have q1_ := hlt a.toNat i.toNat (by omega) (by omega)
          rw [← show (a * 5 + i).toNat = a.toNat * 5 + i.toNat by omega] at q1_
          exact ⟨q1_, hll (jor bz (jshl 1 a)).toNat (by omega)⟩
        refine g_aloadn (pc := 13) (i := 0) (x := 5) hK dd_X1_ladyAt_13 rfl rfl ?_
        refine g_iloadn (pc := 14) (i := 2) (x := bz) hK dd_X1_ladyAt_14 rfl rfl ?_
        refine g_iload (pc := 15) (i := 4) (x := i) hK dd_X1_ladyAt_15 rfl ?_
        refine g_callV (pc := 17) (As := [gI bz, gI i]) hK ws_Hall_139 md_X1_bestLady ⟨Nat.zero_le _, Nat.zero_le _⟩ ⟨by decide, by decide⟩ (kdm kd_5) rfl rfl dd_X1_ladyAt_17 rfl rfl (Nat.le_of_ble_eq_true rfl) (c_bestLady bz i (by omega) (by omega) htc hlc hw2_ (fun c7 => g_r1 ?_) (fun c8 => g_r1 ?_))
        · have hly_ : lyS (M 44) (M 45) (M 14 3).toNat (M 5 7) (i.toNat + 1) = ((lyS (M 44) (M 45) (M 14 3).toNat (M 5 7) i.toNat).1, -1) := lyS_n (by omega)
          refine g_istoren (pc := 20) (i := 3) (L' := [(0, gR 5), (1, gI ta), (2, gI bz), (3, gI (-1)), (4, gI i)]) hK dd_X1_ladyAt_20 rfl (by decide) rfl ?_
          refine g_iloadn (pc := 21) (i := 3) (x := (-1)) hK dd_X1_ladyAt_21 rfl rfl ?_
          refine g_iconst (pc := 22) (x := (-1)) hK dd_X1_ladyAt_22 (by decide) ?_
          refine g_icmp_eq (pc := 23) (tgt := 32) hK dd_X1_ladyAt_23 (by decide) (by decide) (by decide) (fun _ => ?_) (fun c9 => absurd (by decide) c9)
          refine g_iinc (pc := 32) (i := 4) (y := i + 1) (L' := [(0, gR 5), (1, gI ta), (2, gI bz), (3, gI (-1)), (4, gI (i + 1))]) hK dd_X1_ladyAt_32 rfl rfl (by decide) rfl ?_
          refine g_goto (pc := 35) (tgt := 7) hK dd_X1_ladyAt_35 (by decide) ?_
          refine g_sub (L' := [(0, gR 5), (1, gI ta), (2, gI bz), (3, gI (-1)), (4, gI (i + 1))]) [0, 1, 2, 3, 4] rfl ?_
          exact ih2 bz (-1) (i + 1) (by omega) (by rw [tn1 (by omega), hly_]; first | exact hbz_ | (show _ = ite _ _ _; first | (rw [if_pos (by omega)]; done) | (rw [if_neg (by omega)]))) (by rw [tn1 (by omega), hly_]; try omega) (by omega)
        · refine g_topI (fun y10 ey10 => ?_)
          have hnb_ := blS_nb (w := lwV (M 44) (M 45) bz i) (bz := bz) (M 14 3).toNat
          rw [← ey10] at hnb_
          have hly_ : lyS (M 44) (M 45) (M 14 3).toNat (M 5 7) (i.toNat + 1) = (if y10 = -1 then bz else jor bz (jshl 1 y10), y10) := by rw [lyS_y (l := y10) (by omega) (by rw [← hbz_, show ((i.toNat : Nat) : Int) = i by omega]; exact ey10), ← hbz_]
          refine g_istoren (pc := 20) (i := 3) (L' := [(0, gR 5), (1, gI ta), (2, gI bz), (3, gI y10), (4, gI i)]) hK dd_X1_ladyAt_20 rfl (by decide) rfl ?_
          refine g_iloadn (pc := 21) (i := 3) (x := y10) hK dd_X1_ladyAt_21 rfl rfl ?_
          refine g_iconst (pc := 22) (x := (-1)) hK dd_X1_ladyAt_22 (by decide) ?_
          refine g_icmp_eq (pc := 23) (tgt := 32) hK dd_X1_ladyAt_23 (by decide) ⟨by omega, by omega⟩ (by decide) (fun c11 => ?_) (fun c11 => ?_)
          · refine g_iinc (pc := 32) (i := 4) (y := i + 1) (L' := [(0, gR 5), (1, gI ta), (2, gI bz), (3, gI y10), (4, gI (i + 1))]) hK dd_X1_ladyAt_32 rfl rfl (by decide) rfl ?_
            refine g_goto (pc := 35) (tgt := 7) hK dd_X1_ladyAt_35 (by decide) ?_
            refine g_sub (L' := [(0, gR 5), (1, gI ta), (2, gI bz), (3, gI y10), (4, gI (i + 1))]) [0, 1, 2, 3, 4] rfl ?_
            exact ih2 bz y10 (i + 1) (by omega) (by rw [tn1 (by omega), hly_]; first | exact hbz_ | (show _ = ite _ _ _; first | (rw [if_pos (by omega)]; done) | (rw [if_neg (by omega)]))) (by rw [tn1 (by omega), hly_]; try omega) (by omega)
          · refine g_iloadn (pc := 26) (i := 2) (x := bz) hK dd_X1_ladyAt_26 rfl rfl ?_
            refine g_iconst (pc := 27) (x := 1) hK dd_X1_ladyAt_27 (by decide) ?_
            refine g_iloadn (pc := 28) (i := 3) (x := y10) hK dd_X1_ladyAt_28 rfl rfl ?_
            refine g_ishl (pc := 29) (z := jshl 1 y10) hK dd_X1_ladyAt_29 rfl ?_
            refine g_ior (pc := 30) (z := jor bz (jshl 1 y10)) hK dd_X1_ladyAt_30 rfl ?_
            refine g_istoren (pc := 31) (i := 2) (L' := [(0, gR 5), (1, gI ta), (2, gI (jor bz (jshl 1 y10))), (3, gI y10), (4, gI i)]) hK dd_X1_ladyAt_31 rfl (by decide) rfl ?_
            refine g_iinc (pc := 32) (i := 4) (y := i + 1) (L' := [(0, gR 5), (1, gI ta), (2, gI (jor bz (jshl 1 y10))), (3, gI y10), (4, gI (i + 1))]) hK dd_X1_ladyAt_32 rfl rfl (by decide) rfl ?_
            refine g_goto (pc := 35) (tgt := 7) hK dd_X1_ladyAt_35 (by decide) ?_
            refine g_sub (L' := [(0, gR 5), (1, gI ta), (2, gI (jor bz (jshl 1 y10))), (3, gI y10), (4, gI (i + 1))]) [0, 1, 2, 3, 4] rfl ?_
            exact ih2 (jor bz (jshl 1 y10)) y10 (i + 1) (by omega) (by rw [tn1 (by omega), hly_]; first | exact hbz_ | (show _ = ite _ _ _; first | (rw [if_pos (by omega)]; done) | (rw [if_neg (by omega)]))) (by rw [tn1 (by omega), hly_]; try omega) (by omega)
  refine g_sub (L' := [(0, gR 5), (1, gI ta), (2, gI 0), (3, gI (-1)), (4, gI 0)]) [0, 1, 2, 3, 4] rfl ?_
  exact lp3 _ 0 (-1) 0 (by omega) (rfl) (rfl) (Nat.lt_succ_self _)
set_option maxHeartbeats 4000000 in
set_option maxRecDepth 100000 in
theorem x_who {l : Launch} {M : Mem} {Pq : Option gV → Mem → Prop} (wh : Int) (h_wh : inI wh) (hrf : rfOK M) (hlc : 0 ≤ M 14 3 ∧ M 14 3 ≤ 5) (htc : 0 ≤ M 5 7 ∧ M 5 7 ≤ 5) (hc : 0 ≤ M 6 6 ∧ M 6 6 ≤ 30) (hth : thOK M) (hwc : 0 ≤ M 18 2 ∧ M 18 2 ≤ 6) (hla : laOK M) (hlw : lwOK (M 19) (M 18 2)) (hB : (¬ (wh = -1 ∨ (0 ≤ wh ∧ wh ≤ M 5 7 - 1))) → Pq (some (gI (-2))) (rf M 0)) (hS : (¬ ¬ (wh = -1 ∨ (0 ≤ wh ∧ wh ≤ M 5 7 - 1)) ∧ M 14 3 < M 5 7) → Pq (some (gI (-5))) (rf M 3)) (hA : (wh = -1 ∧ M 5 7 ≤ M 14 3) → Pq (some (gI ((plS (ltF (M 44) (fun a t => losK (M 7) (M 8) (M 9) (M 15 a) (M 16 a) (M 17 a) (M 19) (M 18 2) (M 43 t) (M 6 6).toNat) (M 14 3).toNat 0 (M 5 7).toNat) (M 45) (M 14 3).toNat (M 5 7) (jshl 1 (M 14 3) - 1) (jshl 1 (M 14 3)).toNat) 0))) (sr (sr M 44 (ltF (M 44) (fun a t => losK (M 7) (M 8) (M 9) (M 15 a) (M 16 a) (M 17 a) (M 19) (M 18 2) (M 43 t) (M 6 6).toNat) (M 14 3).toNat 0 (M 5 7).toNat)) 45 (plS (ltF (M 44) (fun a t => losK (M 7) (M 8) (M 9) (M 15 a) (M 16 a) (M 17 a) (M 19) (M 18 2) (M 43 t) (M 6 6).toNat) (M 14 3).toNat 0 (M 5 7).toNat) (M 45) (M 14 3).toNat (M 5 7) (jshl 1 (M 14 3) - 1) (jshl 1 (M 14 3)).toNat))) (hY : ((0 ≤ wh ∧ wh < M 5 7) ∧ M 5 7 ≤ M 14 3) → Pq (some (gI ((lyS (ltF (M 44) (fun a t => losK (M 7) (M 8) (M 9) (M 15 a) (M 16 a) (M 17 a) (M 19) (M 18 2) (M 43 t) (M 6 6).toNat) (M 14 3).toNat 0 (M 5 7).toNat) (plS (ltF (M 44) (fun a t => losK (M 7) (M 8) (M 9) (M 15 a) (M 16 a) (M 17 a) (M 19) (M 18 2) (M 43 t) (M 6 6).toNat) (M 14 3).toNat 0 (M 5 7).toNat) (M 45) (M 14 3).toNat (M 5 7) (jshl 1 (M 14 3) - 1) (jshl 1 (M 14 3)).toNat) (M 14 3).toNat (M 5 7) (wh + 1).toNat).2))) (sr (sr M 44 (ltF (M 44) (fun a t => losK (M 7) (M 8) (M 9) (M 15 a) (M 16 a) (M 17 a) (M 19) (M 18 2) (M 43 t) (M 6 6).toNat) (M 14 3).toNat 0 (M 5 7).toNat)) 45 (plS (ltF (M 44) (fun a t => losK (M 7) (M 8) (M 9) (M 15 a) (M 16 a) (M 17 a) (M 19) (M 18 2) (M 43 t) (M 6 6).toNat) (M 14 3).toNat 0 (M 5 7).toNat) (M 45) (M 14 3).toNat (M 5 7) (jshl 1 (M 14 3) - 1) (jshl 1 (M 14 3)).toNat))) : gCtr l my_X11_who mb_X11_who 2 ((some .int)) 8 [gR 0, gI wh] M Pq := by
  refine g_intro (by decide) (Nat.le_of_ble_eq_true rfl) ?_
  intro p e s m args below meth c D cy q A hK hr hlocks hw
  refine g_sub (L' := [(0, gR 0), (1, gI wh)]) [0, 1] rfl ?_
  refine g_iloadn (pc := 0) (i := 1) (x := wh) hK dd_X11_who_0 rfl rfl ?_
  refine g_iconst (pc := 1) (x := (-1)) hK dd_X11_who_1 (by decide) ?_
  refine g_icmp_eq (pc := 2) (tgt := 29) hK dd_X11_who_2 (by decide) h_wh (by decide) (fun c1 => ?_) (fun c1 => ?_)
  · refine g_aloadn (pc := 29) (i := 0) (x := 0) hK dd_X11_who_29 rfl rfl ?_
    refine g_getv (pc := 30) (f := (1, 5)) (j := 3) (v := gR 5) hK (kdm kd_0) rfl ef_11 (by decide) rfl kk_385 dd_X11_who_30 rfl ?_
    refine g_geti (pc := 33) (f := (0, 0)) (j := 7) hK (kdm kd_5) rfl ef_1 (by decide) rfl kk_275 nl_5 dd_X11_who_33 rfl (fun x2 ex2 rx2 => ?_)
    refine g_aloadn (pc := 36) (i := 0) (x := 0) hK dd_X11_who_36 rfl rfl ?_
    refine g_getv (pc := 37) (f := (1, 5)) (j := 3) (v := gR 5) hK (kdm kd_0) rfl ef_11 (by decide) rfl kk_385 dd_X11_who_37 rfl ?_
    refine g_getv (pc := 40) (f := (1, 9)) (j := 1) (v := gR 14) hK (kdm kd_5) rfl ef_1 (by decide) rfl kk_262 dd_X11_who_40 rfl ?_
    refine g_geti (pc := 43) (f := (0, 0)) (j := 3) hK (kdm kd_14) rfl ef_2 (by decide) rfl kk_125 nl_14 dd_X11_who_43 rfl (fun x3 ex3 rx3 => ?_)
    refine g_icmp_le (pc := 46) (tgt := 56) hK dd_X11_who_46 (by decide) rx2 rx3 (fun c4 => ?_) (fun c4 => ?_)
    · have hls_ := fun (a t : Nat) (ha : (a : Int) < M 14 3) => losK_in (k := M 7) (w := M 8) (c := M 9) (kn := M 15 a) (gs := M 16 a) (lw := M 17 a) (ks := M 43 t) hlw (hla a (by omega)).2 (fun j hj => thW hth hj) (M 6 6).toNat (by omega)
      have hp_ := jsh1 hlc.1 hlc.2
      have hlt_ : ∀ a t : Nat, (a : Int) < M 14 3 → (t : Int) < M 5 7 → 0 ≤ (ltF (M 44) (fun a t => losK (M 7) (M 8) (M 9) (M 15 a) (M 16 a) (M 17 a) (M 19) (M 18 2) (M 43 t) (M 6 6).toNat) (M 14 3).toNat 0 (M 5 7).toNat) (a * 5 + t) ∧ (ltF (M 44) (fun a t => losK (M 7) (M 8) (M 9) (M 15 a) (M 16 a) (M 17 a) (M 19) (M 18 2) (M 43 t) (M 6 6).toNat) (M 14 3).toNat 0 (M 5 7).toNat) (a * 5 + t) ≤ 40000 := fun a t ha ht => by rw [ltF_in (by omega) (by omega) (by omega)]; have q_ := hls_ a t ha; omega
      have hll_ : ∀ j : Nat, (j : Int) ≤ (jshl 1 (M 14 3) - 1) → 0 ≤ (plS (ltF (M 44) (fun a t => losK (M 7) (M 8) (M 9) (M 15 a) (M 16 a) (M 17 a) (M 19) (M 18 2) (M 43 t) (M 6 6).toNat) (M 14 3).toNat 0 (M 5 7).toNat) (M 45) (M 14 3).toNat (M 5 7) (jshl 1 (M 14 3) - 1) (jshl 1 (M 14 3)).toNat) j ∧ (plS (ltF (M 44) (fun a t => losK (M 7) (M 8) (M 9) (M 15 a) (M 16 a) (M 17 a) (M 19) (M 18 2) (M 43 t) (M 6 6).toNat) (M 14 3).toNat 0 (M 5 7).toNat) (M 45) (M 14 3).toNat (M 5 7) (jshl 1 (M 14 3) - 1) (jshl 1 (M 14 3)).toNat) j ≤ 400000 := fun j hj => by
        have q_ := plS_in (LA := ltF (M 44) (fun a t => losK (M 7) (M 8) (M 9) (M 15 a) (M 16 a) (M 17 a) (M 19) (M 18 2) (M 43 t) (M 6 6).toNat) (M 14 3).toNat 0 (M 5 7).toNat) (L0 := M 45) hlc htc.2 hlt_ (jshl 1 (M 14 3)).toNat (by omega) j (by omega) (by omega)
        have q2_ := bc8_in (j : Int)
        omega
      refine g_aloadn (pc := 56) (i := 0) (x := 0) hK dd_X11_who_56 rfl rfl ?_
      refine g_getv (pc := 57) (f := (1, 5)) (j := 3) (v := gR 5) hK (kdm kd_0) rfl ef_11 (by decide) rfl kk_385 dd_X11_who_57 rfl ?_
      refine g_callV (pc := 60) (As := []) hK ws_X_309 md_X1_planTables ⟨Nat.zero_le _, Nat.zero_le _⟩ ⟨by decide, by decide⟩ (kdm kd_5) rfl rfl dd_X11_who_60 rfl rfl (Nat.le_of_ble_eq_true rfl) (c_planTables hlc htc hc hth hwc hla hlw (g_r0 ?_))
      refine g_iloadn (pc := 63) (i := 1) (x := wh) hK dd_X11_who_63 rfl rfl ?_
      refine g_iconst (pc := 64) (x := (-1)) hK dd_X11_who_64 (by decide) ?_
      refine g_icmp_ne (pc := 65) (tgt := 80) hK dd_X11_who_65 (by decide) h_wh (by decide) (fun c5 => absurd c5 (by omega)) (fun c5 => ?_)
      refine g_aloadn (pc := 68) (i := 0) (x := 0) hK dd_X11_who_68 rfl rfl ?_
      refine g_getv (pc := 69) (f := (1, 5)) (j := 3) (v := gR 5) hK (kdm kd_0) rfl ef_11 (by decide) rfl kk_385 dd_X11_who_69 rfl ?_
      refine g_getv (pc := 72) (f := (1, 40)) (j := 13) (v := gR 45) hK (kdm kd_5) rfl ef_1 (by decide) rfl kk_286 dd_X11_who_72 rfl ?_
      refine g_iconst (pc := 75) (x := 0) hK dd_X11_who_75 (by decide) ?_
      refine g_iald (pc := 76) hK (kdm kd_45) nl_45 (by decide) dd_X11_who_76 (by omega) (by omega) (fun x6 ex6 rx6 => ?_)
      replace ex6 : x6 = (plS (ltF (M 44) (fun a t => losK (M 7) (M 8) (M 9) (M 15 a) (M 16 a) (M 17 a) (M 19) (M 18 2) (M 43 t) (M 6 6).toNat) (M 14 3).toNat 0 (M 5 7).toNat) (M 45) (M 14 3).toNat (M 5 7) (jshl 1 (M 14 3) - 1) (jshl 1 (M 14 3)).toNat) 0 := by first | exact ex6 | (rw [ex6]; simp [up, us, cp, sr])
      refine g_goto (pc := 77) (tgt := 88) hK dd_X11_who_77 (by decide) ?_
      refine g_iret (pc := 88) hK hr hlocks dd_X11_who_88 rfl ?_
      first | exact g_fin (hA (by first | omega | (subst_vars; omega) | exact ⟨by first | assumption | omega | (subst_vars; first | assumption | omega), by first | assumption | omega | (subst_vars; first | assumption | omega)⟩)) (by first | rfl | omega | (subst_vars; first | rfl | omega)) (by first | rfl | (subst_vars; rfl)) | exact g_fin (hY (by first | omega | (subst_vars; omega) | exact ⟨by first | assumption | omega | (subst_vars; first | assumption | omega), by first | assumption | omega | (subst_vars; first | assumption | omega)⟩)) (by first | rfl | omega | (subst_vars; first | rfl | omega)) (by first | rfl | (subst_vars; rfl)) | (exfalso; omega)
    · refine g_aloadn (pc := 49) (i := 0) (x := 0) hK dd_X11_who_49 rfl rfl ?_
      refine g_bipush (pc := 50) (x := (-5)) hK dd_X11_who_50 (by decide) ?_
      refine g_callV (pc := 52) (As := [gI (-5)]) hK ws_X_63 md_X11_refuse ⟨Nat.zero_le _, Nat.zero_le _⟩ ⟨by decide, by decide⟩ (kdm kd_0) rfl rfl dd_X11_who_52 rfl rfl (Nat.le_of_ble_eq_true rfl) (c_refuse_3 hrf (g_r1 ?_))
      refine g_iret (pc := 55) hK hr hlocks dd_X11_who_55 rfl ?_
      first | exact g_fin (hS (by first | omega | (subst_vars; omega) | exact ⟨by first | assumption | omega | (subst_vars; first | assumption | omega), by first | assumption | omega | (subst_vars; first | assumption | omega)⟩)) (by first | rfl | omega | (subst_vars; first | rfl | omega)) (by first | rfl | (subst_vars; rfl)) | exact g_fin (hA (by first | omega | (subst_vars; omega) | exact ⟨by first | assumption | omega | (subst_vars; first | assumption | omega), by first | assumption | omega | (subst_vars; first | assumption | omega)⟩)) (by first | rfl | omega | (subst_vars; first | rfl | omega)) (by first | rfl | (subst_vars; rfl)) | exact g_fin (hY (by first | omega | (subst_vars; omega) | exact ⟨by first | assumption | omega | (subst_vars; first | assumption | omega), by first | assumption | omega | (subst_vars; first | assumption | omega)⟩)) (by first | rfl | omega | (subst_vars; first | rfl | omega)) (by first | rfl | (subst_vars; rfl)) | (exfalso; omega)
  · refine g_iloadn (pc := 5) (i := 1) (x := wh) hK dd_X11_who_5 rfl rfl ?_
    refine g_iconst (pc := 6) (x := 0) hK dd_X11_who_6 (by decide) ?_
    refine g_aloadn (pc := 7) (i := 0) (x := 0) hK dd_X11_who_7 rfl rfl ?_
    refine g_getv (pc := 8) (f := (1, 5)) (j := 3) (v := gR 5) hK (kdm kd_0) rfl ef_11 (by decide) rfl kk_385 dd_X11_who_8 rfl ?_
    refine g_geti (pc := 11) (f := (0, 0)) (j := 7) hK (kdm kd_5) rfl ef_1 (by decide) rfl kk_275 nl_5 dd_X11_who_11 rfl (fun x7 ex7 rx7 => ?_)
    refine g_iconst (pc := 14) (x := 1) hK dd_X11_who_14 (by decide) ?_
    refine g_isub (pc := 15) (z := x7 - 1) hK dd_X11_who_15 rfl ?_
    refine g_callT (pc := 16) (As := [gI wh, gI 0, gI (x7 - 1)]) hK ws_X_59 md_X11_within ⟨Nat.zero_le _, Nat.zero_le _⟩ ⟨by decide, by decide⟩ dd_X11_who_16 rfl rfl (Nat.le_of_ble_eq_true rfl) (c_within wh 0 (x7 - 1) h_wh (by decide) ⟨by omega, by omega⟩ (fun c8 => g_r1 ?_) (fun c8 => g_r1 ?_))
    · refine g_if_ne (pc := 19) (tgt := 29) hK dd_X11_who_19 (by decide) (by decide) (fun _ => ?_) (fun c9 => absurd (by decide) c9)
      refine g_aloadn (pc := 29) (i := 0) (x := 0) hK dd_X11_who_29 rfl rfl ?_
      refine g_getv (pc := 30) (f := (1, 5)) (j := 3) (v := gR 5) hK (kdm kd_0) rfl ef_11 (by decide) rfl kk_385 dd_X11_who_30 rfl ?_
      refine g_geti (pc := 33) (f := (0, 0)) (j := 7) hK (kdm kd_5) rfl ef_1 (by decide) rfl kk_275 nl_5 dd_X11_who_33 rfl (fun x10 ex10 rx10 => ?_)
      refine g_aloadn (pc := 36) (i := 0) (x := 0) hK dd_X11_who_36 rfl rfl ?_
      refine g_getv (pc := 37) (f := (1, 5)) (j := 3) (v := gR 5) hK (kdm kd_0) rfl ef_11 (by decide) rfl kk_385 dd_X11_who_37 rfl ?_
      refine g_getv (pc := 40) (f := (1, 9)) (j := 1) (v := gR 14) hK (kdm kd_5) rfl ef_1 (by decide) rfl kk_262 dd_X11_who_40 rfl ?_
      refine g_geti (pc := 43) (f := (0, 0)) (j := 3) hK (kdm kd_14) rfl ef_2 (by decide) rfl kk_125 nl_14 dd_X11_who_43 rfl (fun x11 ex11 rx11 => ?_)
      refine g_icmp_le (pc := 46) (tgt := 56) hK dd_X11_who_46 (by decide) rx10 rx11 (fun c12 => ?_) (fun c12 => ?_)
      · have hls_ := fun (a t : Nat) (ha : (a : Int) < M 14 3) => losK_in (k := M 7) (w := M 8) (c := M 9) (kn := M 15 a) (gs := M 16 a) (lw := M 17 a) (ks := M 43 t) hlw (hla a (by omega)).2 (fun j hj => thW hth hj) (M 6 6).toNat (by omega)
        have hp_ := jsh1 hlc.1 hlc.2
        have hlt_ : ∀ a t : Nat, (a : Int) < M 14 3 → (t : Int) < M 5 7 → 0 ≤ (ltF (M 44) (fun a t => losK (M 7) (M 8) (M 9) (M 15 a) (M 16 a) (M 17 a) (M 19) (M 18 2) (M 43 t) (M 6 6).toNat) (M 14 3).toNat 0 (M 5 7).toNat) (a * 5 + t) ∧ (ltF (M 44) (fun a t => losK (M 7) (M 8) (M 9) (M 15 a) (M 16 a) (M 17 a) (M 19) (M 18 2) (M 43 t) (M 6 6).toNat) (M 14 3).toNat 0 (M 5 7).toNat) (a * 5 + t) ≤ 40000 := fun a t ha ht => by rw [ltF_in (by omega) (by omega) (by omega)]; have q_ := hls_ a t ha; omega
        have hll_ : ∀ j : Nat, (j : Int) ≤ (jshl 1 (M 14 3) - 1) → 0 ≤ (plS (ltF (M 44) (fun a t => losK (M 7) (M 8) (M 9) (M 15 a) (M 16 a) (M 17 a) (M 19) (M 18 2) (M 43 t) (M 6 6).toNat) (M 14 3).toNat 0 (M 5 7).toNat) (M 45) (M 14 3).toNat (M 5 7) (jshl 1 (M 14 3) - 1) (jshl 1 (M 14 3)).toNat) j ∧ (plS (ltF (M 44) (fun a t => losK (M 7) (M 8) (M 9) (M 15 a) (M 16 a) (M 17 a) (M 19) (M 18 2) (M 43 t) (M 6 6).toNat) (M 14 3).toNat 0 (M 5 7).toNat) (M 45) (M 14 3).toNat (M 5 7) (jshl 1 (M 14 3) - 1) (jshl 1 (M 14 3)).toNat) j ≤ 400000 := fun j hj => by
          have q_ := plS_in (LA := ltF (M 44) (fun a t => losK (M 7) (M 8) (M 9) (M 15 a) (M 16 a) (M 17 a) (M 19) (M 18 2) (M 43 t) (M 6 6).toNat) (M 14 3).toNat 0 (M 5 7).toNat) (L0 := M 45) hlc htc.2 hlt_ (jshl 1 (M 14 3)).toNat (by omega) j (by omega) (by omega)
          have q2_ := bc8_in (j : Int)
          omega
        refine g_aloadn (pc := 56) (i := 0) (x := 0) hK dd_X11_who_56 rfl rfl ?_
        refine g_getv (pc := 57) (f := (1, 5)) (j := 3) (v := gR 5) hK (kdm kd_0) rfl ef_11 (by decide) rfl kk_385 dd_X11_who_57 rfl ?_
        refine g_callV (pc := 60) (As := []) hK ws_X_309 md_X1_planTables ⟨Nat.zero_le _, Nat.zero_le _⟩ ⟨by decide, by decide⟩ (kdm kd_5) rfl rfl dd_X11_who_60 rfl rfl (Nat.le_of_ble_eq_true rfl) (c_planTables hlc htc hc hth hwc hla hlw (g_r0 ?_))
        refine g_iloadn (pc := 63) (i := 1) (x := wh) hK dd_X11_who_63 rfl rfl ?_
        refine g_iconst (pc := 64) (x := (-1)) hK dd_X11_who_64 (by decide) ?_
        refine g_icmp_ne (pc := 65) (tgt := 80) hK dd_X11_who_65 (by decide) h_wh (by decide) (fun c13 => ?_) (fun c13 => ?_)
        · refine g_aloadn (pc := 80) (i := 0) (x := 0) hK dd_X11_who_80 rfl rfl ?_
          refine g_getv (pc := 81) (f := (1, 5)) (j := 3) (v := gR 5) hK (kdm kd_0) rfl ef_11 (by decide) rfl kk_385 dd_X11_who_81 rfl ?_
          refine g_iloadn (pc := 84) (i := 1) (x := wh) hK dd_X11_who_84 rfl rfl ?_
          refine g_callV (pc := 85) (As := [gI wh]) hK ws_X_315 md_X1_ladyAt ⟨Nat.zero_le _, Nat.zero_le _⟩ ⟨by decide, by decide⟩ (kdm kd_5) rfl rfl dd_X11_who_85 rfl rfl (Nat.le_of_ble_eq_true rfl) (c_ladyAt wh (by omega) hlc htc hlt_ hll_ (g_r1 ?_))
          refine g_topI (fun y14 ey14 => ?_)
          replace ey14 : y14 = (lyS ((ltF (M 44) (fun a t => losK (M 7) (M 8) (M 9) (M 15 a) (M 16 a) (M 17 a) (M 19) (M 18 2) (M 43 t) (M 6 6).toNat) (M 14 3).toNat 0 (M 5 7).toNat)) ((plS (ltF (M 44) (fun a t => losK (M 7) (M 8) (M 9) (M 15 a) (M 16 a) (M 17 a) (M 19) (M 18 2) (M 43 t) (M 6 6).toNat) (M 14 3).toNat 0 (M 5 7).toNat) (M 45) (M 14 3).toNat (M 5 7) (jshl 1 (M 14 3) - 1) (jshl 1 (M 14 3)).toNat)) (M 14 3).toNat (M 5 7) (wh + 1).toNat).2 := ey14
          refine g_iret (pc := 88) hK hr hlocks dd_X11_who_88 rfl ?_
          first | exact g_fin (hA (by first | omega | (subst_vars; omega) | exact ⟨by first | assumption | omega | (subst_vars; first | assumption | omega), by first | assumption | omega | (subst_vars; first | assumption | omega)⟩)) (by first | rfl | omega | (subst_vars; first | rfl | omega)) (by first | rfl | (subst_vars; rfl)) | exact g_fin (hY (by first | omega | (subst_vars; omega) | exact ⟨by first | assumption | omega | (subst_vars; first | assumption | omega), by first | assumption | omega | (subst_vars; first | assumption | omega)⟩)) (by first | rfl | omega | (subst_vars; first | rfl | omega)) (by first | rfl | (subst_vars; rfl)) | (exfalso; omega)
        · refine g_aloadn (pc := 68) (i := 0) (x := 0) hK dd_X11_who_68 rfl rfl ?_
          refine g_getv (pc := 69) (f := (1, 5)) (j := 3) (v := gR 5) hK (kdm kd_0) rfl ef_11 (by decide) rfl kk_385 dd_X11_who_69 rfl ?_
          refine g_getv (pc := 72) (f := (1, 40)) (j := 13) (v := gR 45) hK (kdm kd_5) rfl ef_1 (by decide) rfl kk_286 dd_X11_who_72 rfl ?_
          refine g_iconst (pc := 75) (x := 0) hK dd_X11_who_75 (by decide) ?_
          refine g_iald (pc := 76) hK (kdm kd_45) nl_45 (by decide) dd_X11_who_76 (by omega) (by omega) (fun x15 ex15 rx15 => ?_)
          replace ex15 : x15 = (plS (ltF (M 44) (fun a t => losK (M 7) (M 8) (M 9) (M 15 a) (M 16 a) (M 17 a) (M 19) (M 18 2) (M 43 t) (M 6 6).toNat) (M 14 3).toNat 0 (M 5 7).toNat) (M 45) (M 14 3).toNat (M 5 7) (jshl 1 (M 14 3) - 1) (jshl 1 (M 14 3)).toNat) 0 := by first | exact ex15 | (rw [ex15]; simp [up, us, cp, sr])
          refine g_goto (pc := 77) (tgt := 88) hK dd_X11_who_77 (by decide) ?_
          refine g_iret (pc := 88) hK hr hlocks dd_X11_who_88 rfl ?_
          first | exact g_fin (hA (by first | omega | (subst_vars; omega) | exact ⟨by first | assumption | omega | (subst_vars; first | assumption | omega), by first | assumption | omega | (subst_vars; first | assumption | omega)⟩)) (by first | rfl | omega | (subst_vars; first | rfl | omega)) (by first | rfl | (subst_vars; rfl)) | exact g_fin (hY (by first | omega | (subst_vars; omega) | exact ⟨by first | assumption | omega | (subst_vars; first | assumption | omega), by first | assumption | omega | (subst_vars; first | assumption | omega)⟩)) (by first | rfl | omega | (subst_vars; first | rfl | omega)) (by first | rfl | (subst_vars; rfl)) | (exfalso; omega)
      · refine g_aloadn (pc := 49) (i := 0) (x := 0) hK dd_X11_who_49 rfl rfl ?_
        refine g_bipush (pc := 50) (x := (-5)) hK dd_X11_who_50 (by decide) ?_
        refine g_callV (pc := 52) (As := [gI (-5)]) hK ws_X_63 md_X11_refuse ⟨Nat.zero_le _, Nat.zero_le _⟩ ⟨by decide, by decide⟩ (kdm kd_0) rfl rfl dd_X11_who_52 rfl rfl (Nat.le_of_ble_eq_true rfl) (c_refuse_3 hrf (g_r1 ?_))
        refine g_iret (pc := 55) hK hr hlocks dd_X11_who_55 rfl ?_
        first | exact g_fin (hS (by first | omega | (subst_vars; omega) | exact ⟨by first | assumption | omega | (subst_vars; first | assumption | omega), by first | assumption | omega | (subst_vars; first | assumption | omega)⟩)) (by first | rfl | omega | (subst_vars; first | rfl | omega)) (by first | rfl | (subst_vars; rfl)) | exact g_fin (hA (by first | omega | (subst_vars; omega) | exact ⟨by first | assumption | omega | (subst_vars; first | assumption | omega), by first | assumption | omega | (subst_vars; first | assumption | omega)⟩)) (by first | rfl | omega | (subst_vars; first | rfl | omega)) (by first | rfl | (subst_vars; rfl)) | exact g_fin (hY (by first | omega | (subst_vars; omega) | exact ⟨by first | assumption | omega | (subst_vars; first | assumption | omega), by first | assumption | omega | (subst_vars; first | assumption | omega)⟩)) (by first | rfl | omega | (subst_vars; first | rfl | omega)) (by first | rfl | (subst_vars; rfl)) | (exfalso; omega)
    · refine g_if_ne (pc := 19) (tgt := 29) hK dd_X11_who_19 (by decide) (by decide) (fun c16 => absurd c16 (by decide)) (fun _ => ?_)
      refine g_aloadn (pc := 22) (i := 0) (x := 0) hK dd_X11_who_22 rfl rfl ?_
      refine g_bipush (pc := 23) (x := (-2)) hK dd_X11_who_23 (by decide) ?_
      refine g_callV (pc := 25) (As := [gI (-2)]) hK ws_X_63 md_X11_refuse ⟨Nat.zero_le _, Nat.zero_le _⟩ ⟨by decide, by decide⟩ (kdm kd_0) rfl rfl dd_X11_who_25 rfl rfl (Nat.le_of_ble_eq_true rfl) (c_refuse_0 hrf (g_r1 ?_))
      refine g_iret (pc := 28) hK hr hlocks dd_X11_who_28 rfl ?_
      first | exact g_fin (hB (by first | omega | (subst_vars; omega) | exact ⟨by first | assumption | omega | (subst_vars; first | assumption | omega), by first | assumption | omega | (subst_vars; first | assumption | omega)⟩)) (by first | rfl | omega | (subst_vars; first | rfl | omega)) (by first | rfl | (subst_vars; rfl)) | exact g_fin (hA (by first | omega | (subst_vars; omega) | exact ⟨by first | assumption | omega | (subst_vars; first | assumption | omega), by first | assumption | omega | (subst_vars; first | assumption | omega)⟩)) (by first | rfl | omega | (subst_vars; first | rfl | omega)) (by first | rfl | (subst_vars; rfl)) | exact g_fin (hY (by first | omega | (subst_vars; omega) | exact ⟨by first | assumption | omega | (subst_vars; first | assumption | omega), by first | assumption | omega | (subst_vars; first | assumption | omega)⟩)) (by first | rfl | omega | (subst_vars; first | rfl | omega)) (by first | rfl | (subst_vars; rfl)) | (exfalso; omega)
