set_option maxHeartbeats 4000000 in
set_option maxRecDepth 100000 in
theorem c_wholeDay {l : Launch} {M : Mem} {Pq : Option gV → Mem → Prop} (ha : Int) (bg : Int) (g2 : inI ha) (g3 : inI bg) (hc : 0 ≤ M 6 6 ∧ M 6 6 ≤ 30) (hbc : 0 ≤ M 21 5 ∧ M 21 5 ≤ 12) (hth : thOK M) (hbu : buOK M) (hmn : mnOK M) (hQ : ∀ (A1 : Nat → Int) (A2 : Nat → Int) (A3 : Nat → Int) (A4 : Nat → Int) (A5 : Nat → Int) (A6 : Nat → Int) (A7 : Nat → Int), True → Pq (some (gI (tkg (M 10) (M 7) (TWf (M 7) (M 8) (M 9)) (M 22) (M 24) (M 25) (M 11) (M 23) (M 6 6).toNat (M 21 5).toNat ha bg))) (sr (sr (sr (sr (sr (sr (sr M 87 A1) 88 A2) 89 A3) 90 A4) 91 A5) 92 A6) 93 A7)) : gCtr l my_X5_wholeDay mb_X5_wholeDay 6 ((some .int)) 5 [gR 87, gR 5, gI ha, gI bg] M Pq := by
  refine g_intro (by decide) (Nat.le_of_ble_eq_true rfl) ?_
  intro p e s m args below meth c D cy q A hK hr hlocks hw
  refine g_sub (L' := [(0, gR 87), (1, gR 5), (2, gI ha), (3, gI bg)]) [0, 1, 2, 3] rfl ?_
  refine g_aloadn (pc := 0) (i := 0) (x := 87) hK dd_X5_wholeDay_0 rfl rfl ?_
  refine g_aloadn (pc := 1) (i := 1) (x := 5) hK dd_X5_wholeDay_1 rfl rfl ?_
  refine g_iloadn (pc := 2) (i := 2) (x := ha) hK dd_X5_wholeDay_2 rfl rfl ?_
  refine g_iloadn (pc := 3) (i := 3) (x := bg) hK dd_X5_wholeDay_3 rfl rfl ?_
  refine g_callV (pc := 4) (As := [gR 5, gI ha, gI bg]) hK ws_Sale_104 md_X5_open ⟨Nat.zero_le _, Nat.zero_le _⟩ ⟨by decide, by decide⟩ (kdm kd_87) rfl rfl dd_X5_wholeDay_4 rfl rfl (Nat.le_of_ble_eq_true rfl) (c_open ha bg g2 g3 hc hbc hth hbu (fun lc1 lf2 tr3 sb4 pu5 id6 h7 => g_r0 ?_))
  have hI0_ : SIv (M 11) (M 10) (M 7) (TWf (M 7) (M 8) (M 9)) (M 23) (M 26) (M 22) (M 24) (M 25) (M 6 6).toNat (M 21 5).toNat (M 12) lc1 lf2 tr3 sb4 (M 91) pu5 id6 ((gnA (M 11) (fun _ => 0) (M 6 6).toNat, puA (M 23) (fun _ => 0) (M 21 5).toNat, M 23, M 26, M 11, M 12, 0)) := SIv_0 h7.1.1 h7.1.2 h7.2.1 h7.2.2.1 h7.2.2.2.1 h7.2.2.2.2 (fun j hj => (hth j (by omega)).2.2.2.1.1) (fun j hj => (hth j (by omega)).2.2.2.2.1.1)
  refine g_iconst (pc := 7) (x := 0) hK dd_X5_wholeDay_7 (by decide) ?_
  refine g_istore (pc := 8) (i := 4) (L' := [(0, gR 87), (1, gR 5), (2, gI ha), (3, gI bg), (4, gI 0)]) hK dd_X5_wholeDay_8 (by decide) rfl ?_
  refine g_iconst (pc := 10) (x := 0) hK dd_X5_wholeDay_10 (by decide) ?_
  refine g_istore (pc := 11) (i := 5) (L' := [(0, gR 87), (1, gR 5), (2, gI ha), (3, gI bg), (4, gI 0), (5, gI 0)]) hK dd_X5_wholeDay_11 (by decide) rfl ?_
  have lp10 : ∀ (n8 : Nat) (tk : Int) (h : Int) (lc : Int) (lf : Nat → Int) (tr : Nat → Int) (sb : Nat → Int) (sp : Nat → Int) (pu : Nat → Int) (id : Nat → Int), (0 ≤ h ∧ h ≤ 12) → (tk = (dyG (M 10) (M 7) (TWf (M 7) (M 8) (M 9)) (M 22) (M 24) (M 25) (M 6 6).toNat (M 21 5).toNat ha bg 0 (gnA (M 11) (fun _ => 0) (M 6 6).toNat, puA (M 23) (fun _ => 0) (M 21 5).toNat, M 23, M 26, M 11, M 12, 0) h.toNat).2.2.2.2.2.2) → (SIv (M 11) (M 10) (M 7) (TWf (M 7) (M 8) (M 9)) (M 23) (M 26) (M 22) (M 24) (M 25) (M 6 6).toNat (M 21 5).toNat (M 12) lc lf tr sb sp pu id (dyG (M 10) (M 7) (TWf (M 7) (M 8) (M 9)) (M 22) (M 24) (M 25) (M 6 6).toNat (M 21 5).toNat ha bg 0 (gnA (M 11) (fun _ => 0) (M 6 6).toNat, puA (M 23) (fun _ => 0) (M 21 5).toNat, M 23, M 26, M 11, M 12, 0) h.toNat)) → (12 - h).toNat < n8 → G p l e (rmD 5) s m args below meth c D cy q A 0 0 6 (MQ below (gQc D cy q A Pq) args s 0 0 A) 13 [(0, gR 87), (1, gR 5), (2, gI ha), (3, gI bg), (4, gI tk), (5, gI h)] [] (sr (sr (sr (sr (sr (sr (sr M 87 (us (us (us (M 87) 0 ha) 1 bg) 3 lc)) 88 lf) 89 tr) 90 sb) 91 sp) 92 pu) 93 id) := by
    intro n8
    induction n8 with
    | zero => intro tk h lc lf tr sb sp pu id iv11 htk_ hI_ hm12; exact absurd hm12 (Nat.not_lt_zero _)
    | succ n8 ih9 =>
      intro tk h lc lf tr sb sp pu id iv11 htk_ hI_ hm12
      refine g_iload (pc := 13) (i := 5) (x := h) hK dd_X5_wholeDay_13 rfl ?_
      have gd := dyG_ok (P := M 10) (K := M 7) (T := TWf (M 7) (M 8) (M 9)) (hr := M 22) (ks := M 24) (ey := M 25) (n := (M 6 6).toNat) (bn := (M 21 5).toNat) (half := ha) (bag := bg) (h0 := 0) (fun j hj => Px_in hth j (by omega)) (r7x_0 (a := gnA (M 11) (fun _ => 0) (M 6 6).toNat) (b := fun _ => 0) (x := 0) hbu hmn hth (by omega)) (by omega) h.toNat
      have gd1 := R7ok_m (m' := 1000040) gd.1 (by omega)
      have gd2_ : (dyG (M 10) (M 7) (TWf (M 7) (M 8) (M 9)) (M 22) (M 24) (M 25) (M 6 6).toNat (M 21 5).toNat ha bg 0 (gnA (M 11) (fun _ => 0) (M 6 6).toNat, puA (M 23) (fun _ => 0) (M 21 5).toNat, M 23, M 26, M 11, M 12, 0) h.toNat).2.2.2.2.2.2 ≤ 0 + 12000 * ((h.toNat : Nat) : Int) ∧ (0 : Int) ≤ (dyG (M 10) (M 7) (TWf (M 7) (M 8) (M 9)) (M 22) (M 24) (M 25) (M 6 6).toNat (M 21 5).toNat ha bg 0 (gnA (M 11) (fun _ => 0) (M 6 6).toNat, puA (M 23) (fun _ => 0) (M 21 5).toNat, M 23, M 26, M 11, M 12, 0) h.toNat).2.2.2.2.2.2 := gd.2
      refine g_bipush (pc := 15) (x := 12) hK dd_X5_wholeDay_15 (by decide) ?_
      refine g_icmp_ge (pc := 17) (tgt := 38) hK dd_X5_wholeDay_17 (by decide) ⟨by omega, by omega⟩ (by decide) (fun c13 => ?_) (fun c13 => ?_)
      · refine g_iload (pc := 38) (i := 4) (x := tk) hK dd_X5_wholeDay_38 rfl ?_
        refine g_iret (pc := 40) hK hr hlocks dd_X5_wholeDay_40 rfl ?_
        exact g_fin (hQ _ _ _ _ _ _ _ trivial) (by rw [htk_, show h.toNat = 12 by omega]; exact tkg_G) rfl
      · refine g_iload (pc := 20) (i := 4) (x := tk) hK dd_X5_wholeDay_20 rfl ?_
        refine g_aloadn (pc := 22) (i := 0) (x := 87) hK dd_X5_wholeDay_22 rfl rfl ?_
        refine g_aloadn (pc := 23) (i := 1) (x := 5) hK dd_X5_wholeDay_23 rfl rfl ?_
        refine g_iload (pc := 24) (i := 5) (x := h) hK dd_X5_wholeDay_24 rfl ?_
        refine g_callV (pc := 26) (As := [gR 5, gI h]) hK ws_Sale_108 md_X5_playHour ⟨Nat.zero_le _, Nat.zero_le _⟩ ⟨by decide, by decide⟩ (kdm kd_87) rfl rfl dd_X5_wholeDay_26 rfl rfl (Nat.le_of_ble_eq_true rfl) (c_playHour h (dyG (M 10) (M 7) (TWf (M 7) (M 8) (M 9)) (M 22) (M 24) (M 25) (M 6 6).toNat (M 21 5).toNat ha bg 0 (gnA (M 11) (fun _ => 0) (M 6 6).toNat, puA (M 23) (fun _ => 0) (M 21 5).toNat, M 23, M 26, M 11, M 12, 0) h.toNat) ⟨by omega, by omega⟩ hc hbc hth hbu hI_ gd1 ⟨by omega, by omega⟩ (fun lc14 lf15 sb16 sp17 pu18 id19 h20 => g_r1 ?_))
        refine g_topI (fun yy eyy => ?_)
        replace eyy : yy = (hrG (M 10) (M 7) (TWf (M 7) (M 8) (M 9)) (M 22) (M 24) (M 25) (M 6 6).toNat ((us (us (us (M 87) 0 ha) 1 bg) 3 lc) 0) ((us (us (us (M 87) 0 ha) 1 bg) 3 lc) 1) h (dyG (M 10) (M 7) (TWf (M 7) (M 8) (M 9)) (M 22) (M 24) (M 25) (M 6 6).toNat (M 21 5).toNat ha bg 0 (gnA (M 11) (fun _ => 0) (M 6 6).toNat, puA (M 23) (fun _ => 0) (M 21 5).toNat, M 23, M 26, M 11, M 12, 0) h.toNat) (M 21 5).toNat).2.2.2.2.2.2 - (dyG (M 10) (M 7) (TWf (M 7) (M 8) (M 9)) (M 22) (M 24) (M 25) (M 6 6).toNat (M 21 5).toNat ha bg 0 (gnA (M 11) (fun _ => 0) (M 6 6).toNat, puA (M 23) (fun _ => 0) (M 21 5).toNat, M 23, M 26, M 11, M 12, 0) h.toNat).2.2.2.2.2.2 := eyy
        have hI2_ : SIv (M 11) (M 10) (M 7) (TWf (M 7) (M 8) (M 9)) (M 23) (M 26) (M 22) (M 24) (M 25) (M 6 6).toNat (M 21 5).toNat (M 12) lc14 lf15 tr sb16 sp17 pu18 id19 (hrG (M 10) (M 7) (TWf (M 7) (M 8) (M 9)) (M 22) (M 24) (M 25) (M 6 6).toNat ha bg h (dyG (M 10) (M 7) (TWf (M 7) (M 8) (M 9)) (M 22) (M 24) (M 25) (M 6 6).toNat (M 21 5).toNat ha bg 0 (gnA (M 11) (fun _ => 0) (M 6 6).toNat, puA (M 23) (fun _ => 0) (M 21 5).toNat, M 23, M 26, M 11, M 12, 0) h.toNat) (M 21 5).toNat) := h20
        have yy_ : yy = (hrG (M 10) (M 7) (TWf (M 7) (M 8) (M 9)) (M 22) (M 24) (M 25) (M 6 6).toNat ha bg h (dyG (M 10) (M 7) (TWf (M 7) (M 8) (M 9)) (M 22) (M 24) (M 25) (M 6 6).toNat (M 21 5).toNat ha bg 0 (gnA (M 11) (fun _ => 0) (M 6 6).toNat, puA (M 23) (fun _ => 0) (M 21 5).toNat, M 23, M 26, M 11, M 12, 0) h.toNat) (M 21 5).toNat).2.2.2.2.2.2 - (dyG (M 10) (M 7) (TWf (M 7) (M 8) (M 9)) (M 22) (M 24) (M 25) (M 6 6).toNat (M 21 5).toNat ha bg 0 (gnA (M 11) (fun _ => 0) (M 6 6).toNat, puA (M 23) (fun _ => 0) (M 21 5).toNat, M 23, M 26, M 11, M 12, 0) h.toNat).2.2.2.2.2.2 := eyy
        refine g_iadd (pc := 29) (z := tk + yy) hK dd_X5_wholeDay_29 rfl ?_
        refine g_istore (pc := 30) (i := 4) (L' := [(0, gR 87), (1, gR 5), (2, gI ha), (3, gI bg), (4, gI (tk + yy)), (5, gI h)]) hK dd_X5_wholeDay_30 (by decide) rfl ?_
        refine g_iinc (pc := 32) (i := 5) (y := h + 1) (L' := [(0, gR 87), (1, gR 5), (2, gI ha), (3, gI bg), (4, gI (tk + yy)), (5, gI (h + 1))]) hK dd_X5_wholeDay_32 rfl rfl (by decide) rfl ?_
        refine g_goto (pc := 35) (tgt := 13) hK dd_X5_wholeDay_35 (by decide) ?_
        refine g_sub (L' := [(0, gR 87), (1, gR 5), (2, gI ha), (3, gI bg), (4, gI (tk + yy)), (5, gI (h + 1))]) [0, 1, 2, 3, 4, 5] rfl ?_
        refine g_mem (M2 := sr (sr (sr (sr (sr (sr (sr M 87 (us (us (us (M 87) 0 ha) 1 bg) 3 lc14)) 88 lf15) 89 tr) 90 sb16) 91 sp17) 92 pu18) 93 id19) (by simp (disch := decide) only [Int.reduceToNat, up_sr, sr_cp, sr_k, sr_o, sr_sr, us_us, @sr_lt _ 88 87 _ _ (by decide), @sr_lt _ 89 87 _ _ (by decide), @sr_lt _ 89 88 _ _ (by decide), @sr_lt _ 90 87 _ _ (by decide), @sr_lt _ 90 88 _ _ (by decide), @sr_lt _ 90 89 _ _ (by decide), @sr_lt _ 91 87 _ _ (by decide), @sr_lt _ 91 88 _ _ (by decide), @sr_lt _ 91 89 _ _ (by decide), @sr_lt _ 91 90 _ _ (by decide), @sr_lt _ 92 87 _ _ (by decide), @sr_lt _ 92 88 _ _ (by decide), @sr_lt _ 92 89 _ _ (by decide), @sr_lt _ 92 90 _ _ (by decide), @sr_lt _ 92 91 _ _ (by decide), @sr_lt _ 93 87 _ _ (by decide), @sr_lt _ 93 88 _ _ (by decide), @sr_lt _ 93 89 _ _ (by decide), @sr_lt _ 93 90 _ _ (by decide), @sr_lt _ 93 91 _ _ (by decide), @sr_lt _ 93 92 _ _ (by decide)]; try rfl) ?_
        exact ih9 (tk + yy) (h + 1) lc14 lf15 tr sb16 sp17 pu18 id19 (by omega) (by rw [tn1 (t := h) (by omega)]; simp only [dyG]; rw [Int.zero_add, show ((h.toNat : Nat) : Int) = h by omega]; omega) (by rw [tn1 (t := h) (by omega)]; simp only [dyG]; rw [Int.zero_add, show ((h.toNat : Nat) : Int) = h by omega]; exact hI2_) (by omega)
  refine g_mem (M2 := sr (sr (sr (sr (sr (sr (sr M 87 (us (us (us (M 87) 0 ha) 1 bg) 3 lc1)) 88 lf2) 89 tr3) 90 sb4) 91 (M 91)) 92 pu5) 93 id6) (by congr 2; exact (sr_id (k := 91) rfl).symm) ?_
  refine g_sub (L' := [(0, gR 87), (1, gR 5), (2, gI ha), (3, gI bg), (4, gI 0), (5, gI 0)]) [0, 1, 2, 3, 4, 5] rfl ?_
  exact lp10 _ 0 0 lc1 lf2 tr3 sb4 (M 91) pu5 id6 (by omega) (rfl) (hI0_) (Nat.lt_succ_self _)
set_option maxHeartbeats 4000000 in
set_option maxRecDepth 100000 in
theorem c_settle {l : Launch} {M : Mem} {Pq : Option gV → Mem → Prop} (hc : 0 ≤ M 6 6 ∧ M 6 6 ≤ 30) (hbc : 0 ≤ M 21 5 ∧ M 21 5 ≤ 12) (hbu : buOK M) (hmn : mnOK M) (hsb : ∀ z, z < (M 6 6).toNat → M 90 z = -1 ∨ ((0 ≤ M 90 z ∧ M 90 z < M 21 5) ∧ -1 ≤ M 91 z ∧ M 91 z ≤ 999)) (hQ : Pq none (sr (sr (sr (sr M 11 (stB (M 90) (M 11) (M 6 6).toNat)) 12 (stD (M 90) (M 91) (M 12) (M 6 6).toNat)) 23 (stP (M 90) (M 91) (M 23) (M 6 6).toNat)) 26 (stM (M 90) (M 26) (M 6 6).toNat))) : gCtr l my_X5_settle mb_X5_settle 6 ((none : Option Jvm.ClassFile.FieldType)) 3 [gR 87, gR 5] M Pq := by
  refine g_intro (by decide) (Nat.le_of_ble_eq_true rfl) ?_
  intro p e s m args below meth c D cy q A hK hr hlocks hw
  refine g_sub (L' := [(0, gR 87), (1, gR 5)]) [0, 1] rfl ?_
  refine g_aloadn (pc := 0) (i := 1) (x := 5) hK dd_X5_settle_0 rfl rfl ?_
  refine g_getv (pc := 1) (f := (1, 1)) (j := 0) (v := gR 6) hK (kdm kd_5) rfl ef_1 (by decide) rfl kk_259 dd_X5_settle_1 rfl ?_
  refine g_astoren (pc := 4) (i := 2) (L' := [(0, gR 87), (1, gR 5), (2, gR 6)]) hK dd_X5_settle_4 rfl (by decide) rfl ?_
  refine g_aloadn (pc := 5) (i := 1) (x := 5) hK dd_X5_settle_5 rfl rfl ?_
  refine g_getv (pc := 6) (f := (1, 16)) (j := 3) (v := gR 21) hK (kdm kd_5) rfl ef_1 (by decide) rfl kk_266 dd_X5_settle_6 rfl ?_
  refine g_astoren (pc := 9) (i := 3) (L' := [(0, gR 87), (1, gR 5), (2, gR 6), (3, gR 21)]) hK dd_X5_settle_9 rfl (by decide) rfl ?_
  refine g_iconst (pc := 10) (x := 0) hK dd_X5_settle_10 (by decide) ?_
  refine g_istore (pc := 11) (i := 4) (L' := [(0, gR 87), (1, gR 5), (2, gR 6), (3, gR 21), (4, gI 0)]) hK dd_X5_settle_11 (by decide) rfl ?_
  have lp3 : ∀ (n1 : Nat) (t : Int), (0 ≤ t ∧ t ≤ M 6 6) → (M 6 6 - t).toNat < n1 → G p l e (rmD 3) s m args below meth c D cy q A 0 0 6 (MQ below (gQc D cy q A Pq) args s 0 0 A) 13 [(0, gR 87), (1, gR 5), (2, gR 6), (3, gR 21), (4, gI t)] [] (sr (sr (sr (sr M 11 (stB (M 90) (M 11) t.toNat)) 12 (stD (M 90) (M 91) (M 12) t.toNat)) 23 (stP (M 90) (M 91) (M 23) t.toNat)) 26 (stM (M 90) (M 26) t.toNat)) := by
    intro n1
    induction n1 with
    | zero => intro t iv4 hm5; exact absurd hm5 (Nat.not_lt_zero _)
    | succ n1 ih2 =>
      intro t iv4 hm5
      refine g_iload (pc := 13) (i := 4) (x := t) hK dd_X5_settle_13 rfl ?_
      refine g_aloadn (pc := 15) (i := 2) (x := 6) hK dd_X5_settle_15 rfl rfl ?_
      refine g_geti (pc := 16) (f := (0, 0)) (j := 6) hK (kdm kd_6) rfl ef_10 (by decide) rfl kk_88 nl_6 dd_X5_settle_16 rfl (fun x6 ex6 rx6 => ?_)
      replace ex6 : x6 = M 6 6 := ex6
      refine g_icmp_ge (pc := 19) (tgt := 97) hK dd_X5_settle_19 (by decide) ⟨by omega, by omega⟩ rx6 (fun c7 => ?_) (fun c7 => ?_)
      · refine g_vret (pc := 97) hK hr hlocks dd_X5_settle_97 ?_
        exact g_finM hQ (by rw [show M 6 6 = t by omega])
      · have hsz := hsb t.toNat (by omega)
        refine g_aloadn (pc := 22) (i := 0) (x := 87) hK dd_X5_settle_22 rfl rfl ?_
        refine g_getv (pc := 23) (f := (1, 3)) (j := 5) (v := gR 90) hK (kdm kd_87) rfl ef_5 (by decide) rfl kk_327 dd_X5_settle_23 rfl ?_
        refine g_iload (pc := 26) (i := 4) (x := t) hK dd_X5_settle_26 rfl ?_
        refine g_iald (pc := 28) hK (kdm kd_90) nl_90 (by decide) dd_X5_settle_28 (by omega) (by omega) (fun x8 ex8 rx8 => ?_)
        replace ex8 : x8 = M 90 t.toNat := ex8
        refine g_istore (pc := 29) (i := 5) (L' := [(0, gR 87), (1, gR 5), (2, gR 6), (3, gR 21), (4, gI t), (5, gI x8)]) hK dd_X5_settle_29 (by decide) rfl ?_
        refine g_aloadn (pc := 31) (i := 3) (x := 21) hK dd_X5_settle_31 rfl rfl ?_
        refine g_iload (pc := 32) (i := 5) (x := x8) hK dd_X5_settle_32 rfl ?_
        refine g_callV (pc := 34) (As := [gI x8]) hK ws_Sale_115 md_X0_has ⟨Nat.zero_le _, Nat.zero_le _⟩ ⟨by decide, by decide⟩ (kdm kd_21) rfl rfl dd_X5_settle_34 rfl rfl (Nat.le_of_ble_eq_true rfl) (c_has_21 x8 rx8 (show 0 ≤ M 21 5 ∧ M 21 5 ≤ 12 by omega) (fun c9 => g_r1 ?_) (fun c9 => g_r1 ?_))
        · refine g_if_eq (pc := 37) (tgt := 91) hK dd_X5_settle_37 (by decide) (by decide) (fun c10 => absurd c10 (by decide)) (fun _ => ?_)
          have hcx_ : 0 ≤ x8 ∧ x8 < M 21 5 := c9
          have hz1 := fun (z : Nat) (hz : z < t.toNat) => hsb z (by omega)
          have hs1 := smB_in (sb := M 90) (sp := M 91) (b := ((x8.toNat : Nat) : Int)) t.toNat (fun z hz e => by rcases hz1 z hz with g | g <;> omega)
          have hs2 := smB_in (sb := M 90) (sp := fun _ => 1) (b := ((x8.toNat : Nat) : Int)) t.toNat (fun z hz e => by omega)
          have hbz := hbu x8.toNat (by omega)
          have hmz := hmn x8.toNat (by omega)
          refine g_aloadn (pc := 40) (i := 2) (x := 6) hK dd_X5_settle_40 rfl rfl ?_
          refine g_getv (pc := 41) (f := (1, 5)) (j := 4) (v := gR 11) hK (kdm kd_6) rfl ef_10 (by decide) rfl kk_80 dd_X5_settle_41 rfl ?_
          refine g_iload (pc := 44) (i := 4) (x := t) hK dd_X5_settle_44 rfl ?_
          refine g_iload (pc := 46) (i := 5) (x := x8) hK dd_X5_settle_46 rfl ?_
          refine g_iast (pc := 48) hK (kdm kd_11) nl_11 (by decide) (by decide) dd_X5_settle_48 (by omega) (by omega) rx8 ?_
          refine g_aloadn (pc := 49) (i := 2) (x := 6) hK dd_X5_settle_49 rfl rfl ?_
          refine g_getv (pc := 50) (f := (1, 6)) (j := 5) (v := gR 12) hK (kdm kd_6) rfl ef_10 (by decide) rfl kk_84 dd_X5_settle_50 rfl ?_
          refine g_iload (pc := 53) (i := 4) (x := t) hK dd_X5_settle_53 rfl ?_
          refine g_aloadn (pc := 55) (i := 0) (x := 87) hK dd_X5_settle_55 rfl rfl ?_
          refine g_getv (pc := 56) (f := (1, 4)) (j := 6) (v := gR 91) hK (kdm kd_87) rfl ef_5 (by decide) rfl kk_328 dd_X5_settle_56 rfl ?_
          refine g_iload (pc := 59) (i := 4) (x := t) hK dd_X5_settle_59 rfl ?_
          refine g_iald (pc := 61) hK (kdm kd_91) nl_91 (by decide) dd_X5_settle_61 (by omega) (by omega) (fun x11 ex11 rx11 => ?_)
          replace ex11 : x11 = M 91 t.toNat := ex11
          refine g_iast (pc := 62) hK (kdm kd_12) nl_12 (by decide) (by decide) dd_X5_settle_62 (by omega) (by omega) rx11 ?_
          refine g_aloadn (pc := 63) (i := 3) (x := 21) hK dd_X5_settle_63 rfl rfl ?_
          refine g_getv (pc := 64) (f := (1, 2)) (j := 1) (v := gR 23) hK (kdm kd_21) rfl ef_0 (by decide) rfl kk_163 dd_X5_settle_64 rfl ?_
          refine g_iload (pc := 67) (i := 5) (x := x8) hK dd_X5_settle_67 rfl ?_
          refine g_dup2 (pc := 69) hK dd_X5_settle_69 rfl rfl ?_
          refine g_iald (pc := 70) hK (kdm kd_23) nl_23 (by decide) dd_X5_settle_70 (by omega) (by omega) (fun x12 ex12 rx12 => ?_)
          replace ex12 : x12 = (stP (M 90) (M 91) (M 23) t.toNat) x8.toNat := by first | exact ex12 | (rw [ex12]; simp [up, us, cp, sr])
          have hq70 := ex12
          unfold stP at hq70
          refine g_aloadn (pc := 71) (i := 0) (x := 87) hK dd_X5_settle_71 rfl rfl ?_
          refine g_getv (pc := 72) (f := (1, 4)) (j := 6) (v := gR 91) hK (kdm kd_87) rfl ef_5 (by decide) rfl kk_328 dd_X5_settle_72 rfl ?_
          refine g_iload (pc := 75) (i := 4) (x := t) hK dd_X5_settle_75 rfl ?_
          refine g_iald (pc := 77) hK (kdm kd_91) nl_91 (by decide) dd_X5_settle_77 (by omega) (by omega) (fun x13 ex13 rx13 => ?_)
          replace ex13 : x13 = M 91 t.toNat := ex13
          refine g_isub (pc := 78) (z := x12 - x13) hK dd_X5_settle_78 rfl ?_
          refine g_iast (pc := 79) hK (kdm kd_23) nl_23 (by decide) (by decide) dd_X5_settle_79 (by omega) (by omega) ⟨by omega, by omega⟩ ?_
          refine g_aloadn (pc := 80) (i := 3) (x := 21) hK dd_X5_settle_80 rfl rfl ?_
          refine g_getv (pc := 81) (f := (1, 5)) (j := 4) (v := gR 26) hK (kdm kd_21) rfl ef_0 (by decide) rfl kk_172 dd_X5_settle_81 rfl ?_
          refine g_iload (pc := 84) (i := 5) (x := x8) hK dd_X5_settle_84 rfl ?_
          refine g_dup2 (pc := 86) hK dd_X5_settle_86 rfl rfl ?_
          refine g_iald (pc := 87) hK (kdm kd_26) nl_26 (by decide) dd_X5_settle_87 (by omega) (by omega) (fun x14 ex14 rx14 => ?_)
          replace ex14 : x14 = (stM (M 90) (M 26) t.toNat) x8.toNat := by first | exact ex14 | (rw [ex14]; simp [up, us, cp, sr])
          have hq87 := ex14
          unfold stM at hq87
          refine g_iconst (pc := 88) (x := 1) hK dd_X5_settle_88 (by decide) ?_
          refine g_iadd (pc := 89) (z := x14 + 1) hK dd_X5_settle_89 rfl ?_
          refine g_iast (pc := 90) hK (kdm kd_26) nl_26 (by decide) (by decide) dd_X5_settle_90 (by omega) (by omega) ⟨by omega, by omega⟩ ?_
          skip
          refine g_iinc (pc := 91) (i := 4) (y := t + 1) (L' := [(0, gR 87), (1, gR 5), (2, gR 6), (3, gR 21), (4, gI (t + 1)), (5, gI x8)]) hK dd_X5_settle_91 rfl rfl (by decide) rfl ?_
          refine g_goto (pc := 94) (tgt := 13) hK dd_X5_settle_94 (by decide) ?_
          refine g_sub (L' := [(0, gR 87), (1, gR 5), (2, gR 6), (3, gR 21), (4, gI (t + 1))]) [0, 1, 2, 3, 4] rfl ?_
          refine g_mem (M2 := sr (sr (sr (sr M 11 (stB (M 90) (M 11) (t + 1).toNat)) 12 (stD (M 90) (M 91) (M 12) (t + 1).toNat)) 23 (stP (M 90) (M 91) (M 23) (t + 1).toNat)) 26 (stM (M 90) (M 26) (t + 1).toNat)) (by rw [tn1 (t := t) (by omega)]; first | (rw [stB_n (by omega), stD_n (by omega), stP_n (by omega), stM_n (by omega)]) | (rw [stB_y (by omega), stD_y (by omega), stP_y (by omega), stM_y (by omega)]; subst_vars; simp (disch := decide) only [Int.reduceToNat, up_sr, sr_cp, sr_k, sr_o, sr_sr, us_us, @sr_lt _ 12 11 _ _ (by decide), @sr_lt _ 23 11 _ _ (by decide), @sr_lt _ 23 12 _ _ (by decide), @sr_lt _ 26 11 _ _ (by decide), @sr_lt _ 26 12 _ _ (by decide), @sr_lt _ 26 23 _ _ (by decide)]; try rfl)) ?_
          exact ih2 (t + 1) (by omega) (by omega)
        · refine g_if_eq (pc := 37) (tgt := 91) hK dd_X5_settle_37 (by decide) (by decide) (fun _ => ?_) (fun c15 => absurd (by decide) c15)
          have hcx_ : ¬ (0 ≤ x8 ∧ x8 < M 21 5) := c9
          refine g_iinc (pc := 91) (i := 4) (y := t + 1) (L' := [(0, gR 87), (1, gR 5), (2, gR 6), (3, gR 21), (4, gI (t + 1)), (5, gI x8)]) hK dd_X5_settle_91 rfl rfl (by decide) rfl ?_
          refine g_goto (pc := 94) (tgt := 13) hK dd_X5_settle_94 (by decide) ?_
          refine g_sub (L' := [(0, gR 87), (1, gR 5), (2, gR 6), (3, gR 21), (4, gI (t + 1))]) [0, 1, 2, 3, 4] rfl ?_
          refine g_mem (M2 := sr (sr (sr (sr M 11 (stB (M 90) (M 11) (t + 1).toNat)) 12 (stD (M 90) (M 91) (M 12) (t + 1).toNat)) 23 (stP (M 90) (M 91) (M 23) (t + 1).toNat)) 26 (stM (M 90) (M 26) (t + 1).toNat)) (by rw [tn1 (t := t) (by omega)]; first | (rw [stB_n (by omega), stD_n (by omega), stP_n (by omega), stM_n (by omega)]) | (rw [stB_y (by omega), stD_y (by omega), stP_y (by omega), stM_y (by omega)]; subst_vars; simp (disch := decide) only [Int.reduceToNat, up_sr, sr_cp, sr_k, sr_o, sr_sr, us_us, @sr_lt _ 12 11 _ _ (by decide), @sr_lt _ 23 11 _ _ (by decide), @sr_lt _ 23 12 _ _ (by decide), @sr_lt _ 26 11 _ _ (by decide), @sr_lt _ 26 12 _ _ (by decide), @sr_lt _ 26 23 _ _ (by decide)]; try rfl)) ?_
          exact ih2 (t + 1) (by omega) (by omega)
  refine g_mem (M2 := sr (sr (sr (sr M 11 (stB (M 90) (M 11) (0 : Int).toNat)) 12 (stD (M 90) (M 91) (M 12) (0 : Int).toNat)) 23 (stP (M 90) (M 91) (M 23) (0 : Int).toNat)) 26 (stM (M 90) (M 26) (0 : Int).toNat)) (by show M = sr (sr (sr (sr M 11 (stB (M 90) (M 11) 0)) 12 (stD (M 90) (M 91) (M 12) 0)) 23 (stP (M 90) (M 91) (M 23) 0)) 26 (stM (M 90) (M 26) 0); rw [stB_0, stD_0, stP_0, stM_0, sr_self, sr_self, sr_self]; exact sr_self.symm) ?_
  refine g_sub (L' := [(0, gR 87), (1, gR 5), (2, gR 6), (3, gR 21), (4, gI 0)]) [0, 1, 2, 3, 4] rfl ?_
  exact lp3 _ 0 (by omega) (Nat.lt_succ_self _)
