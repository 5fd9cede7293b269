set_option maxHeartbeats 4000000 in
set_option maxRecDepth 100000 in
theorem c_wholeDay {l : Launch} {M : Mem} {Pq : Option gV → Mem → Prop} (ha : Int) (bg : Int) (g2 : inI ha) (g3 : inI bg) (hc : 0 ≤ M 6 6 ∧ M 6 6 ≤ 30) (hbc : 0 ≤ M 21 5 ∧ M 21 5 ≤ 12) (hth : thOK M) (hbu : buOK M) (hmn : mnOK M) (hQ : ∀ (A1 : Nat → Int) (A2 : Nat → Int) (A3 : Nat → Int) (A4 : Nat → Int) (A5 : Nat → Int) (A6 : Nat → Int) (A7 : Nat → Int), True → Pq (some (gI (tkg (M 10) (M 7) (TWf (M 7) (M 8) (M 9)) (M 22) (M 24) (M 25) (M 11) (M 23) (M 6 6).toNat (M 21 5).toNat ha bg))) (sr (sr (sr (sr (sr (sr (sr M 87 A1) 88 A2) 89 A3) 90 A4) 91 A5) 92 A6) 93 A7)) : gCtr l my_X5_wholeDay mb_X5_wholeDay 6 ((some .int)) 5 [gR 87, gR 5, gI ha, gI bg] M Pq := by
  refine g_intro (by decide) (Nat.le_of_ble_eq_true rfl) ?_
  intro p e s m args below meth c D cy q A hK hr hlocks hw
  refine g_sub (L' := [(0, gR 87), (1, gR 5), (2, gI ha), (3, gI bg)]) [0, 1, 2, 3] rfl ?_
  refine g_aloadn (pc := 0) (i := 0) (x := 87) hK dd_X5_wholeDay_0 rfl rfl ?_
  refine g_aloadn (pc := 1) (i := 1) (x := 5) hK dd_X5_wholeDay_1 rfl rfl ?_
  refine g_iloadn (pc := 2) (i := 2) (x := ha) hK dd_X5_wholeDay_2 rfl rfl ?_
  refine g_iloadn (pc := 3) (i := 3) (x := bg) hK dd_X5_wholeDay_3 rfl rfl ?_
  refine g_callV (pc := 4) (As := [gR 5, gI ha, gI bg]) hK ws_Sale_104 md_X5_open ⟨Nat.zero_le _, Nat.zero_le _⟩ ⟨by decide, by decide⟩ (kdm kd_87) rfl rfl dd_X5_wholeDay_4 rfl rfl (Nat.le_of_ble_eq_true rfl) (c_open ha bg g2 g3 hc hbc hth hbu (fun lc1 lf2 tr3 sb4 pu5 id6 h7 => g_r0 ?_))
  have hI0_ : SIv (M 11) (M 10) (M 7) (TWf (M 7) (M 8) (M 9)) (M 23) (M 26) (M 22) (M 24) (M 25) (M 6 6).toNat (M 21 5).toNat (M 12) lc1 lf2 tr3 sb4 (M 91) pu5 id6 ((gnA (M 11) (fun _ => 0) (M 6 6).toNat, puA (M 23) (fun _ => 0) (M 21 5).toNat, M 23, M 26, M 11, M 12, 0)) := SIv_0 h7.1.1 h7.1.2 h7.2.1 h7.2.2.1 h7.2.2.2.1 h7.2.2.2.2 (fun j hj => (hth j (by omega)).2.2.2.1.1) (fun j hj => (hth j (by omega)).2.2.2.2.1.1)
  refine g_iconst (pc := 7) (x := 0) hK dd_X5_wholeDay_7 (by decide) ?_
  refine g_istore (pc := 8) (i := 4) (L' := [(0, gR 87), (1, gR 5), (2, gI ha), (3, gI bg), (4, gI 0)]) hK dd_X5_wholeDay_8 (by decide) rfl ?_
  refine g_iconst (pc := 10) (x := 0) hK dd_X5_wholeDay_10 (by decide) ?_
  refine g_istore (pc := 11) (i := 5) (L' := [(0, gR 87), (1, gR 5), (2, gI ha), (3, gI bg), (4, gI 0), (5, gI 0)]) hK dd_X5_wholeDay_11 (by decide) rfl ?_
  have lp10 : ∀ (n8 : Nat) (tk : Int) (h : Int) (lc : Int) (lf : Nat → Int) (tr : Nat → Int) (sb : Nat → Int) (sp : Nat → Int) (pu : Nat → Int) (id : Nat → Int), (0 ≤ h ∧ h ≤ 12) → (tk = (dyG (M 10) (M 7) (TWf (M 7) (M 8) (M 9)) (M 22) (M 24) (M 25) (M 6 6).toNat (M 21 5).toNat ha bg 0 (gnA (M 11) (fun _ => 0) (M 6 6).toNat, puA (M 23) (fun _ => 0) (M 21 5).toNat, M 23, M 26, M 11, M 12, 0) h.toNat).2.2.2.2.2.2) → (SIv (M 11) (M 10) (M 7) (TWf (M 7) (M 8) (M 9)) (M 23) (M 26) (M 22) (M 24) (M 25) (M 6 6).toNat (M 21 5).toNat (M 12) lc lf tr sb sp pu id (dyG (M 10) (M 7) (TWf (M 7) (M 8) (M 9)) (M 22) (M 24) (M 25) (M 6 6).toNat (M 21 5).toNat ha bg 0 (gnA (M 11) (fun _ => 0) (M 6 6).toNat, puA (M 23) (fun _ => 0) (M 21 5).toNat, M 23, M 26, M 11, M 12, 0) h.toNat)) → (12 - h).toNat < n8 → G p l e (rmD 5) s m args below meth c D cy q A 0 0 6 (MQ below (gQc D cy q A Pq) args s 0 0 A) 13 [(0, gR 87), (1, gR 5), (2, gI ha), (3, gI bg), (4, gI tk), (5, gI h)] [] (sr (sr (sr (sr (sr (sr (sr M 87 (us (us (us (M 87) 0 ha) 1 bg) 3 lc)) 88 lf) 89 tr) 90 sb) 91 sp) 92 pu) 93 id) := by
    intro n8
    induction n8 with
    | zero => intro tk h lc lf tr sb sp pu id iv11 htk_ hI_ hm12; exact absurd hm12 (Nat.not_lt_zero _)
    | succ n8 ih9 =>
      intro tk h lc lf tr sb sp pu id iv11 htk_ hI_ hm12
      refine g_iload (pc := 13) (i := 5) (x := h) hK dd_X5_wholeDay_13 rfl ?_
      have gd := dyG_ok (P := M 10) (K := M 7) (T := TWf (M 7) (M 8) (M 9)) (hr := M 22) (ks := M 24) (ey := M 25) (n := (M 6 6).toNat) (bn := (M 21 5).toNat) (half := ha) (bag := bg) (h0 := 0) (fun j hj => Px_in hth j (by omega)) (r7x_0 (a := gnA (M 11) (fun _ => 0) (M 6 6).toNat) (b := fun _ => 0) (x := 0) hbu hmn hth (by omega)) (by omega) h.toNat
      have gd1 := R7ok_m (m' := 1000040) gd.1 (by omega)
      have gd2_ : (dyG (M 10) (M 7) (TWf (M 7) (M 8) (M 9)) (M 22) (M 24) (M 25) (M 6 6).toNat (M 21 5).toNat ha bg 0 (gnA (M 11) (fun _ => 0) (M 6 6).toNat, puA (M 23) (fun _ => 0) (M 21 5).toNat, M 23, M 26, M 11, M 12, 0) h.toNat).2.2.2.2.2.2 ≤ 0 + 12000 * ((h.toNat : Nat) : Int) ∧ (0 : Int) ≤ (dyG (M 10) (M 7) (TWf (M 7) (M 8) (M 9)) (M 22) (M 24) (M 25) (M 6 6).toNat (M 21 5).toNat ha bg 0 (gnA (M 11) (fun _ => 0) (M 6 6).toNat, puA (M 23) (fun _ => 0) (M 21 5).toNat, M 23, M 26, M 11, M 12, 0) h.toNat).2.2.2.2.2.2 := gd.2
      refine g_bipush (pc := 15) (x := 12) hK dd_X5_wholeDay_15 (by decide) ?_
      refine g_icmp_ge (pc := 17) (tgt := 38) hK dd_X5_wholeDay_17 (by decide) ⟨by omega, by omega⟩ (by decide) (fun c13 => ?_) (fun c13 => ?_)
      · refine g_iload (pc := 38) (i := 4) (x := tk) hK dd_X5_wholeDay_38 rfl ?_
        refine g_iret (pc := 40) hK hr hlocks dd_X5_wholeDay_40 rfl ?_
        exact g_fin (hQ _ _ _ _ _ _ _ trivial) (by rw [htk_, show h.toNat = 12 by omega]; exact tkg_G) rfl
      · refine g_iload (pc := 20) (i := 4) (x := tk) hK dd_X5_wholeDay_20 rfl ?_
        refine g_aloadn (pc := 22) (i := 0) (x := 87) hK dd_X5_wholeDay_22 rfl rfl ?_
        refine g_aloadn (pc := 23) (i := 1) (x := 5) hK dd_X5_wholeDay_23 rfl rfl ?_
        refine g_iload (pc := 24) (i := 5) (x := h) hK dd_X5_wholeDay_24 rfl ?_
        refine g_callV (pc := 26) (As := [gR 5, gI h]) hK ws_Sale_108 md_X5_playHour ⟨Nat.zero_le _, Nat.zero_le _⟩ ⟨by decide, by decide⟩ (kdm kd_87) rfl rfl dd_X5_wholeDay_26 rfl rfl (Nat.le_of_ble_eq_true rfl) (c_playHour h (dyG (M 10) (M 7) (TWf (M 7) (M 8) (M 9)) (M 22) (M 24) (M 25) (M 6 6).toNat (M 21 5).toNat ha bg 0 (gnA (M 11) (fun _ => 0) (M 6 6).toNat, puA (M 23) (fun _ => 0) (M 21 5).toNat, M 23, M 26, M 11, M 12, 0) h.toNat) ⟨by omega, by omega⟩ hc hbc hth hbu hI_ gd1 ⟨by omega, by omega⟩ (fun lc14 lf15 sb16 sp17 pu18 id19 h20 => g_r1 ?_))
        refine g_topI (fun yy eyy => ?_)
        replace eyy : yy = (hrG (M 10) (M 7) (TWf (M 7) (M 8) (M 9)) (M 22) (M 24) (M 25) (M 6 6).toNat ((us (us (us (M 87) 0 ha) 1 bg) 3 lc) 0) ((us (us (us (M 87) 0 ha) 1 bg) 3 lc) 1) h (dyG (M 10) (M 7) (TWf (M 7) (M 8) (M 9)) (M 22) (M 24) (M 25) (M 6 6).toNat (M 21 5).toNat ha bg 0 (gnA (M 11) (fun _ => 0) (M 6 6).toNat, puA (M 23) (fun _ => 0) (M 21 5).toNat, M 23, M 26, M 11, M 12, 0) h.toNat) (M 21 5).toNat).2.2.2.2.2.2 - (dyG (M 10) (M 7) (TWf (M 7) (M 8) (M 9)) (M 22) (M 24) (M 25) (M 6 6).toNat (M 21 5).toNat ha bg 0 (gnA (M 11) (fun _ => 0) (M 6 6).toNat, puA (M 23) (fun _ => 0) (M 21 5).toNat, M 23, M 26, M 11, M 12, 0) h.toNat).2.2.2.2.2.2 := eyy
        have hI2_ : SIv (M 11) (M 10) (M 7) (TWf (M 7) (M 8) (M 9)) (M 23) (M 26) (M 22) (M 24) (M 25) (M 6 6).toNat (M 21 5).toNat (M 12) lc14 lf15 tr sb16 sp17 pu18 id19 (hrG (M 10) (M 7) (TWf (M 7) (M 8) (M 9)) (M 22) (M 24) (M 25) (M 6 6).toNat ha bg h (dyG (M 10) (M 7) (TWf (M 7) (M 8) (M 9)) (M 22) (M 24) (M 25) (M 6 6).toNat (M 21 5).toNat ha bg 0 (gnA (M 11) (fun _ => 0) (M 6 6).toNat, puA (M 23) (fun _ => 0) (M 21 5).toNat, M 23, M 26, M 11, M 12, 0) h.toNat) (M 21 5).toNat) := h20
        have yy_ : yy = (hrG (M 10) (M 7) (TWf (M 7) (M 8) (M 9)) (M 22) (M 24) (M 25) (M 6 6).toNat ha bg h (dyG (M 10) (M 7) (TWf (M 7) (M 8) (M 9)) (M 22) (M 24) (M 25) (M 6 6).toNat (M 21 5).toNat ha bg 0 (gnA (M 11) (fun _ => 0) (M 6 6).toNat, puA (M 23) (fun _ => 0) (M 21 5).toNat, M 23, M 26, M 11, M 12, 0) h.toNat) (M 21 5).toNat).2.2.2.2.2.2 - (dyG (M 10) (M 7) (TWf (M 7) (M 8) (M 9)) (M 22) (M 24) (M 25) (M 6 6).toNat (M 21 5).toNat ha bg 0 (gnA (M 11) (fun _ => 0) (M 6 6).toNat, puA (M 23) (fun _ => 0) (M 21 5).toNat, M 23, M 26, M 11, M 12, 0) h.toNat).2.2.2.2.2.2 := eyy
        refine g_iadd (pc := 29) (z := tk + yy) hK dd_X5_wholeDay_29 rfl ?_
        refine g_istore (pc := 30) (i := 4) (L' := [(0, gR 87), (1, gR 5), (2, gI ha), (3, gI bg), (4, gI (tk + yy)), (5, gI h)]) hK dd_X5_wholeDay_30 (by decide) rfl ?_
        refine g_iinc (pc := 32) (i := 5) (y := h + 1) (L' := [(0, gR 87), (1, gR 5), (2, gI ha), (3, gI bg), (4, gI (tk + yy)), (5, gI (h + 1))]) hK dd_X5_wholeDay_32 rfl rfl (by decide) rfl ?_
        refine g_goto (pc := 35) (tgt := 13) hK dd_X5_wholeDay_35 (by decide) ?_
        refine g_sub (L' := [(0, gR 87), (1, gR 5), (2, gI ha), (3, gI bg), (4, gI (tk + yy)), (5, gI (h + 1))]) [0, 1, 2, 3, 4, 5] rfl ?_
        refine g_mem (M2 := sr (sr (sr (sr (sr (sr (sr M 87 (us (us (us (M 87) 0 ha) 1 bg) 3 lc14)) 88 lf15) 89 tr) 90 sb16) 91 sp17) 92 pu18) 93 id19) (by simp (disch := decide) only [Int.reduceToNat, up_sr, sr_cp, sr_k, sr_o, sr_sr, us_us, @sr_lt _ 88 87 _ _ (by decide), @sr_lt _ 89 87 _ _ (by decide), @sr_lt _ 89 88 _ _ (by decide), @sr_lt _ 90 87 _ _ (by decide), @sr_lt _ 90 88 _ _ (by decide), @sr_lt _ 90 89 _ _ (by decide), @sr_lt _ 91 87 _ _ (by decide), @sr_lt _ 91 88 _ _ (by decide), @sr_lt _ 91 89 _ _ (by decide), @sr_lt _ 91 90 _ _ (by decide), @sr_lt _ 92 87 _ _ (by decide), @sr_lt _ 92 88 _ _ (by decide), @sr_lt _ 92 89 _ _ (by decide), @sr_lt _ 92 90 _ _ (by decide), @sr_lt _ 92 91 _ _ (by decide), @sr_lt _ 93 87 _ _ (by decide), @sr_lt _ 93 88 _ _ (by decide), @sr_lt _ 93 89 _ _ (by decide), @sr_lt _ 93 90 _ _ (by decide), @sr_lt _ 93 91 _ _ (by decide), @sr_lt _ 93 92 _ _ (by decide)]; try rfl) ?_
        exact ih9 (tk + yy) (h + 1) lc14 lf15 tr sb16 sp17 pu18 id19 (by omega) (by rw [tn1 (t := h) (by omega)]; simp only [dyG]; rw [Int.zero_add, show ((h.toNat : Nat) : Int) = h by omega]; omega) (by rw [tn1 (t := h) (by omega)]; simp only [dyG]; rw [Int.zero_add, show ((h.toNat : Nat) : Int) = h by omega]; exact hI2_) (by omega)
  refine g_mem (M2 := sr (sr (sr (sr (sr (sr (sr M 87 (us (us (us (M 87) 0 ha) 1 bg) 3 lc1)) 88 lf2) 89 tr3) 90 sb4) 91 (M 91)) 92 pu5) 93 id6) (by congr 2; exact (sr_id (k := 91) rfl).symm) ?_
  refine g_sub (L' := [(0, gR 87), (1, gR 5), (2, gI ha), (3, gI bg), (4, gI 0), (5, gI 0)]) [0, 1, 2, 3, 4, 5] rfl ?_
  exact lp10 _ 0 0 lc1 lf2 tr3 sb4 (M 91) pu5 id6 (by omega) (rfl) (hI0_) (Nat.lt_succ_self _)
set_option maxHeartbeats 4000000 in
set_option maxRecDepth 100000 in
theorem c_settle {l : Launch} {M : Mem} {Pq : Option gV → Mem → Prop} (hc : 0 ≤ M 6 6 ∧ M 6 6 ≤ 30) (hbc : 0 ≤ M 21 5 ∧ M 21 5 ≤ 12) (hbu : buOK M) (hmn : mnOK M) (hsb : ∀ z, z < (M 6 6).toNat → M 90 z = -1 ∨ ((0 ≤ M 90 z ∧ M 90 z < M 21 5) ∧ -1 ≤ M 91 z ∧ M 91 z ≤ 999)) (hQ : Pq none (sr (sr (sr (sr M 11 (stB (M 90) (M 11) (M 6 6).toNat)) 12 (stD (M 90) (M 91) (M 12) (M 6 6).toNat)) 23 (stP (M 90) (M 91) (M 23) (M 6 6).toNat)) 26 (stM (M 90) (M 26) (M 6 6).toNat))) : gCtr l my_X5_settle mb_X5_settle 6 ((none : Option Jvm.ClassFile.FieldType)) 3 [gR 87, gR 5] M Pq := by
  refine g_intro (by decide) (Nat.le_of_ble_eq_true rfl) ?_
  intro p e s m args below meth c D cy q A hK hr hlocks hw
  refine g_sub (L' := [(0, gR 87), (1, gR 5)]) [0, 1] rfl ?_
  refine g_aloadn (pc := 0) (i := 1) (x := 5) hK dd_X5_settle_0 rfl rfl ?_
  refine g_getv (pc := 1) (f := (1, 1)) (j := 0) (v := gR 6) hK (kdm kd_5) rfl ef_1 (by decide) rfl kk_259 dd_X5_settle_1 rfl ?_
  refine g_astoren (pc := 4) (i := 2) (L' := [(0, gR 87), (1, gR 5), (2, gR 6)]) hK dd_X5_settle_4 rfl (by decide) rfl ?_
  refine g_aloadn (pc := 5) (i := 1) (x := 5) hK dd_X5_settle_5 rfl rfl ?_
  refine g_getv (pc := 6) (f := (1, 16)) (j := 3) (v := gR 21) hK (kdm kd_5) rfl ef_1 (by decide) rfl kk_266 dd_X5_settle_6 rfl ?_
  refine g_astoren (pc := 9) (i := 3) (L' := [(0, gR 87), (1, gR 5), (2, gR 6), (3, gR 21)]) hK dd_X5_settle_9 rfl (by decide) rfl ?_
  refine g_iconst (pc := 10) (x := 0) hK dd_X5_settle_10 (by decide) ?_
  refine g_istore (pc := 11) (i := 4) (L' := [(0, gR 87), (1, gR 5), (2, gR 6), (3, gR 21), (4, gI 0)]) hK dd_X5_settle_11 (by decide) rfl ?_
  have lp3 : ∀ (n1 : Nat) (t : Int), (0 ≤ t ∧ t ≤ M 6 6) → (M 6 6 - t).toNat < n1 → G p l e (rmD 3) s m args below meth c D cy q A 0 0 6 (MQ below (gQc D cy q A Pq) args s 0 0 A) 13 [(0, gR 87), (1, gR 5), (2, gR 6), (3, gR 21), (4, gI t)] [] (sr (sr (sr (sr M 11 (stB (M 90) (M 11) t.toNat)) 12 (stD (M 90) (M 91) (M 12) t.toNat)) 23 (stP (M 90) (M 91) (M 23) t.toNat)) 26 (stM (M 90) (M 26) t.toNat)) := by
    intro n1
    induction n1 with
    | zero => intro t iv4 hm5; exact absurd hm5 (Nat.not_lt_zero _)
    | succ n1 ih2 =>
      intro t iv4 hm5
      refine g_iload (pc := 13) (i := 4) (x := t) hK dd_X5_settle_13 rfl ?_
      refine g_aloadn (pc := 15) (i := 2) (x := 6) hK dd_X5_settle_15 rfl rfl ?_
      refine g_geti (pc := 16) (f := (0, 0)) (j := 6) hK (kdm kd_6) rfl ef_10 (by decide) rfl kk_88 nl_6 dd_X5_settle_16 rfl (fun x6 ex6 rx6 => ?_)
      replace ex6 : x6 = M 6 6 := ex6
      refine g_icmp_ge (pc := 19) (tgt := 97) hK dd_X5_settle_19 (by decide) ⟨by omega, by omega⟩ rx6 (fun c7 => ?_) (fun c7 => ?_)
      · refine g_vret (pc := 97) hK hr hlocks dd_X5_settle_97 ?_
        exact g_finM hQ (by rw [show M 6 6 = t by omega])
      · have hsz := hsb t.toNat (by omega)
        refine g_aloadn (pc := 22) (i := 0) (x := 87) hK dd_X5_settle_22 rfl rfl ?_
        refine g_getv (pc := 23) (f := (1, 3)) (j := 5) (v := gR 90) hK (kdm kd_87) rfl ef_5 (by decide) rfl kk_327 dd_X5_settle_23 rfl ?_
        refine g_iload (pc := 26) (i := 4) (x := t) hK dd_X5_settle_26 rfl ?_
        refine g_iald (pc := 28) hK (kdm kd_90) nl_90 (by decide) dd_X5_settle_28 (by omega) (by omega) (fun x8 ex8 rx8 => ?_)
        replace ex8 : x8 = M 90 t.toNat := ex8
        refine g_istore (pc := 29) (i := 5) (L' := [(0, gR 87), (1, gR 5), (2, gR 6), (3, gR 21), (4, gI t), (5, gI x8)]) hK dd_X5_settle_29 (by decide) rfl ?_
        refine g_aloadn (pc := 31) (i := 3) (x := 21) hK dd_X5_settle_31 rfl rfl ?_
        refine g_iload (pc := 32) (i := 5) (x := x8) hK dd_X5_settle_32 rfl ?_
        refine g_callV (pc := 34) (As := [gI x8]) hK ws_Sale_115 md_X0_has ⟨Nat.zero_le _, Nat.zero_le _⟩ ⟨by decide, by decide⟩ (kdm kd_21) rfl rfl dd_X5_settle_34 rfl rfl (Nat.le_of_ble_eq_true rfl) (c_has_21 x8 rx8 (show 0 ≤ M 21 5 ∧ M 21 5 ≤ 12 by omega) (fun c9 => g_r1 ?_) (fun c9 => g_r1 ?_))
        · refine g_if_eq (pc := 37) (tgt := 91) hK dd_X5_settle_37 (by decide) (by decide) (fun c10 => absurd c10 (by decide)) (fun _ => ?_)
          have hcx_ : 0 ≤ x8 ∧ x8 < M 21 5 := c9
          have hz1 := fun (z : Nat) (hz : z < t.toNat) => hsb z (by omega)
          have hs1 := smB_in (sb := M 90) (sp := M 91) (b := ((x8.toNat : Nat) : Int)) t.toNat (fun z hz e => by rcases hz1 z hz with g | g <;> omega)
          have hs2 := smB_in (sb := M 90) (sp := fun _ => 1) (b := ((x8.toNat : Nat) : Int)) t.toNat (fun z hz e => by omega)
          have hbz := hbu x8.toNat (by omega)
          have hmz := hmn x8.toNat (by omega)
          refine g_aloadn (pc := 40) (i := 2) (x := 6) hK dd_X5_settle_40 rfl rfl ?_
          refine g_getv (pc := 41) (f := (1, 5)) (j := 4) (v := gR 11) hK (kdm kd_6) rfl ef_10 (by decide) rfl kk_80 dd_X5_settle_41 rfl ?_
          refine g_iload (pc := 44) (i := 4) (x := t) hK dd_X5_settle_44 rfl ?_
          refine g_iload (pc := 46) (i := 5) (x := x8) hK dd_X5_settle_46 rfl ?_
          refine g_iast (pc := 48) hK (kdm kd_11) nl_11 (by decide) (by decide) dd_X5_settle_48 (by omega) (by omega) rx8 ?_
          refine g_aloadn (pc := 49) (i := 2) (x := 6) hK dd_X5_settle_49 rfl rfl ?_
          refine g_getv (pc := 50) (f := (1, 6)) (j := 5) (v := gR 12) hK (kdm kd_6) rfl ef_10 (by decide) rfl kk_84 dd_X5_settle_50 rfl ?_
          refine g_iload (pc := 53) (i := 4) (x := t) hK dd_X5_settle_53 rfl ?_
          refine g_aloadn (pc := 55) (i := 0) (x := 87) hK dd_X5_settle_55 rfl rfl ?_
          refine g_getv (pc := 56) (f := (1, 4)) (j := 6) (v := gR 91) hK (kdm kd_87) rfl ef_5 (by decide) rfl kk_328 dd_X5_settle_56 rfl ?_
          refine g_iload (pc := 59) (i := 4) (x := t) hK dd_X5_settle_59 rfl ?_
          refine g_iald (pc := 61) hK (kdm kd_91) nl_91 (by decide) dd_X5_settle_61 (by omega) (by omega) (fun x11 ex11 rx11 => ?_)
          replace ex11 : x11 = M 91 t.toNat := ex11
          refine g_iast (pc := 62) hK (kdm kd_12) nl_12 (by decide) (by decide) dd_X5_settle_62 (by omega) (by omega) rx11 ?_
          refine g_aloadn (pc := 63) (i := 3) (x := 21) hK dd_X5_settle_63 rfl rfl ?_
          refine g_getv (pc := 64) (f := (1, 2)) (j := 1) (v := gR 23) hK (kdm kd_21) rfl ef_0 (by decide) rfl kk_163 dd_X5_settle_64 rfl ?_
          refine g_iload (pc := 67) (i := 5) (x := x8) hK dd_X5_settle_67 rfl ?_
          refine g_dup2 (pc := 69) hK dd_X5_settle_69 rfl rfl ?_
          refine g_iald (pc := 70) hK (kdm kd_23) nl_23 (by decide) dd_X5_settle_70 (by omega) (by omega) (fun x12 ex12 rx12 => ?_)
          replace ex12 : x12 = (stP (M 90) (M 91) (M 23) t.toNat) x8.toNat := by first | exact ex12 | (rw [ex12]; simp [up, us, cp, sr])
          have hq70 := ex12
          unfold stP at hq70
          refine g_aloadn (pc := 71) (i := 0) (x := 87) hK dd_X5_settle_71 rfl rfl ?_
          refine g_getv (pc := 72) (f := (1, 4)) (j := 6) (v := gR 91) hK (kdm kd_87) rfl ef_5 (by decide) rfl kk_328 dd_X5_settle_72 rfl ?_
          refine g_iload (pc := 75) (i := 4) (x := t) hK dd_X5_settle_75 rfl ?_
          refine g_iald (pc := 77) hK (kdm kd_91) nl_91 (by decide) dd_X5_settle_77 (by omega) (by omega) (fun x13 ex13 rx13 => ?_)
          replace ex13 : x13 = M 91 t.toNat := ex13
          refine g_isub (pc := 78) (z := x12 - x13) hK dd_X5_settle_78 rfl ?_
          refine g_iast (pc := 79) hK (kdm kd_23) nl_23 (by decide) (by decide) dd_X5_settle_79 (by omega) (by omega) ⟨by omega, by omega⟩ ?_
          refine g_aloadn (pc := 80) (i := 3) (x := 21) hK dd_X5_settle_80 rfl rfl ?_
          refine g_getv (pc := 81) (f := (1, 5)) (j := 4) (v := gR 26) hK (kdm kd_21) rfl ef_0 (by decide) rfl kk_172 dd_X5_settle_81 rfl ?_
          refine g_iload (pc := 84) (i := 5) (x := x8) hK dd_X5_settle_84 rfl ?_
          refine g_dup2 (pc := 86) hK dd_X5_settle_86 rfl rfl ?_
          refine g_iald (pc := 87) hK (kdm kd_26) nl_26 (by decide) dd_X5_settle_87 (by omega) (by omega) (fun x14 ex14 rx14 => ?_)
          replace ex14 : x14 = (stM (M 90) (M 26) t.toNat) x8.toNat := by first | exact ex14 | (rw [ex14]; simp [up, us, cp, sr])
          have hq87 := ex14
          unfold stM at hq87
          refine g_iconst (pc := 88) (x := 1) hK dd_X5_settle_88 (by decide) ?_
          refine g_iadd (pc := 89) (z := x14 + 1) hK dd_X5_settle_89 rfl ?_
          refine g_iast (pc := 90) hK (kdm kd_26) nl_26 (by decide) (by decide) dd_X5_settle_90 (by omega) (by omega) ⟨by omega, by omega⟩ ?_
          skip
          refine g_iinc (pc := 91) (i := 4) (y := t + 1) (L' := [(0, gR 87), (1, gR 5), (2, gR 6), (3, gR 21), (4, gI (t + 1)), (5, gI x8)]) hK dd_X5_settle_91 rfl rfl (by decide) rfl ?_
          refine g_goto (pc := 94) (tgt := 13) hK dd_X5_settle_94 (by decide) ?_
          refine g_sub (L' := [(0, gR 87), (1, gR 5), (2, gR 6), (3, gR 21), (4, gI (t + 1))]) [0, 1, 2, 3, 4] rfl ?_
          refine g_mem (M2 := sr (sr (sr (sr M 11 (stB (M 90) (M 11) (t + 1).toNat)) 12 (stD (M 90) (M 91) (M 12) (t + 1).toNat)) 23 (stP (M 90) (M 91) (M 23) (t + 1).toNat)) 26 (stM (M 90) (M 26) (t + 1).toNat)) (by rw [tn1 (t := t) (by omega)]; first | (rw [stB_n (by omega), stD_n (by omega), stP_n (by omega), stM_n (by omega)]) | (rw [stB_y (by omega), stD_y (by omega), stP_y (by omega), stM_y (by omega)]; subst_vars; simp (disch := decide) only [Int.reduceToNat, up_sr, sr_cp, sr_k, sr_o, sr_sr, us_us, @sr_lt _ 12 11 _ _ (by decide), @sr_lt _ 23 11 _ _ (by decide), @sr_lt _ 23 12 _ _ (by decide), @sr_lt _ 26 11 _ _ (by decide), @sr_lt _ 26 12 _ _ (by decide), @sr_lt _ 26 23 _ _ (by decide)]; try rfl)) ?_
          exact ih2 (t + 1) (by omega) (by omega)
        · refine g_if_eq (pc := 37) (tgt := 91) hK dd_X5_settle_37 (by decide) (by decide) (fun _ => ?_) (fun c15 => absurd (by decide) c15)
          have hcx_ : ¬ (0 ≤ x8 ∧ x8 < M 21 5) := c9
          refine g_iinc (pc := 91) (i := 4) (y := t + 1) (L' := [(0, gR 87), (1, gR 5), (2, gR 6), (3, gR 21), (4, gI (t + 1)), (5, gI x8)]) hK dd_X5_settle_91 rfl rfl (by decide) rfl ?_
          refine g_goto (pc := 94) (tgt := 13) hK dd_X5_settle_94 (by decide) ?_
          refine g_sub (L' := [(0, gR 87), (1, gR 5), (2, gR 6), (3, gR 21), (4, gI (t + 1))]) [0, 1, 2, 3, 4] rfl ?_
          refine g_mem (M2 := sr (sr (sr (sr M 11 (stB (M 90) (M 11) (t + 1).toNat)) 12 (stD (M 90) (M 91) (M 12) (t + 1).toNat)) 23 (stP (M 90) (M 91) (M 23) (t + 1).toNat)) 26 (stM (M 90) (M 26) (t + 1).toNat)) (by rw [tn1 (t := t) (by omega)]; first | (rw [stB_n (by omega), stD_n (by omega), stP_n (by omega), stM_n (by omega)]) | (rw [stB_y (by omega), stD_y (by omega), stP_y (by omega), stM_y (by omega)]; subst_vars; simp (disch := decide) only [Int.reduceToNat, up_sr, sr_cp, sr_k, sr_o, sr_sr, us_us, @sr_lt _ 12 11 _ _ (by decide), @sr_lt _ 23 11 _ _ (by decide), @sr_lt _ 23 12 _ _ (by decide), @sr_lt _ 26 11 _ _ (by decide), @sr_lt _ 26 12 _ _ (by decide), @sr_lt _ 26 23 _ _ (by decide)]; try rfl)) ?_
          exact ih2 (t + 1) (by omega) (by omega)
  refine g_mem (M2 := sr (sr (sr (sr M 11 (stB (M 90) (M 11) (0 : Int).toNat)) 12 (stD (M 90) (M 91) (M 12) (0 : Int).toNat)) 23 (stP (M 90) (M 91) (M 23) (0 : Int).toNat)) 26 (stM (M 90) (M 26) (0 : Int).toNat)) (by show M = sr (sr (sr (sr M 11 (stB (M 90) (M 11) 0)) 12 (stD (M 90) (M 91) (M 12) 0)) 23 (stP (M 90) (M 91) (M 23) 0)) 26 (stM (M 90) (M 26) 0); rw [stB_0, stD_0, stP_0, stM_0, sr_self, sr_self, sr_self]; exact sr_self.symm) ?_
  refine g_sub (L' := [(0, gR 87), (1, gR 5), (2, gR 6), (3, gR 21), (4, gI 0)]) [0, 1, 2, 3, 4] rfl ?_
  exact lp3 _ 0 (by omega) (Nat.lt_succ_self _)
set_option maxHeartbeats 4000000 in
set_option maxRecDepth 100000 in
theorem c_bestTurns {l : Launch} {M : Mem} {Pq : Option gV → Mem → Prop} (hc : 0 ≤ M 6 6 ∧ M 6 6 ≤ 30) (hbc : 0 ≤ M 21 5 ∧ M 21 5 ≤ 12) (hth : thOK M) (hbu : buOK M) (hmn : mnOK M) (hQ : ∀ (A1 : Nat → Int) (A2 : Nat → Int) (A3 : Nat → Int) (A4 : Nat → Int) (A5 : Nat → Int) (A6 : Nat → Int) (A7 : Nat → Int), True → Pq (some (gI ((bxO (tkg (M 10) (M 7) (TWf (M 7) (M 8) (M 9)) (M 22) (M 24) (M 25) (M 11) (M 23) (M 6 6).toNat (M 21 5).toNat) 13).1))) (sr (sr (sr (sr (sr (sr (sr M 87 A1) 88 A2) 89 A3) 90 A4) 91 A5) 92 A6) 93 A7)) : gCtr l my_X5_bestTurns mb_X5_bestTurns 7 ((some .int)) 6 [gR 87, gR 5] M Pq := by
  refine g_intro (by decide) (Nat.le_of_ble_eq_true rfl) ?_
  intro p e s m args below meth c D cy q A hK hr hlocks hw
  refine g_sub (L' := [(0, gR 87), (1, gR 5)]) [0, 1] rfl ?_
  have hfr : ∀ a c, 0 ≤ (tkg (M 10) (M 7) (TWf (M 7) (M 8) (M 9)) (M 22) (M 24) (M 25) (M 11) (M 23) (M 6 6).toNat (M 21 5).toNat) a c ∧ (tkg (M 10) (M 7) (TWf (M 7) (M 8) (M 9)) (M 22) (M 24) (M 25) (M 11) (M 23) (M 6 6).toNat (M 21 5).toNat) a c ≤ 144000 := fun a c => tkg_in (fun j hj => Px_in hth j (by omega)) (fun b hb => (hbu b (by omega)).2.1) (by omega)
  refine g_iconst (pc := 0) (x := (-1)) hK dd_X5_bestTurns_0 (by decide) ?_
  refine g_istoren (pc := 1) (i := 2) (L' := [(0, gR 87), (1, gR 5), (2, gI (-1))]) hK dd_X5_bestTurns_1 rfl (by decide) rfl ?_
  refine g_iconst (pc := 2) (x := (-1)) hK dd_X5_bestTurns_2 (by decide) ?_
  refine g_istoren (pc := 3) (i := 3) (L' := [(0, gR 87), (1, gR 5), (2, gI (-1)), (3, gI (-1))]) hK dd_X5_bestTurns_3 rfl (by decide) rfl ?_
  refine g_bipush (pc := 4) (x := 12) hK dd_X5_bestTurns_4 (by decide) ?_
  refine g_istore (pc := 6) (i := 4) (L' := [(0, gR 87), (1, gR 5), (2, gI (-1)), (3, gI (-1)), (4, gI 12)]) hK dd_X5_bestTurns_6 (by decide) rfl ?_
  have lp3 : ∀ (n1 : Nat) (f : Int) (w : Int) (h : Int) (A1 : Nat → Int) (A2 : Nat → Int) (A3 : Nat → Int) (A4 : Nat → Int) (A5 : Nat → Int) (A6 : Nat → Int) (A7 : Nat → Int), (-1 ≤ h ∧ h ≤ 12) → (f = (bxO (tkg (M 10) (M 7) (TWf (M 7) (M 8) (M 9)) (M 22) (M 24) (M 25) (M 11) (M 23) (M 6 6).toNat (M 21 5).toNat) (12 - h).toNat).1) → (w = (bxO (tkg (M 10) (M 7) (TWf (M 7) (M 8) (M 9)) (M 22) (M 24) (M 25) (M 11) (M 23) (M 6 6).toNat (M 21 5).toNat) (12 - h).toNat).2) → (h + 1).toNat < n1 → G p l e (rmD 6) s m args below meth c D cy q A 0 0 7 (MQ below (gQc D cy q A Pq) args s 0 0 A) 8 [(0, gR 87), (1, gR 5), (2, gI f), (3, gI w), (4, gI h)] [] (sr (sr (sr (sr (sr (sr (sr M 87 A1) 88 A2) 89 A3) 90 A4) 91 A5) 92 A6) 93 A7) := by
    intro n1
    induction n1 with
    | zero => intro f w h A1 A2 A3 A4 A5 A6 A7 iv4 e1_ e2_ hm5; exact absurd hm5 (Nat.not_lt_zero _)
    | succ n1 ih2 =>
      intro f w h A1 A2 A3 A4 A5 A6 A7 iv4 e1_ e2_ hm5
      refine g_iload (pc := 8) (i := 4) (x := h) hK dd_X5_bestTurns_8 rfl ?_
      refine g_if_lt (pc := 10) (tgt := 65) hK dd_X5_bestTurns_10 (by decide) ⟨by omega, by omega⟩ (fun c6 => ?_) (fun c6 => ?_)
      · refine g_iloadn (pc := 65) (i := 2) (x := f) hK dd_X5_bestTurns_65 rfl rfl ?_
        refine g_iret (pc := 66) hK hr hlocks dd_X5_bestTurns_66 rfl ?_
        exact g_fin (hQ _ _ _ _ _ _ _ trivial) (by rw [e1_, show (12 - h).toNat = 13 by omega]) rfl
      · refine g_bipush (pc := 13) (x := 12) hK dd_X5_bestTurns_13 (by decide) ?_
        refine g_istore (pc := 15) (i := 5) (L' := [(0, gR 87), (1, gR 5), (2, gI f), (3, gI w), (4, gI h), (5, gI 12)]) hK dd_X5_bestTurns_15 (by decide) rfl ?_
        have lp9 : ∀ (n7 : Nat) (f1 : Int) (w1 : Int) (g : Int) (B1 : Nat → Int) (B2 : Nat → Int) (B3 : Nat → Int) (B4 : Nat → Int) (B5 : Nat → Int) (B6 : Nat → Int) (B7 : Nat → Int), (h - 1 ≤ g ∧ g ≤ 12) → (f1 = (bxI (tkg (M 10) (M 7) (TWf (M 7) (M 8) (M 9)) (M 22) (M 24) (M 25) (M 11) (M 23) (M 6 6).toNat (M 21 5).toNat) h (bxO (tkg (M 10) (M 7) (TWf (M 7) (M 8) (M 9)) (M 22) (M 24) (M 25) (M 11) (M 23) (M 6 6).toNat (M 21 5).toNat) (12 - h).toNat) (12 - g).toNat).1) → (w1 = (bxI (tkg (M 10) (M 7) (TWf (M 7) (M 8) (M 9)) (M 22) (M 24) (M 25) (M 11) (M 23) (M 6 6).toNat (M 21 5).toNat) h (bxO (tkg (M 10) (M 7) (TWf (M 7) (M 8) (M 9)) (M 22) (M 24) (M 25) (M 11) (M 23) (M 6 6).toNat (M 21 5).toNat) (12 - h).toNat) (12 - g).toNat).2) → (g + 1).toNat < n7 → G p l e (rmD 6) s m args below meth c D cy q A 0 0 7 (MQ below (gQc D cy q A Pq) args s 0 0 A) 17 [(0, gR 87), (1, gR 5), (2, gI f1), (3, gI w1), (4, gI h), (5, gI g)] [] (sr (sr (sr (sr (sr (sr (sr M 87 B1) 88 B2) 89 B3) 90 B4) 91 B5) 92 B6) 93 B7) := by
          intro n7
          induction n7 with
          | zero => intro f1 w1 g B1 B2 B3 B4 B5 B6 B7 iv10 e3_ e4_ hm11; exact absurd hm11 (Nat.not_lt_zero _)
          | succ n7 ih8 =>
            intro f1 w1 g B1 B2 B3 B4 B5 B6 B7 iv10 e3_ e4_ hm11
            refine g_iload (pc := 17) (i := 5) (x := g) hK dd_X5_bestTurns_17 rfl ?_
            have hwr := bxI_in hfr (h := h) (bxO_in hfr (12 - h).toNat) (12 - g).toNat
            refine g_iload (pc := 19) (i := 4) (x := h) hK dd_X5_bestTurns_19 rfl ?_
            refine g_icmp_lt (pc := 21) (tgt := 59) hK dd_X5_bestTurns_21 (by decide) ⟨by omega, by omega⟩ ⟨by omega, by omega⟩ (fun c12 => ?_) (fun c12 => ?_)
            · refine g_iinc (pc := 59) (i := 4) (y := h - 1) (L' := [(0, gR 87), (1, gR 5), (2, gI f1), (3, gI w1), (4, gI (h - 1)), (5, gI g)]) hK dd_X5_bestTurns_59 rfl (by omega) (by decide) rfl ?_
              refine g_goto (pc := 62) (tgt := 8) hK dd_X5_bestTurns_62 (by decide) ?_
              refine g_sub (L' := [(0, gR 87), (1, gR 5), (2, gI f1), (3, gI w1), (4, gI (h - 1))]) [0, 1, 2, 3, 4] rfl ?_
              refine g_mem (M2 := sr (sr (sr (sr (sr (sr (sr M 87 B1) 88 B2) 89 B3) 90 B4) 91 B5) 92 B6) 93 B7) (rfl) ?_
              exact ih2 f1 w1 (h - 1) B1 B2 B3 B4 B5 B6 B7 (by omega) (by rw [show (12 - (h - 1)).toNat = (12 - h).toNat + 1 by omega]; simp only [bxO]; rw [show (12 : Int) - (((12 - h).toNat : Nat) : Int) = h by omega, show (12 - h).toNat + 1 = (12 - g).toNat by omega]; assumption) (by rw [show (12 - (h - 1)).toNat = (12 - h).toNat + 1 by omega]; simp only [bxO]; rw [show (12 : Int) - (((12 - h).toNat : Nat) : Int) = h by omega, show (12 - h).toNat + 1 = (12 - g).toNat by omega]; assumption) (by omega)
            · refine g_aloadn (pc := 24) (i := 0) (x := 87) hK dd_X5_bestTurns_24 rfl rfl ?_
              refine g_aloadn (pc := 25) (i := 1) (x := 5) hK dd_X5_bestTurns_25 rfl rfl ?_
              refine g_iload (pc := 26) (i := 4) (x := h) hK dd_X5_bestTurns_26 rfl ?_
              refine g_iload (pc := 28) (i := 5) (x := g) hK dd_X5_bestTurns_28 rfl ?_
              refine g_callV (pc := 30) (As := [gR 5, gI h, gI g]) hK ws_Sale_112 md_X5_wholeDay ⟨Nat.zero_le _, Nat.zero_le _⟩ ⟨by decide, by decide⟩ (kdm kd_87) rfl rfl dd_X5_bestTurns_30 rfl rfl (Nat.le_of_ble_eq_true rfl) (c_wholeDay h g ⟨by omega, by omega⟩ ⟨by omega, by omega⟩ hc hbc hth hbu hmn (fun A13 A14 A15 A16 A17 A18 A19 h20 => g_r1 ?_))
              refine g_topI (fun su esu => ?_)
              replace esu : su = tkg (M 10) (M 7) (TWf (M 7) (M 8) (M 9)) (M 22) (M 24) (M 25) (M 11) (M 23) (M 6 6).toNat (M 21 5).toNat h g := esu
              refine g_istore (pc := 33) (i := 6) (L' := [(0, gR 87), (1, gR 5), (2, gI f1), (3, gI w1), (4, gI h), (5, gI g), (6, gI su)]) hK dd_X5_bestTurns_33 (by decide) rfl ?_
              have hsr := hfr h g
              refine g_iload (pc := 35) (i := 6) (x := su) hK dd_X5_bestTurns_35 rfl ?_
              refine g_iloadn (pc := 37) (i := 3) (x := w1) hK dd_X5_bestTurns_37 rfl rfl ?_
              refine g_icmp_le (pc := 38) (tgt := 53) hK dd_X5_bestTurns_38 (by decide) ⟨by omega, by omega⟩ ⟨by omega, by omega⟩ (fun c21 => ?_) (fun c21 => ?_)
              · refine g_iinc (pc := 53) (i := 5) (y := g - 1) (L' := [(0, gR 87), (1, gR 5), (2, gI f1), (3, gI w1), (4, gI h), (5, gI (g - 1)), (6, gI su)]) hK dd_X5_bestTurns_53 rfl (by omega) (by decide) rfl ?_
                refine g_goto (pc := 56) (tgt := 17) hK dd_X5_bestTurns_56 (by decide) ?_
                refine g_sub (L' := [(0, gR 87), (1, gR 5), (2, gI f1), (3, gI w1), (4, gI h), (5, gI (g - 1))]) [0, 1, 2, 3, 4, 5] rfl ?_
                refine g_mem (M2 := sr (sr (sr (sr (sr (sr (sr M 87 A13) 88 A14) 89 A15) 90 A16) 91 A17) 92 A18) 93 A19) (by simp (disch := decide) only [Int.reduceToNat, up_sr, sr_cp, sr_k, sr_o, sr_sr, us_us, @sr_lt _ 88 87 _ _ (by decide), @sr_lt _ 89 87 _ _ (by decide), @sr_lt _ 89 88 _ _ (by decide), @sr_lt _ 90 87 _ _ (by decide), @sr_lt _ 90 88 _ _ (by decide), @sr_lt _ 90 89 _ _ (by decide), @sr_lt _ 91 87 _ _ (by decide), @sr_lt _ 91 88 _ _ (by decide), @sr_lt _ 91 89 _ _ (by decide), @sr_lt _ 91 90 _ _ (by decide), @sr_lt _ 92 87 _ _ (by decide), @sr_lt _ 92 88 _ _ (by decide), @sr_lt _ 92 89 _ _ (by decide), @sr_lt _ 92 90 _ _ (by decide), @sr_lt _ 92 91 _ _ (by decide), @sr_lt _ 93 87 _ _ (by decide), @sr_lt _ 93 88 _ _ (by decide), @sr_lt _ 93 89 _ _ (by decide), @sr_lt _ 93 90 _ _ (by decide), @sr_lt _ 93 91 _ _ (by decide), @sr_lt _ 93 92 _ _ (by decide)]; try rfl) ?_
                exact ih8 f1 w1 (g - 1) A13 A14 A15 A16 A17 A18 A19 (by omega) (by rw [show (12 - (g - 1)).toNat = (12 - g).toNat + 1 by omega]; simp only [bxI]; rw [show (12 : Int) - (((12 - g).toNat : Nat) : Int) = g by omega]; first | (rw [if_pos (by omega)]; done) | (rw [if_pos (by omega)]; first | rfl | assumption | (simp only; omega)) | (rw [if_neg (by omega)]; assumption)) (by rw [show (12 - (g - 1)).toNat = (12 - g).toNat + 1 by omega]; simp only [bxI]; rw [show (12 : Int) - (((12 - g).toNat : Nat) : Int) = g by omega]; first | (rw [if_pos (by omega)]; done) | (rw [if_pos (by omega)]; first | rfl | assumption | (simp only; omega)) | (rw [if_neg (by omega)]; assumption)) (by omega)
              · refine g_bipush (pc := 41) (x := 100) hK dd_X5_bestTurns_41 (by decide) ?_
                refine g_iload (pc := 43) (i := 4) (x := h) hK dd_X5_bestTurns_43 rfl ?_
                refine g_imul (pc := 45) (z := 100 * h) hK dd_X5_bestTurns_45 rfl ?_
                refine g_iload (pc := 46) (i := 5) (x := g) hK dd_X5_bestTurns_46 rfl ?_
                refine g_iadd (pc := 48) (z := (100 * h) + g) hK dd_X5_bestTurns_48 rfl ?_
                refine g_istoren (pc := 49) (i := 2) (L' := [(0, gR 87), (1, gR 5), (2, gI ((100 * h) + g)), (3, gI w1), (4, gI h), (5, gI g), (6, gI su)]) hK dd_X5_bestTurns_49 rfl (by decide) rfl ?_
                refine g_iload (pc := 50) (i := 6) (x := su) hK dd_X5_bestTurns_50 rfl ?_
                refine g_istoren (pc := 52) (i := 3) (L' := [(0, gR 87), (1, gR 5), (2, gI ((100 * h) + g)), (3, gI su), (4, gI h), (5, gI g), (6, gI su)]) hK dd_X5_bestTurns_52 rfl (by decide) rfl ?_
                refine g_iinc (pc := 53) (i := 5) (y := g - 1) (L' := [(0, gR 87), (1, gR 5), (2, gI ((100 * h) + g)), (3, gI su), (4, gI h), (5, gI (g - 1)), (6, gI su)]) hK dd_X5_bestTurns_53 rfl (by omega) (by decide) rfl ?_
                refine g_goto (pc := 56) (tgt := 17) hK dd_X5_bestTurns_56 (by decide) ?_
                refine g_sub (L' := [(0, gR 87), (1, gR 5), (2, gI ((100 * h) + g)), (3, gI su), (4, gI h), (5, gI (g - 1))]) [0, 1, 2, 3, 4, 5] rfl ?_
                refine g_mem (M2 := sr (sr (sr (sr (sr (sr (sr M 87 A13) 88 A14) 89 A15) 90 A16) 91 A17) 92 A18) 93 A19) (by simp (disch := decide) only [Int.reduceToNat, up_sr, sr_cp, sr_k, sr_o, sr_sr, us_us, @sr_lt _ 88 87 _ _ (by decide), @sr_lt _ 89 87 _ _ (by decide), @sr_lt _ 89 88 _ _ (by decide), @sr_lt _ 90 87 _ _ (by decide), @sr_lt _ 90 88 _ _ (by decide), @sr_lt _ 90 89 _ _ (by decide), @sr_lt _ 91 87 _ _ (by decide), @sr_lt _ 91 88 _ _ (by decide), @sr_lt _ 91 89 _ _ (by decide), @sr_lt _ 91 90 _ _ (by decide), @sr_lt _ 92 87 _ _ (by decide), @sr_lt _ 92 88 _ _ (by decide), @sr_lt _ 92 89 _ _ (by decide), @sr_lt _ 92 90 _ _ (by decide), @sr_lt _ 92 91 _ _ (by decide), @sr_lt _ 93 87 _ _ (by decide), @sr_lt _ 93 88 _ _ (by decide), @sr_lt _ 93 89 _ _ (by decide), @sr_lt _ 93 90 _ _ (by decide), @sr_lt _ 93 91 _ _ (by decide), @sr_lt _ 93 92 _ _ (by decide)]; try rfl) ?_
                exact ih8 ((100 * h) + g) su (g - 1) A13 A14 A15 A16 A17 A18 A19 (by omega) (by rw [show (12 - (g - 1)).toNat = (12 - g).toNat + 1 by omega]; simp only [bxI]; rw [show (12 : Int) - (((12 - g).toNat : Nat) : Int) = g by omega]; first | (rw [if_pos (by omega)]; done) | (rw [if_pos (by omega)]; first | rfl | assumption | (simp only; omega)) | (rw [if_neg (by omega)]; assumption)) (by rw [show (12 - (g - 1)).toNat = (12 - g).toNat + 1 by omega]; simp only [bxI]; rw [show (12 : Int) - (((12 - g).toNat : Nat) : Int) = g by omega]; first | (rw [if_pos (by omega)]; done) | (rw [if_pos (by omega)]; first | rfl | assumption | (simp only; omega)) | (rw [if_neg (by omega)]; assumption)) (by omega)
        refine g_mem (M2 := sr (sr (sr (sr (sr (sr (sr M 87 A1) 88 A2) 89 A3) 90 A4) 91 A5) 92 A6) 93 A7) (rfl) ?_
        refine g_sub (L' := [(0, gR 87), (1, gR 5), (2, gI f), (3, gI w), (4, gI h), (5, gI 12)]) [0, 1, 2, 3, 4, 5] rfl ?_
        exact lp9 _ f w 12 A1 A2 A3 A4 A5 A6 A7 (by omega) (by rw [show (12 - 12 : Int).toNat = 0 by decide]; assumption) (by rw [show (12 - 12 : Int).toNat = 0 by decide]; assumption) (Nat.lt_succ_self _)
  refine g_mem (M2 := sr (sr (sr (sr (sr (sr (sr M 87 (M 87)) 88 (M 88)) 89 (M 89)) 90 (M 90)) 91 (M 91)) 92 (M 92)) 93 (M 93)) (by rw [sr_self, sr_self, sr_self, sr_self, sr_self, sr_self]; exact sr_self.symm) ?_
  refine g_sub (L' := [(0, gR 87), (1, gR 5), (2, gI (-1)), (3, gI (-1)), (4, gI 12)]) [0, 1, 2, 3, 4] rfl ?_
  exact lp3 _ (-1) (-1) 12 (M 87) (M 88) (M 89) (M 90) (M 91) (M 92) (M 93) (by omega) (rfl) (rfl) (Nat.lt_succ_self _)
set_option maxHeartbeats 4000000 in
set_option maxRecDepth 100000 in
theorem x_costs {l : Launch} {M : Mem} {Pq : Option gV → Mem → Prop} (t : Int) (h : Int) (h_t : inI t) (h_h : inI h) (hrf : rfOK M) (hc : 0 ≤ M 6 6 ∧ M 6 6 ≤ 30) (hB : (¬ ((0 ≤ t ∧ t < M 6 6) ∧ 0 ≤ h ∧ h ≤ 11)) → Pq (some (gI (-2))) (rf M 0)) (hN : (((0 ≤ t ∧ t < M 6 6) ∧ 0 ≤ h ∧ h ≤ 11) ∧ M 10 t.toNat = -1) → Pq (some (gI (-1))) M) (hY : (((0 ≤ t ∧ t < M 6 6) ∧ 0 ≤ h ∧ h ≤ 11) ∧ ¬ M 10 t.toNat = -1) → Pq (some (gI (cst (M 10 t.toNat) (stg h (M 5 8) (M 5 9))))) M) : gCtr l my_X11_costs mb_X11_costs 3 ((some .int)) 3 [gR 0, gI t, gI h] M Pq := by
  refine g_intro (by decide) (Nat.le_of_ble_eq_true rfl) ?_
  intro p e s m args below meth c D cy q A hK hr hlocks hw
  refine g_sub (L' := [(0, gR 0), (1, gI t), (2, gI h)]) [0, 1, 2] rfl ?_
  refine g_aloadn (pc := 0) (i := 0) (x := 0) hK dd_X11_costs_0 rfl rfl ?_
  refine g_getv (pc := 1) (f := (1, 5)) (j := 3) (v := gR 5) hK (kdm kd_0) rfl ef_11 (by decide) rfl kk_385 dd_X11_costs_1 rfl ?_
  refine g_getv (pc := 4) (f := (1, 1)) (j := 0) (v := gR 6) hK (kdm kd_5) rfl ef_1 (by decide) rfl kk_260 dd_X11_costs_4 rfl ?_
  refine g_iloadn (pc := 7) (i := 1) (x := t) hK dd_X11_costs_7 rfl rfl ?_
  refine g_callV (pc := 8) (As := [gI t]) hK ws_X_117 md_X10_has ⟨Nat.zero_le _, Nat.zero_le _⟩ ⟨by decide, by decide⟩ (kdm kd_6) rfl rfl dd_X11_costs_8 rfl rfl (Nat.le_of_ble_eq_true rfl) (c_has10 t (show inI t by omega) (show 0 ≤ M 6 6 ∧ M 6 6 ≤ 30 by omega) (fun c1 => g_r1 ?_) (fun c1 => g_r1 ?_))
  · refine g_if_eq (pc := 11) (tgt := 21) hK dd_X11_costs_11 (by decide) (by decide) (fun c2 => absurd c2 (by decide)) (fun _ => ?_)
    refine g_iloadn (pc := 14) (i := 2) (x := h) hK dd_X11_costs_14 rfl rfl ?_
    refine g_callT (pc := 15) (As := [gI h]) hK ws_X_216 md_X11_isHour ⟨Nat.zero_le _, Nat.zero_le _⟩ ⟨by decide, by decide⟩ dd_X11_costs_15 rfl rfl (Nat.le_of_ble_eq_true rfl) (c_isHour h h_h (fun c3 => g_r1 ?_) (fun c3 => g_r1 ?_))
    · refine g_if_ne (pc := 18) (tgt := 28) hK dd_X11_costs_18 (by decide) (by decide) (fun _ => ?_) (fun c4 => absurd (by decide) c4)
      refine g_aloadn (pc := 28) (i := 0) (x := 0) hK dd_X11_costs_28 rfl rfl ?_
      refine g_getv (pc := 29) (f := (1, 5)) (j := 3) (v := gR 5) hK (kdm kd_0) rfl ef_11 (by decide) rfl kk_385 dd_X11_costs_29 rfl ?_
      refine g_getv (pc := 32) (f := (1, 1)) (j := 0) (v := gR 6) hK (kdm kd_5) rfl ef_1 (by decide) rfl kk_260 dd_X11_costs_32 rfl ?_
      refine g_getv (pc := 35) (f := (1, 4)) (j := 3) (v := gR 10) hK (kdm kd_6) rfl ef_10 (by decide) rfl kk_78 dd_X11_costs_35 rfl ?_
      refine g_iloadn (pc := 38) (i := 1) (x := t) hK dd_X11_costs_38 rfl rfl ?_
      refine g_iald (pc := 39) hK (kdm kd_10) nl_10 (by decide) dd_X11_costs_39 (by omega) (by omega) (fun x5 ex5 rx5 => ?_)
      refine g_iconst (pc := 40) (x := (-1)) hK dd_X11_costs_40 (by decide) ?_
      refine g_icmp_ne (pc := 41) (tgt := 46) hK dd_X11_costs_41 (by decide) rx5 (by decide) (fun c6 => ?_) (fun c6 => ?_)
      · refine g_aloadn (pc := 46) (i := 0) (x := 0) hK dd_X11_costs_46 rfl rfl ?_
        refine g_getv (pc := 47) (f := (1, 5)) (j := 3) (v := gR 5) hK (kdm kd_0) rfl ef_11 (by decide) rfl kk_385 dd_X11_costs_47 rfl ?_
        refine g_getv (pc := 50) (f := (1, 1)) (j := 0) (v := gR 6) hK (kdm kd_5) rfl ef_1 (by decide) rfl kk_260 dd_X11_costs_50 rfl ?_
        refine g_getv (pc := 53) (f := (1, 4)) (j := 3) (v := gR 10) hK (kdm kd_6) rfl ef_10 (by decide) rfl kk_78 dd_X11_costs_53 rfl ?_
        refine g_iloadn (pc := 56) (i := 1) (x := t) hK dd_X11_costs_56 rfl rfl ?_
        refine g_iald (pc := 57) hK (kdm kd_10) nl_10 (by decide) dd_X11_costs_57 (by omega) (by omega) (fun x7 ex7 rx7 => ?_)
        refine g_iloadn (pc := 58) (i := 2) (x := h) hK dd_X11_costs_58 rfl rfl ?_
        refine g_aloadn (pc := 59) (i := 0) (x := 0) hK dd_X11_costs_59 rfl rfl ?_
        refine g_getv (pc := 60) (f := (1, 5)) (j := 3) (v := gR 5) hK (kdm kd_0) rfl ef_11 (by decide) rfl kk_385 dd_X11_costs_60 rfl ?_
        refine g_geti (pc := 63) (f := (0, 0)) (j := 8) hK (kdm kd_5) rfl ef_1 (by decide) rfl kk_277 nl_5 dd_X11_costs_63 rfl (fun x8 ex8 rx8 => ?_)
        refine g_aloadn (pc := 66) (i := 0) (x := 0) hK dd_X11_costs_66 rfl rfl ?_
        refine g_getv (pc := 67) (f := (1, 5)) (j := 3) (v := gR 5) hK (kdm kd_0) rfl ef_11 (by decide) rfl kk_385 dd_X11_costs_67 rfl ?_
        refine g_geti (pc := 70) (f := (0, 0)) (j := 9) hK (kdm kd_5) rfl ef_1 (by decide) rfl kk_279 nl_5 dd_X11_costs_70 rfl (fun x9 ex9 rx9 => ?_)
        refine g_callT (pc := 73) (As := [gI h, gI x8, gI x9]) hK ws_X_251 md_X5_stage ⟨Nat.zero_le _, Nat.zero_le _⟩ ⟨by decide, by decide⟩ dd_X11_costs_73 rfl rfl (Nat.le_of_ble_eq_true rfl) (c_stage h x8 x9 h_h rx8 rx9 (g_r1 ?_))
        refine g_topI (fun sg esg => ?_)
        have hsg_ : 0 ≤ sg ∧ sg ≤ 2 := by rw [esg]; exact stg_in _ _ _
        refine g_callT (pc := 76) (As := [gI x7, gI sg]) hK ws_X_254 md_X5_cost ⟨Nat.zero_le _, Nat.zero_le _⟩ ⟨by decide, by decide⟩ dd_X11_costs_76 rfl rfl (Nat.le_of_ble_eq_true rfl) (c_cost x7 sg rx7 ⟨by omega, by omega⟩ (g_r1 ?_))
        refine g_iret (pc := 79) hK hr hlocks dd_X11_costs_79 rfl ?_
        first | exact g_fin (hB (by first | omega | (subst_vars; omega) | exact ⟨by first | assumption | omega | (subst_vars; first | assumption | omega), by first | assumption | omega | (subst_vars; first | assumption | omega)⟩)) (by first | rfl | omega | (subst_vars; first | rfl | omega)) (by first | rfl | (subst_vars; rfl)) | exact g_fin (hN (by first | omega | (subst_vars; omega) | exact ⟨by first | assumption | omega | (subst_vars; first | assumption | omega), by first | assumption | omega | (subst_vars; first | assumption | omega)⟩)) (by first | rfl | omega | (subst_vars; first | rfl | omega)) (by first | rfl | (subst_vars; rfl)) | exact g_fin (hY (by first | omega | (subst_vars; omega) | exact ⟨by first | assumption | omega | (subst_vars; first | assumption | omega), by first | assumption | omega | (subst_vars; first | assumption | omega)⟩)) (by first | rfl | omega | (subst_vars; first | rfl | omega)) (by first | rfl | (subst_vars; rfl)) | (exfalso; omega)
      · refine g_iconst (pc := 44) (x := (-1)) hK dd_X11_costs_44 (by decide) ?_
        refine g_iret (pc := 45) hK hr hlocks dd_X11_costs_45 rfl ?_
        first | exact g_fin (hN (by first | omega | (subst_vars; omega) | exact ⟨by first | assumption | omega | (subst_vars; first | assumption | omega), by first | assumption | omega | (subst_vars; first | assumption | omega)⟩)) (by first | rfl | omega | (subst_vars; first | rfl | omega)) (by first | rfl | (subst_vars; rfl)) | exact g_fin (hY (by first | omega | (subst_vars; omega) | exact ⟨by first | assumption | omega | (subst_vars; first | assumption | omega), by first | assumption | omega | (subst_vars; first | assumption | omega)⟩)) (by first | rfl | omega | (subst_vars; first | rfl | omega)) (by first | rfl | (subst_vars; rfl)) | (exfalso; omega)
    · refine g_if_ne (pc := 18) (tgt := 28) hK dd_X11_costs_18 (by decide) (by decide) (fun c10 => absurd c10 (by decide)) (fun _ => ?_)
      refine g_aloadn (pc := 21) (i := 0) (x := 0) hK dd_X11_costs_21 rfl rfl ?_
      refine g_bipush (pc := 22) (x := (-2)) hK dd_X11_costs_22 (by decide) ?_
      refine g_callV (pc := 24) (As := [gI (-2)]) hK ws_X_63 md_X11_refuse ⟨Nat.zero_le _, Nat.zero_le _⟩ ⟨by decide, by decide⟩ (kdm kd_0) rfl rfl dd_X11_costs_24 rfl rfl (Nat.le_of_ble_eq_true rfl) (c_refuse_0 hrf (g_r1 ?_))
      refine g_iret (pc := 27) hK hr hlocks dd_X11_costs_27 rfl ?_
      first | exact g_fin (hB (by first | omega | (subst_vars; omega) | exact ⟨by first | assumption | omega | (subst_vars; first | assumption | omega), by first | assumption | omega | (subst_vars; first | assumption | omega)⟩)) (by first | rfl | omega | (subst_vars; first | rfl | omega)) (by first | rfl | (subst_vars; rfl)) | exact g_fin (hY (by first | omega | (subst_vars; omega) | exact ⟨by first | assumption | omega | (subst_vars; first | assumption | omega), by first | assumption | omega | (subst_vars; first | assumption | omega)⟩)) (by first | rfl | omega | (subst_vars; first | rfl | omega)) (by first | rfl | (subst_vars; rfl)) | (exfalso; omega)
  · refine g_if_eq (pc := 11) (tgt := 21) hK dd_X11_costs_11 (by decide) (by decide) (fun _ => ?_) (fun c11 => absurd (by decide) c11)
    refine g_aloadn (pc := 21) (i := 0) (x := 0) hK dd_X11_costs_21 rfl rfl ?_
    refine g_bipush (pc := 22) (x := (-2)) hK dd_X11_costs_22 (by decide) ?_
    refine g_callV (pc := 24) (As := [gI (-2)]) hK ws_X_63 md_X11_refuse ⟨Nat.zero_le _, Nat.zero_le _⟩ ⟨by decide, by decide⟩ (kdm kd_0) rfl rfl dd_X11_costs_24 rfl rfl (Nat.le_of_ble_eq_true rfl) (c_refuse_0 hrf (g_r1 ?_))
    refine g_iret (pc := 27) hK hr hlocks dd_X11_costs_27 rfl ?_
    first | exact g_fin (hB (by first | omega | (subst_vars; omega) | exact ⟨by first | assumption | omega | (subst_vars; first | assumption | omega), by first | assumption | omega | (subst_vars; first | assumption | omega)⟩)) (by first | rfl | omega | (subst_vars; first | rfl | omega)) (by first | rfl | (subst_vars; rfl)) | exact g_fin (hY (by first | omega | (subst_vars; omega) | exact ⟨by first | assumption | omega | (subst_vars; first | assumption | omega), by first | assumption | omega | (subst_vars; first | assumption | omega)⟩)) (by first | rfl | omega | (subst_vars; first | rfl | omega)) (by first | rfl | (subst_vars; rfl)) | (exfalso; omega)
set_option maxHeartbeats 4000000 in
set_option maxRecDepth 100000 in
theorem x_takings {l : Launch} {M : Mem} {Pq : Option gV → Mem → Prop} (ha : Int) (bg : Int) (h_ha : inI ha) (h_bg : inI bg) (hrf : rfOK M) (hc : 0 ≤ M 6 6 ∧ M 6 6 ≤ 30) (hbc : 0 ≤ M 21 5 ∧ M 21 5 ≤ 12) (hth : thOK M) (hbu : buOK M) (hmn : mnOK M) (hhr : (0 ≤ M 5 8 ∧ M 5 8 ≤ 12) ∧ (0 ≤ M 5 9 ∧ M 5 9 ≤ 12) ∧ 0 ≤ M 5 10 ∧ M 5 10 ≤ 12) (hB : (¬ ((0 ≤ ha ∧ ha ≤ 12) ∧ 0 ≤ bg ∧ bg ≤ 12)) → Pq (some (gI (-2))) (rf M 0)) (hY : ∀ (A1 : Nat → Int) (A2 : Nat → Int) (A3 : Nat → Int) (A4 : Nat → Int) (A5 : Nat → Int) (A6 : Nat → Int) (A7 : Nat → Int), ((0 ≤ ha ∧ ha ≤ 12) ∧ 0 ≤ bg ∧ bg ≤ 12) → Pq (some (gI (tkg (M 10) (M 7) (TWf (M 7) (M 8) (M 9)) (M 22) (M 24) (M 25) (M 11) (M 23) (M 6 6).toNat (M 21 5).toNat ha bg))) (sr (sr (sr (sr (sr (sr (sr M 87 A1) 88 A2) 89 A3) 90 A4) 91 A5) 92 A6) 93 A7)) : gCtr l my_X11_takings mb_X11_takings 3 ((some .int)) 6 [gR 0, gI ha, gI bg] M Pq := by
  refine g_intro (by decide) (Nat.le_of_ble_eq_true rfl) ?_
  intro p e s m args below meth c D cy q A hK hr hlocks hw
  refine g_sub (L' := [(0, gR 0), (1, gI ha), (2, gI bg)]) [0, 1, 2] rfl ?_
  refine g_iloadn (pc := 0) (i := 1) (x := ha) hK dd_X11_takings_0 rfl rfl ?_
  refine g_iconst (pc := 1) (x := 0) hK dd_X11_takings_1 (by decide) ?_
  refine g_bipush (pc := 2) (x := 12) hK dd_X11_takings_2 (by decide) ?_
  refine g_callT (pc := 4) (As := [gI ha, gI 0, gI 12]) hK ws_X_59 md_X11_within ⟨Nat.zero_le _, Nat.zero_le _⟩ ⟨by decide, by decide⟩ dd_X11_takings_4 rfl rfl (Nat.le_of_ble_eq_true rfl) (c_within ha 0 12 h_ha (by decide) (by decide) (fun c1 => g_r1 ?_) (fun c1 => g_r1 ?_))
  · refine g_if_eq (pc := 7) (tgt := 20) hK dd_X11_takings_7 (by decide) (by decide) (fun c2 => absurd c2 (by decide)) (fun _ => ?_)
    refine g_iloadn (pc := 10) (i := 2) (x := bg) hK dd_X11_takings_10 rfl rfl ?_
    refine g_iconst (pc := 11) (x := 0) hK dd_X11_takings_11 (by decide) ?_
    refine g_bipush (pc := 12) (x := 12) hK dd_X11_takings_12 (by decide) ?_
    refine g_callT (pc := 14) (As := [gI bg, gI 0, gI 12]) hK ws_X_59 md_X11_within ⟨Nat.zero_le _, Nat.zero_le _⟩ ⟨by decide, by decide⟩ dd_X11_takings_14 rfl rfl (Nat.le_of_ble_eq_true rfl) (c_within bg 0 12 h_bg (by decide) (by decide) (fun c3 => g_r1 ?_) (fun c3 => g_r1 ?_))
    · refine g_if_ne (pc := 17) (tgt := 27) hK dd_X11_takings_17 (by decide) (by decide) (fun _ => ?_) (fun c4 => absurd (by decide) c4)
      refine g_aloadn (pc := 27) (i := 0) (x := 0) hK dd_X11_takings_27 rfl rfl ?_
      refine g_getv (pc := 28) (f := (1, 87)) (j := 5) (v := gR 87) hK (kdm kd_0) rfl ef_11 (by decide) rfl kk_387 dd_X11_takings_28 rfl ?_
      refine g_aloadn (pc := 31) (i := 0) (x := 0) hK dd_X11_takings_31 rfl rfl ?_
      refine g_getv (pc := 32) (f := (1, 5)) (j := 3) (v := gR 5) hK (kdm kd_0) rfl ef_11 (by decide) rfl kk_385 dd_X11_takings_32 rfl ?_
      refine g_iloadn (pc := 35) (i := 1) (x := ha) hK dd_X11_takings_35 rfl rfl ?_
      refine g_iloadn (pc := 36) (i := 2) (x := bg) hK dd_X11_takings_36 rfl rfl ?_
      refine g_callV (pc := 37) (As := [gR 5, gI ha, gI bg]) hK ws_X_265 md_X5_wholeDay ⟨Nat.zero_le _, Nat.zero_le _⟩ ⟨by decide, by decide⟩ (kdm kd_87) rfl rfl dd_X11_takings_37 rfl rfl (Nat.le_of_ble_eq_true rfl) (c_wholeDay ha bg h_ha h_bg hc hbc hth hbu hmn (fun A5 A6 A7 A8 A9 A10 A11 h12 => g_r1 ?_))
      refine g_iret (pc := 40) hK hr hlocks dd_X11_takings_40 rfl ?_
      first | exact g_fin (hB (by first | omega | (subst_vars; omega) | exact ⟨by first | assumption | omega | (subst_vars; first | assumption | omega), by first | assumption | omega | (subst_vars; first | assumption | omega)⟩)) (by first | rfl | omega | (subst_vars; first | rfl | omega)) (by first | rfl | (subst_vars; rfl)) | exact g_fin (hY A5 A6 A7 A8 A9 A10 A11 (by first | omega | (subst_vars; omega) | exact ⟨by first | assumption | omega | (subst_vars; first | assumption | omega), by first | assumption | omega | (subst_vars; first | assumption | omega)⟩)) (by first | rfl | omega | (subst_vars; first | rfl | omega)) (by first | rfl | (simp (disch := decide) only [Int.reduceToNat, up_sr, sr_cp, sr_k, sr_o, sr_sr, us_us, @sr_lt _ 88 87 _ _ (by decide), @sr_lt _ 89 87 _ _ (by decide), @sr_lt _ 89 88 _ _ (by decide), @sr_lt _ 90 87 _ _ (by decide), @sr_lt _ 90 88 _ _ (by decide), @sr_lt _ 90 89 _ _ (by decide), @sr_lt _ 91 87 _ _ (by decide), @sr_lt _ 91 88 _ _ (by decide), @sr_lt _ 91 89 _ _ (by decide), @sr_lt _ 91 90 _ _ (by decide), @sr_lt _ 92 87 _ _ (by decide), @sr_lt _ 92 88 _ _ (by decide), @sr_lt _ 92 89 _ _ (by decide), @sr_lt _ 92 90 _ _ (by decide), @sr_lt _ 92 91 _ _ (by decide), @sr_lt _ 93 87 _ _ (by decide), @sr_lt _ 93 88 _ _ (by decide), @sr_lt _ 93 89 _ _ (by decide), @sr_lt _ 93 90 _ _ (by decide), @sr_lt _ 93 91 _ _ (by decide), @sr_lt _ 93 92 _ _ (by decide)]; try rfl)) | (exfalso; omega)
    · refine g_if_ne (pc := 17) (tgt := 27) hK dd_X11_takings_17 (by decide) (by decide) (fun c13 => absurd c13 (by decide)) (fun _ => ?_)
      refine g_aloadn (pc := 20) (i := 0) (x := 0) hK dd_X11_takings_20 rfl rfl ?_
      refine g_bipush (pc := 21) (x := (-2)) hK dd_X11_takings_21 (by decide) ?_
      refine g_callV (pc := 23) (As := [gI (-2)]) hK ws_X_63 md_X11_refuse ⟨Nat.zero_le _, Nat.zero_le _⟩ ⟨by decide, by decide⟩ (kdm kd_0) rfl rfl dd_X11_takings_23 rfl rfl (Nat.le_of_ble_eq_true rfl) (c_refuse_0 hrf (g_r1 ?_))
      refine g_iret (pc := 26) hK hr hlocks dd_X11_takings_26 rfl ?_
      first | exact g_fin (hB (by first | omega | (subst_vars; omega) | exact ⟨by first | assumption | omega | (subst_vars; first | assumption | omega), by first | assumption | omega | (subst_vars; first | assumption | omega)⟩)) (by first | rfl | omega | (subst_vars; first | rfl | omega)) (by first | rfl | (subst_vars; rfl)) | exact g_fin (hY (M 87) (M 88) (M 89) (M 90) (M 91) (M 92) (M 93) (by first | omega | (subst_vars; omega) | exact ⟨by first | assumption | omega | (subst_vars; first | assumption | omega), by first | assumption | omega | (subst_vars; first | assumption | omega)⟩)) (by first | rfl | omega | (subst_vars; first | rfl | omega)) (by first | rfl | (simp (disch := decide) only [Int.reduceToNat, up_sr, sr_cp, sr_k, sr_o, sr_sr, us_us, @sr_lt _ 88 87 _ _ (by decide), @sr_lt _ 89 87 _ _ (by decide), @sr_lt _ 89 88 _ _ (by decide), @sr_lt _ 90 87 _ _ (by decide), @sr_lt _ 90 88 _ _ (by decide), @sr_lt _ 90 89 _ _ (by decide), @sr_lt _ 91 87 _ _ (by decide), @sr_lt _ 91 88 _ _ (by decide), @sr_lt _ 91 89 _ _ (by decide), @sr_lt _ 91 90 _ _ (by decide), @sr_lt _ 92 87 _ _ (by decide), @sr_lt _ 92 88 _ _ (by decide), @sr_lt _ 92 89 _ _ (by decide), @sr_lt _ 92 90 _ _ (by decide), @sr_lt _ 92 91 _ _ (by decide), @sr_lt _ 93 87 _ _ (by decide), @sr_lt _ 93 88 _ _ (by decide), @sr_lt _ 93 89 _ _ (by decide), @sr_lt _ 93 90 _ _ (by decide), @sr_lt _ 93 91 _ _ (by decide), @sr_lt _ 93 92 _ _ (by decide)]; try rfl)) | (exfalso; omega)
  · refine g_if_eq (pc := 7) (tgt := 20) hK dd_X11_takings_7 (by decide) (by decide) (fun _ => ?_) (fun c14 => absurd (by decide) c14)
    refine g_aloadn (pc := 20) (i := 0) (x := 0) hK dd_X11_takings_20 rfl rfl ?_
    refine g_bipush (pc := 21) (x := (-2)) hK dd_X11_takings_21 (by decide) ?_
    refine g_callV (pc := 23) (As := [gI (-2)]) hK ws_X_63 md_X11_refuse ⟨Nat.zero_le _, Nat.zero_le _⟩ ⟨by decide, by decide⟩ (kdm kd_0) rfl rfl dd_X11_takings_23 rfl rfl (Nat.le_of_ble_eq_true rfl) (c_refuse_0 hrf (g_r1 ?_))
    refine g_iret (pc := 26) hK hr hlocks dd_X11_takings_26 rfl ?_
    first | exact g_fin (hB (by first | omega | (subst_vars; omega) | exact ⟨by first | assumption | omega | (subst_vars; first | assumption | omega), by first | assumption | omega | (subst_vars; first | assumption | omega)⟩)) (by first | rfl | omega | (subst_vars; first | rfl | omega)) (by first | rfl | (subst_vars; rfl)) | exact g_fin (hY (M 87) (M 88) (M 89) (M 90) (M 91) (M 92) (M 93) (by first | omega | (subst_vars; omega) | exact ⟨by first | assumption | omega | (subst_vars; first | assumption | omega), by first | assumption | omega | (subst_vars; first | assumption | omega)⟩)) (by first | rfl | omega | (subst_vars; first | rfl | omega)) (by first | rfl | (simp (disch := decide) only [Int.reduceToNat, up_sr, sr_cp, sr_k, sr_o, sr_sr, us_us, @sr_lt _ 88 87 _ _ (by decide), @sr_lt _ 89 87 _ _ (by decide), @sr_lt _ 89 88 _ _ (by decide), @sr_lt _ 90 87 _ _ (by decide), @sr_lt _ 90 88 _ _ (by decide), @sr_lt _ 90 89 _ _ (by decide), @sr_lt _ 91 87 _ _ (by decide), @sr_lt _ 91 88 _ _ (by decide), @sr_lt _ 91 89 _ _ (by decide), @sr_lt _ 91 90 _ _ (by decide), @sr_lt _ 92 87 _ _ (by decide), @sr_lt _ 92 88 _ _ (by decide), @sr_lt _ 92 89 _ _ (by decide), @sr_lt _ 92 90 _ _ (by decide), @sr_lt _ 92 91 _ _ (by decide), @sr_lt _ 93 87 _ _ (by decide), @sr_lt _ 93 88 _ _ (by decide), @sr_lt _ 93 89 _ _ (by decide), @sr_lt _ 93 90 _ _ (by decide), @sr_lt _ 93 91 _ _ (by decide), @sr_lt _ 93 92 _ _ (by decide)]; try rfl)) | (exfalso; omega)
set_option maxHeartbeats 4000000 in
set_option maxRecDepth 100000 in
theorem x_best {l : Launch} {M : Mem} {Pq : Option gV → Mem → Prop} (hc : 0 ≤ M 6 6 ∧ M 6 6 ≤ 30) (hbc : 0 ≤ M 21 5 ∧ M 21 5 ≤ 12) (hth : thOK M) (hbu : buOK M) (hmn : mnOK M) (hQ : ∀ (A1 : Nat → Int) (A2 : Nat → Int) (A3 : Nat → Int) (A4 : Nat → Int) (A5 : Nat → Int) (A6 : Nat → Int) (A7 : Nat → Int), True → Pq (some (gI ((bxO (tkg (M 10) (M 7) (TWf (M 7) (M 8) (M 9)) (M 22) (M 24) (M 25) (M 11) (M 23) (M 6 6).toNat (M 21 5).toNat) 13).1))) (sr (sr (sr (sr (sr (sr (sr M 87 A1) 88 A2) 89 A3) 90 A4) 91 A5) 92 A6) 93 A7)) : gCtr l my_X11_best mb_X11_best 1 ((some .int)) 7 [gR 0] M Pq := by
  refine g_intro (by decide) (Nat.le_of_ble_eq_true rfl) ?_
  intro p e s m args below meth c D cy q A hK hr hlocks hw
  refine g_sub (L' := [(0, gR 0)]) [0] rfl ?_
  refine g_aloadn (pc := 0) (i := 0) (x := 0) hK dd_X11_best_0 rfl rfl ?_
  refine g_getv (pc := 1) (f := (1, 87)) (j := 5) (v := gR 87) hK (kdm kd_0) rfl ef_11 (by decide) rfl kk_387 dd_X11_best_1 rfl ?_
  refine g_aloadn (pc := 4) (i := 0) (x := 0) hK dd_X11_best_4 rfl rfl ?_
  refine g_getv (pc := 5) (f := (1, 5)) (j := 3) (v := gR 5) hK (kdm kd_0) rfl ef_11 (by decide) rfl kk_385 dd_X11_best_5 rfl ?_
  refine g_callV (pc := 8) (As := [gR 5]) hK ws_X_268 md_X5_bestTurns ⟨Nat.zero_le _, Nat.zero_le _⟩ ⟨by decide, by decide⟩ (kdm kd_87) rfl rfl dd_X11_best_8 rfl rfl (Nat.le_of_ble_eq_true rfl) (c_bestTurns hc hbc hth hbu hmn (fun A1 A2 A3 A4 A5 A6 A7 h8 => g_r1 ?_))
  refine g_iret (pc := 11) hK hr hlocks dd_X11_best_11 rfl ?_
  exact g_fin (hQ _ _ _ _ _ _ _ trivial) rfl rfl
set_option maxHeartbeats 4000000 in
set_option maxRecDepth 100000 in
theorem c_wanted {l : Launch} {M : Mem} {Pq : Option gV → Mem → Prop} (b : Int) (h : Int) (b1 : 0 ≤ b) (b2 : b < 12) (g1 : inI h) (hle : (0 ≤ M 87 3 ∧ M 87 3 ≤ 30) ∧ ∀ i, i < (M 87 3).toNat → (0 ≤ M 88 i ∧ M 88 i < 30) ∧ 0 ≤ M 10 (M 88 i).toNat ∧ M 10 (M 88 i).toNat ≤ 999 ∧ 0 ≤ M 89 (M 88 i).toNat ∧ M 89 (M 88 i).toNat ≤ 1049) (hbu : buOK M) (hN : (h < M 22 b.toNat) → Pq (some (gI (-1))) M) (hP : (¬ h < M 22 b.toNat ∧ (pl (M 88) (M 10) (M 7) (M 89) (M 24 b.toNat) (M 25 b.toNat) (M 92 b.toNat) (stg h (M 87 0) (M 87 1)) (M 87 3).toNat).1 = -1) → Pq (some (gI (-1))) M) (hY : ∀ (y : Int), (¬ h < M 22 b.toNat ∧ y = (pl (M 88) (M 10) (M 7) (M 89) (M 24 b.toNat) (M 25 b.toNat) (M 92 b.toNat) (stg h (M 87 0) (M 87 1)) (M 87 3).toNat).1 ∧ ¬ y = -1) → Pq (some (gI (M 88 y.toNat))) M) : gCtr l my_X5_wanted mb_X5_wanted 5 ((some .int)) 4 [gR 87, gR 5, gI b, gI h] M Pq := by
  refine g_intro (by decide) (Nat.le_of_ble_eq_true rfl) ?_
  intro p e s m args below meth c D cy q A hK hr hlocks hw
  refine g_sub (L' := [(0, gR 87), (1, gR 5), (2, gI b), (3, gI h)]) [0, 1, 2, 3] rfl ?_
  have hpr := pl_rng (K := M 7) (ks := M 24 b.toNat) (pu := M 92 b.toNat) (st := stg h (M 87 0) (M 87 1)) (fun i hi => (hle.2 i hi).2) (hbu b.toNat (by omega)).2.2.2 (M 87 3).toNat (Nat.le_refl _)
  refine g_aloadn (pc := 0) (i := 1) (x := 5) hK dd_X5_wanted_0 rfl rfl ?_
  refine g_getv (pc := 1) (f := (1, 16)) (j := 3) (v := gR 21) hK (kdm kd_5) rfl ef_1 (by decide) rfl kk_266 dd_X5_wanted_1 rfl ?_
  refine g_getv (pc := 4) (f := (1, 1)) (j := 0) (v := gR 22) hK (kdm kd_21) rfl ef_0 (by decide) rfl kk_160 dd_X5_wanted_4 rfl ?_
  refine g_iloadn (pc := 7) (i := 2) (x := b) hK dd_X5_wanted_7 rfl rfl ?_
  refine g_iald (pc := 8) hK (kdm kd_22) nl_22 (by decide) dd_X5_wanted_8 (by omega) (by omega) (fun x1 ex1 rx1 => ?_)
  refine g_iloadn (pc := 9) (i := 3) (x := h) hK dd_X5_wanted_9 rfl rfl ?_
  refine g_icmp_le (pc := 10) (tgt := 15) hK dd_X5_wanted_10 (by decide) rx1 g1 (fun c2 => ?_) (fun c2 => ?_)
  · refine g_aloadn (pc := 15) (i := 0) (x := 87) hK dd_X5_wanted_15 rfl rfl ?_
    refine g_aloadn (pc := 16) (i := 1) (x := 5) hK dd_X5_wanted_16 rfl rfl ?_
    refine g_iloadn (pc := 17) (i := 2) (x := b) hK dd_X5_wanted_17 rfl rfl ?_
    refine g_iloadn (pc := 18) (i := 3) (x := h) hK dd_X5_wanted_18 rfl rfl ?_
    refine g_aloadn (pc := 19) (i := 0) (x := 87) hK dd_X5_wanted_19 rfl rfl ?_
    refine g_geti (pc := 20) (f := (0, 0)) (j := 0) hK (kdm kd_87) rfl ef_5 (by decide) rfl kk_322 nl_87 dd_X5_wanted_20 rfl (fun x3 ex3 rx3 => ?_)
    have eh_ := ex3
    refine g_aloadn (pc := 23) (i := 0) (x := 87) hK dd_X5_wanted_23 rfl rfl ?_
    refine g_geti (pc := 24) (f := (0, 0)) (j := 1) hK (kdm kd_87) rfl ef_5 (by decide) rfl kk_323 nl_87 dd_X5_wanted_24 rfl (fun x4 ex4 rx4 => ?_)
    have eb_ := ex4
    refine g_callT (pc := 27) (As := [gI h, gI x3, gI x4]) hK ws_Sale_70 md_X5_stage ⟨Nat.zero_le _, Nat.zero_le _⟩ ⟨by decide, by decide⟩ dd_X5_wanted_27 rfl rfl (Nat.le_of_ble_eq_true rfl) (c_stage h x3 x4 g1 rx3 rx4 (g_r1 ?_))
    refine g_topI (fun sg esg => ?_)
    rw [eh_, eb_] at esg
    have hsg_ := stg_in h (M 87 0) (M 87 1)
    refine g_callV (pc := 30) (As := [gR 5, gI b, gI sg]) hK ws_Sale_74 md_X5_placeWanted ⟨Nat.zero_le _, Nat.zero_le _⟩ ⟨by decide, by decide⟩ (kdm kd_87) rfl rfl dd_X5_wanted_30 rfl rfl (Nat.le_of_ble_eq_true rfl) (c_placeWanted b sg (by omega) (by omega) ⟨by omega, by omega⟩ hle hbu (g_r1 ?_))
    refine g_topI (fun y ey => ?_)
    rw [esg] at ey
    refine g_istore (pc := 33) (i := 4) (L' := [(0, gR 87), (1, gR 5), (2, gI b), (3, gI h), (4, gI y)]) hK dd_X5_wanted_33 (by decide) rfl ?_
    refine g_iload (pc := 35) (i := 4) (x := y) hK dd_X5_wanted_35 rfl ?_
    refine g_iconst (pc := 37) (x := (-1)) hK dd_X5_wanted_37 (by decide) ?_
    refine g_icmp_ne (pc := 38) (tgt := 45) hK dd_X5_wanted_38 (by decide) ⟨by omega, by omega⟩ (by decide) (fun c5 => ?_) (fun c5 => ?_)
    · refine g_aloadn (pc := 45) (i := 0) (x := 87) hK dd_X5_wanted_45 rfl rfl ?_
      refine g_getv (pc := 46) (f := (1, 1)) (j := 2) (v := gR 88) hK (kdm kd_87) rfl ef_5 (by decide) rfl kk_324 dd_X5_wanted_46 rfl ?_
      refine g_iload (pc := 49) (i := 4) (x := y) hK dd_X5_wanted_49 rfl ?_
      refine g_iald (pc := 51) hK (kdm kd_88) nl_88 (by decide) dd_X5_wanted_51 (by omega) (by omega) (fun x6 ex6 rx6 => ?_)
      refine g_iret (pc := 52) hK hr hlocks dd_X5_wanted_52 rfl ?_
      first | exact g_fin (hN (by first | omega | (subst_vars; omega) | exact ⟨by first | assumption | omega | (subst_vars; first | assumption | omega), by first | assumption | omega | (subst_vars; first | assumption | omega)⟩)) (by first | rfl | omega | (subst_vars; first | rfl | omega)) (by first | rfl | (subst_vars; rfl)) | exact g_fin (hP (by first | omega | (subst_vars; omega) | exact ⟨by first | assumption | omega | (subst_vars; first | assumption | omega), by first | assumption | omega | (subst_vars; first | assumption | omega)⟩)) (by first | rfl | omega | (subst_vars; first | rfl | omega)) (by first | rfl | (subst_vars; rfl)) | exact g_fin (hY y (by exact ⟨by omega, ey, by omega⟩)) (by first | rfl | omega | (subst_vars; first | rfl | omega)) (by first | rfl | (subst_vars; rfl)) | (exfalso; omega)
    · refine g_iconst (pc := 41) (x := (-1)) hK dd_X5_wanted_41 (by decide) ?_
      refine g_goto (pc := 42) (tgt := 52) hK dd_X5_wanted_42 (by decide) ?_
      refine g_iret (pc := 52) hK hr hlocks dd_X5_wanted_52 rfl ?_
      first | exact g_fin (hN (by first | omega | (subst_vars; omega) | exact ⟨by first | assumption | omega | (subst_vars; first | assumption | omega), by first | assumption | omega | (subst_vars; first | assumption | omega)⟩)) (by first | rfl | omega | (subst_vars; first | rfl | omega)) (by first | rfl | (subst_vars; rfl)) | exact g_fin (hP (by first | omega | (subst_vars; omega) | exact ⟨by first | assumption | omega | (subst_vars; first | assumption | omega), by first | assumption | omega | (subst_vars; first | assumption | omega)⟩)) (by first | rfl | omega | (subst_vars; first | rfl | omega)) (by first | rfl | (subst_vars; rfl)) | exact g_fin (hY y (by exact ⟨by omega, ey, by omega⟩)) (by first | rfl | omega | (subst_vars; first | rfl | omega)) (by first | rfl | (subst_vars; rfl)) | (exfalso; omega)
  · refine g_iconst (pc := 13) (x := (-1)) hK dd_X5_wanted_13 (by decide) ?_
    refine g_iret (pc := 14) hK hr hlocks dd_X5_wanted_14 rfl ?_
    first | exact g_fin (hN (by first | omega | (subst_vars; omega) | exact ⟨by first | assumption | omega | (subst_vars; first | assumption | omega), by first | assumption | omega | (subst_vars; first | assumption | omega)⟩)) (by first | rfl | omega | (subst_vars; first | rfl | omega)) (by first | rfl | (subst_vars; rfl)) | exact g_fin (hP (by first | omega | (subst_vars; omega) | exact ⟨by first | assumption | omega | (subst_vars; first | assumption | omega), by first | assumption | omega | (subst_vars; first | assumption | omega)⟩)) (by first | rfl | omega | (subst_vars; first | rfl | omega)) (by first | rfl | (subst_vars; rfl)) | exact g_fin (hY y (by exact ⟨by omega, ey, by omega⟩)) (by first | rfl | omega | (subst_vars; first | rfl | omega)) (by first | rfl | (subst_vars; rfl)) | (exfalso; omega)
set_option maxHeartbeats 4000000 in
set_option maxRecDepth 100000 in
theorem x_takes {l : Launch} {M : Mem} {Pq : Option gV → Mem → Prop} (b : Int) (h : Int) (h_b : inI b) (h_h : inI h) (hrf : rfOK M) (hc : 0 ≤ M 6 6 ∧ M 6 6 ≤ 30) (hbc : 0 ≤ M 21 5 ∧ M 21 5 ≤ 12) (hth : thOK M) (hbu : buOK M) (hmn : mnOK M) (hhr : (0 ≤ M 5 8 ∧ M 5 8 ≤ 12) ∧ (0 ≤ M 5 9 ∧ M 5 9 ≤ 12) ∧ 0 ≤ M 5 10 ∧ M 5 10 ≤ 12) (hB : (¬ ((0 ≤ b ∧ b < M 21 5) ∧ 0 ≤ h ∧ h ≤ 11)) → Pq (some (gI (-2))) (rf M 0)) (hY : ∀ (y : Int) (A1 : Nat → Int) (A2 : Nat → Int) (A3 : Nat → Int) (A4 : Nat → Int) (A5 : Nat → Int) (A6 : Nat → Int) (A7 : Nat → Int), (((0 ≤ b ∧ b < M 21 5) ∧ 0 ≤ h ∧ h ≤ 11) ∧ y = choR (M 10) (M 7) (TWf (M 7) (M 8) (M 9)) (M 22) (M 24) (M 25) (M 6 6).toNat (M 5 8) (M 5 9) h b.toNat (gnA (M 11) (fun _ => 0) (M 6 6).toNat) (puA (M 23) (fun _ => 0) (M 21 5).toNat)) → Pq (some (gI y)) (sr (sr (sr (sr (sr (sr (sr M 87 A1) 88 A2) 89 A3) 90 A4) 91 A5) 92 A6) 93 A7)) : gCtr l my_X11_takes mb_X11_takes 3 ((some .int)) 5 [gR 0, gI b, gI h] M Pq := by
  refine g_intro (by decide) (Nat.le_of_ble_eq_true rfl) ?_
  intro p e s m args below meth c D cy q A hK hr hlocks hw
  refine g_sub (L' := [(0, gR 0), (1, gI b), (2, gI h)]) [0, 1, 2] rfl ?_
  refine g_aloadn (pc := 0) (i := 0) (x := 0) hK dd_X11_takes_0 rfl rfl ?_
  refine g_getv (pc := 1) (f := (1, 5)) (j := 3) (v := gR 5) hK (kdm kd_0) rfl ef_11 (by decide) rfl kk_385 dd_X11_takes_1 rfl ?_
  refine g_getv (pc := 4) (f := (1, 16)) (j := 3) (v := gR 21) hK (kdm kd_5) rfl ef_1 (by decide) rfl kk_267 dd_X11_takes_4 rfl ?_
  refine g_iloadn (pc := 7) (i := 1) (x := b) hK dd_X11_takes_7 rfl rfl ?_
  refine g_callV (pc := 8) (As := [gI b]) hK ws_X_229 md_X0_has ⟨Nat.zero_le _, Nat.zero_le _⟩ ⟨by decide, by decide⟩ (kdm kd_21) rfl rfl dd_X11_takes_8 rfl rfl (Nat.le_of_ble_eq_true rfl) (c_has_21 b h_b (show 0 ≤ M 21 5 ∧ M 21 5 ≤ 12 by omega) (fun c1 => g_r1 ?_) (fun c1 => g_r1 ?_))
  · refine g_if_eq (pc := 11) (tgt := 21) hK dd_X11_takes_11 (by decide) (by decide) (fun c2 => absurd c2 (by decide)) (fun _ => ?_)
    refine g_iloadn (pc := 14) (i := 2) (x := h) hK dd_X11_takes_14 rfl rfl ?_
    refine g_callT (pc := 15) (As := [gI h]) hK ws_X_216 md_X11_isHour ⟨Nat.zero_le _, Nat.zero_le _⟩ ⟨by decide, by decide⟩ dd_X11_takes_15 rfl rfl (Nat.le_of_ble_eq_true rfl) (c_isHour h h_h (fun c3 => g_r1 ?_) (fun c3 => g_r1 ?_))
    · refine g_if_ne (pc := 18) (tgt := 28) hK dd_X11_takes_18 (by decide) (by decide) (fun _ => ?_) (fun c4 => absurd (by decide) c4)
      refine g_aloadn (pc := 28) (i := 0) (x := 0) hK dd_X11_takes_28 rfl rfl ?_
      refine g_getv (pc := 29) (f := (1, 87)) (j := 5) (v := gR 87) hK (kdm kd_0) rfl ef_11 (by decide) rfl kk_387 dd_X11_takes_29 rfl ?_
      refine g_aloadn (pc := 32) (i := 0) (x := 0) hK dd_X11_takes_32 rfl rfl ?_
      refine g_getv (pc := 33) (f := (1, 5)) (j := 3) (v := gR 5) hK (kdm kd_0) rfl ef_11 (by decide) rfl kk_385 dd_X11_takes_33 rfl ?_
      refine g_aloadn (pc := 36) (i := 0) (x := 0) hK dd_X11_takes_36 rfl rfl ?_
      refine g_getv (pc := 37) (f := (1, 5)) (j := 3) (v := gR 5) hK (kdm kd_0) rfl ef_11 (by decide) rfl kk_385 dd_X11_takes_37 rfl ?_
      refine g_geti (pc := 40) (f := (0, 0)) (j := 8) hK (kdm kd_5) rfl ef_1 (by decide) rfl kk_277 nl_5 dd_X11_takes_40 rfl (fun x5 ex5 rx5 => ?_)
      skip
      refine g_aloadn (pc := 43) (i := 0) (x := 0) hK dd_X11_takes_43 rfl rfl ?_
      refine g_getv (pc := 44) (f := (1, 5)) (j := 3) (v := gR 5) hK (kdm kd_0) rfl ef_11 (by decide) rfl kk_385 dd_X11_takes_44 rfl ?_
      refine g_geti (pc := 47) (f := (0, 0)) (j := 9) hK (kdm kd_5) rfl ef_1 (by decide) rfl kk_279 nl_5 dd_X11_takes_47 rfl (fun x6 ex6 rx6 => ?_)
      skip
      refine g_callV (pc := 50) (As := [gR 5, gI x5, gI x6]) hK ws_X_257 md_X5_open ⟨Nat.zero_le _, Nat.zero_le _⟩ ⟨by decide, by decide⟩ (kdm kd_87) rfl rfl dd_X11_takes_50 rfl rfl (Nat.le_of_ble_eq_true rfl) (c_open x5 x6 rx5 rx6 hc hbc hth hbu (fun lc7 lf8 tr9 sb10 pu11 id12 h13 => g_r0 ?_))
      have hI0_ : SIv (M 11) (M 10) (M 7) (TWf (M 7) (M 8) (M 9)) (M 23) (M 26) (M 22) (M 24) (M 25) (M 6 6).toNat (M 21 5).toNat (M 12) lc7 lf8 tr9 sb10 (M 91) pu11 id12 ((gnA (M 11) (fun _ => 0) (M 6 6).toNat, puA (M 23) (fun _ => 0) (M 21 5).toNat, M 23, M 26, M 11, M 12, 0)) := SIv_0 h13.1.1 h13.1.2 h13.2.1 h13.2.2.1 h13.2.2.2.1 h13.2.2.2.2 (fun j hj => (hth j (by omega)).2.2.2.1.1) (fun j hj => (hth j (by omega)).2.2.2.2.1.1)
      have hle0 := SIv_le hI0_ (fun j hj => Px_in hth j (by omega)) (fun j hj => TWx_in hth j (by omega))
      have hle : (0 ≤ lc7 ∧ lc7 ≤ 30) ∧ ∀ i, i < (lc7).toNat → (0 ≤ lf8 i ∧ lf8 i < 30) ∧ 0 ≤ M 10 (lf8 i).toNat ∧ M 10 (lf8 i).toNat ≤ 999 ∧ 0 ≤ tr9 (lf8 i).toNat ∧ tr9 (lf8 i).toNat ≤ 1049 := ⟨⟨hI0_.1.1, by omega⟩, fun i hi => ⟨by have := (hle0.2 i hi).1; omega, (hle0.2 i hi).2⟩⟩
      refine g_aloadn (pc := 53) (i := 0) (x := 0) hK dd_X11_takes_53 rfl rfl ?_
      refine g_getv (pc := 54) (f := (1, 87)) (j := 5) (v := gR 87) hK (kdm kd_0) rfl ef_11 (by decide) rfl kk_387 dd_X11_takes_54 rfl ?_
      refine g_aloadn (pc := 57) (i := 0) (x := 0) hK dd_X11_takes_57 rfl rfl ?_
      refine g_getv (pc := 58) (f := (1, 5)) (j := 3) (v := gR 5) hK (kdm kd_0) rfl ef_11 (by decide) rfl kk_385 dd_X11_takes_58 rfl ?_
      refine g_iloadn (pc := 61) (i := 1) (x := b) hK dd_X11_takes_61 rfl rfl ?_
      refine g_iloadn (pc := 62) (i := 2) (x := h) hK dd_X11_takes_62 rfl rfl ?_
      refine g_callV (pc := 63) (As := [gR 5, gI b, gI h]) hK ws_X_261 md_X5_wanted ⟨Nat.zero_le _, Nat.zero_le _⟩ ⟨by decide, by decide⟩ (kdm kd_87) rfl rfl dd_X11_takes_63 rfl rfl (Nat.le_of_ble_eq_true rfl) (c_wanted b h (by omega) (by omega) h_h hle hbu (fun c14 => g_r1 ?_) (fun c15 => g_r1 ?_) (fun y16 c17 => g_r1 ?_))
      · have hfin_ : (-1) = choR (M 10) (M 7) (TWf (M 7) (M 8) (M 9)) (M 22) (M 24) (M 25) (M 6 6).toNat (M 5 8) (M 5 9) h b.toNat (gnA (M 11) (fun _ => 0) (M 6 6).toNat) (puA (M 23) (fun _ => 0) (M 21 5).toNat) := by rw [← ex5, ← ex6]; have q_ := SIv_ch (half := x5) (bag := x6) (hour := h) (b := b.toNat) hI0_ (by omega); exact (q_.1 c14).symm
        refine g_iret (pc := 66) hK hr hlocks dd_X11_takes_66 rfl ?_
        first | exact g_fin (hY (-1) (us (us (us (M 87) 0 x5) 1 x6) 3 lc7) lf8 tr9 sb10 (M 91) pu11 id12 (by exact ⟨by omega, hfin_⟩)) (by first | rfl | omega | (subst_vars; first | rfl | omega)) (by congr 2; exact (sr_id (k := 91) rfl).symm) | (exfalso; omega)
      · have hfin_ : (-1) = choR (M 10) (M 7) (TWf (M 7) (M 8) (M 9)) (M 22) (M 24) (M 25) (M 6 6).toNat (M 5 8) (M 5 9) h b.toNat (gnA (M 11) (fun _ => 0) (M 6 6).toNat) (puA (M 23) (fun _ => 0) (M 21 5).toNat) := by rw [← ex5, ← ex6]; have q_ := SIv_ch (half := x5) (bag := x6) (hour := h) (b := b.toNat) hI0_ (by omega); exact ((q_.2 c15.1).1 c15.2).symm
        refine g_iret (pc := 66) hK hr hlocks dd_X11_takes_66 rfl ?_
        first | exact g_fin (hY (-1) (us (us (us (M 87) 0 x5) 1 x6) 3 lc7) lf8 tr9 sb10 (M 91) pu11 id12 (by exact ⟨by omega, hfin_⟩)) (by first | rfl | omega | (subst_vars; first | rfl | omega)) (by congr 2; exact (sr_id (k := 91) rfl).symm) | (exfalso; omega)
      · refine g_topI (fun y18 ey18 => ?_)
        have hfin_ : y18 = choR (M 10) (M 7) (TWf (M 7) (M 8) (M 9)) (M 22) (M 24) (M 25) (M 6 6).toNat (M 5 8) (M 5 9) h b.toNat (gnA (M 11) (fun _ => 0) (M 6 6).toNat) (puA (M 23) (fun _ => 0) (M 21 5).toNat) := by rw [← ex5, ← ex6]; have q_ := SIv_ch (half := x5) (bag := x6) (hour := h) (b := b.toNat) hI0_ (by omega); exact ey18.trans ((q_.2 c17.1).2 _ c17.2.1 c17.2.2).symm
        refine g_iret (pc := 66) hK hr hlocks dd_X11_takes_66 rfl ?_
        first | exact g_fin (hB (by first | omega | (subst_vars; omega) | exact ⟨by first | assumption | omega | (subst_vars; first | assumption | omega), by first | assumption | omega | (subst_vars; first | assumption | omega)⟩)) (by first | rfl | omega | (subst_vars; first | rfl | omega)) (by first | rfl | (subst_vars; rfl)) | exact g_fin (hY y18 (us (us (us (M 87) 0 x5) 1 x6) 3 lc7) lf8 tr9 sb10 (M 91) pu11 id12 (by exact ⟨by omega, hfin_⟩)) (by first | rfl | omega | (subst_vars; first | rfl | omega)) (by congr 2; exact (sr_id (k := 91) rfl).symm) | (exfalso; omega)
    · refine g_if_ne (pc := 18) (tgt := 28) hK dd_X11_takes_18 (by decide) (by decide) (fun c19 => absurd c19 (by decide)) (fun _ => ?_)
      refine g_aloadn (pc := 21) (i := 0) (x := 0) hK dd_X11_takes_21 rfl rfl ?_
      refine g_bipush (pc := 22) (x := (-2)) hK dd_X11_takes_22 (by decide) ?_
      refine g_callV (pc := 24) (As := [gI (-2)]) hK ws_X_63 md_X11_refuse ⟨Nat.zero_le _, Nat.zero_le _⟩ ⟨by decide, by decide⟩ (kdm kd_0) rfl rfl dd_X11_takes_24 rfl rfl (Nat.le_of_ble_eq_true rfl) (c_refuse_0 hrf (g_r1 ?_))
      refine g_iret (pc := 27) hK hr hlocks dd_X11_takes_27 rfl ?_
      first | exact g_fin (hB (by first | omega | (subst_vars; omega) | exact ⟨by first | assumption | omega | (subst_vars; first | assumption | omega), by first | assumption | omega | (subst_vars; first | assumption | omega)⟩)) (by first | rfl | omega | (subst_vars; first | rfl | omega)) (by first | rfl | (subst_vars; rfl)) | exact g_fin (hY (-2) (M 87) (M 88) (M 89) (M 90) (M 91) (M 92) (M 93) (by exact ⟨by omega, hfin_⟩)) (by first | rfl | omega | (subst_vars; first | rfl | omega)) (by congr 2; exact (sr_id (k := 91) rfl).symm) | (exfalso; omega)
  · refine g_if_eq (pc := 11) (tgt := 21) hK dd_X11_takes_11 (by decide) (by decide) (fun _ => ?_) (fun c20 => absurd (by decide) c20)
    refine g_aloadn (pc := 21) (i := 0) (x := 0) hK dd_X11_takes_21 rfl rfl ?_
    refine g_bipush (pc := 22) (x := (-2)) hK dd_X11_takes_22 (by decide) ?_
    refine g_callV (pc := 24) (As := [gI (-2)]) hK ws_X_63 md_X11_refuse ⟨Nat.zero_le _, Nat.zero_le _⟩ ⟨by decide, by decide⟩ (kdm kd_0) rfl rfl dd_X11_takes_24 rfl rfl (Nat.le_of_ble_eq_true rfl) (c_refuse_0 hrf (g_r1 ?_))
    refine g_iret (pc := 27) hK hr hlocks dd_X11_takes_27 rfl ?_
    first | exact g_fin (hB (by first | omega | (subst_vars; omega) | exact ⟨by first | assumption | omega | (subst_vars; first | assumption | omega), by first | assumption | omega | (subst_vars; first | assumption | omega)⟩)) (by first | rfl | omega | (subst_vars; first | rfl | omega)) (by first | rfl | (subst_vars; rfl)) | exact g_fin (hY (-2) (M 87) (M 88) (M 89) (M 90) (M 91) (M 92) (M 93) (by exact ⟨by omega, hfin_⟩)) (by first | rfl | omega | (subst_vars; first | rfl | omega)) (by congr 2; exact (sr_id (k := 91) rfl).symm) | (exfalso; omega)
