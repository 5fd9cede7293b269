set_option maxHeartbeats 4000000 in
set_option maxRecDepth 100000 in
theorem c_lostWith {l : Launch} {M : Mem} {Pq : Option gV → Mem → Prop} (bz : Int) (tb : Int) (la : Int) (b1 : 0 ≤ bz ∧ bz < 32) (b2 : 0 ≤ tb ∧ tb < 5) (b3 : 0 ≤ la ∧ la < 5) (hQ : Pq (some (gI (lwV (M 44) (M 45) bz tb la))) M) : gCtr l my_X1_lostWith mb_X1_lostWith 4 ((some .int)) 1 [gR 5, gI bz, gI tb, gI la] M Pq := by
  refine g_intro (by decide) (Nat.le_of_ble_eq_true rfl) ?_
  intro p e s m args below meth c D cy q A hK hr hlocks hw
  refine g_sub (L' := [(0, gR 5), (1, gI bz), (2, gI tb), (3, gI la)]) [0, 1, 2, 3] rfl ?_
  have hj_ := jor32 b1 b3
  refine g_aloadn (pc := 0) (i := 0) (x := 5) hK dd_X1_lostWith_0 rfl rfl ?_
  refine g_getv (pc := 1) (f := (1, 39)) (j := 12) (v := gR 44) hK (kdm kd_5) rfl ef_1 (by decide) rfl kk_284 dd_X1_lostWith_1 rfl ?_
  refine g_iloadn (pc := 4) (i := 3) (x := la) hK dd_X1_lostWith_4 rfl rfl ?_
  refine g_iconst (pc := 5) (x := 5) hK dd_X1_lostWith_5 (by decide) ?_
  refine g_imul (pc := 6) (z := la * 5) hK dd_X1_lostWith_6 rfl ?_
  refine g_iloadn (pc := 7) (i := 2) (x := tb) hK dd_X1_lostWith_7 rfl rfl ?_
  refine g_iadd (pc := 8) (z := (la * 5) + tb) hK dd_X1_lostWith_8 rfl ?_
  refine g_iald (pc := 9) hK (kdm kd_44) nl_44 (by decide) dd_X1_lostWith_9 (by omega) (by omega) (fun x1 ex1 rx1 => ?_)
  refine g_aloadn (pc := 10) (i := 0) (x := 5) hK dd_X1_lostWith_10 rfl rfl ?_
  refine g_getv (pc := 11) (f := (1, 40)) (j := 13) (v := gR 45) hK (kdm kd_5) rfl ef_1 (by decide) rfl kk_285 dd_X1_lostWith_11 rfl ?_
  refine g_iloadn (pc := 14) (i := 1) (x := bz) hK dd_X1_lostWith_14 rfl rfl ?_
  refine g_iconst (pc := 15) (x := 1) hK dd_X1_lostWith_15 (by decide) ?_
  refine g_iloadn (pc := 16) (i := 3) (x := la) hK dd_X1_lostWith_16 rfl rfl ?_
  refine g_ishl (pc := 17) (z := jshl 1 la) hK dd_X1_lostWith_17 rfl ?_
  refine g_ior (pc := 18) (z := jor bz (jshl 1 la)) hK dd_X1_lostWith_18 rfl ?_
  refine g_iald (pc := 19) hK (kdm kd_45) nl_45 (by decide) dd_X1_lostWith_19 (by omega) (by omega) (fun x2 ex2 rx2 => ?_)
  refine g_iadd (pc := 20) (z := x1 + x2) hK dd_X1_lostWith_20 rfl ?_
  refine g_iret (pc := 21) hK hr hlocks dd_X1_lostWith_21 rfl ?_
  exact g_fin hQ (by subst_vars; rfl) (by first | rfl | (subst_vars; rfl))
set_option maxHeartbeats 4000000 in
set_option maxRecDepth 100000 in
theorem c_bestLady {l : Launch} {M : Mem} {Pq : Option gV → Mem → Prop} (bz : Int) (tb : Int) (b1 : 0 ≤ bz ∧ bz < 32) (b2 : 0 ≤ tb ∧ tb ≤ 5) (htc : 0 ≤ M 5 7 ∧ M 5 7 ≤ 5) (hlc : 0 ≤ M 14 3 ∧ M 14 3 ≤ 5) (hw_ : ∀ la : Int, 0 ≤ la → la < M 14 3 → ¬ hb bz la → tb < M 5 7 → (0 ≤ M 44 (la * 5 + tb).toNat ∧ M 44 (la * 5 + tb).toNat ≤ 40000) ∧ 0 ≤ M 45 (jor bz (jshl 1 la)).toNat ∧ M 45 (jor bz (jshl 1 la)).toNat ≤ 400000) (hN : (M 5 7 ≤ tb) → Pq (some (gI (-1))) M) (hY : (tb < M 5 7) → Pq (some (gI ((blS (lwV (M 44) (M 45) bz tb) bz (M 14 3).toNat).1))) M) : gCtr l my_X1_bestLady mb_X1_bestLady 7 ((some .int)) 2 [gR 5, gI bz, gI tb] M Pq := by
  refine g_intro (by decide) (Nat.le_of_ble_eq_true rfl) ?_
  intro p e s m args below meth c D cy q A hK hr hlocks hw
  refine g_sub (L' := [(0, gR 5), (1, gI bz), (2, gI tb)]) [0, 1, 2] rfl ?_
  refine g_iconst (pc := 0) (x := (-1)) hK dd_X1_bestLady_0 (by decide) ?_
  refine g_istoren (pc := 1) (i := 3) (L' := [(0, gR 5), (1, gI bz), (2, gI tb), (3, gI (-1))]) hK dd_X1_bestLady_1 rfl (by decide) rfl ?_
  refine g_iconst (pc := 2) (x := 0) hK dd_X1_bestLady_2 (by decide) ?_
  refine g_istore (pc := 3) (i := 4) (L' := [(0, gR 5), (1, gI bz), (2, gI tb), (3, gI (-1)), (4, gI 0)]) hK dd_X1_bestLady_3 (by decide) rfl ?_
  refine g_iloadn (pc := 5) (i := 2) (x := tb) hK dd_X1_bestLady_5 rfl rfl ?_
  refine g_aloadn (pc := 6) (i := 0) (x := 5) hK dd_X1_bestLady_6 rfl rfl ?_
  refine g_geti (pc := 7) (f := (0, 0)) (j := 7) hK (kdm kd_5) rfl ef_1 (by decide) rfl kk_274 nl_5 dd_X1_bestLady_7 rfl (fun x1 ex1 rx1 => ?_)
  refine g_icmp_lt (pc := 10) (tgt := 15) hK dd_X1_bestLady_10 (by decide) ⟨by omega, by omega⟩ rx1 (fun c2 => ?_) (fun c2 => ?_)
  · refine g_iconst (pc := 15) (x := 0) hK dd_X1_bestLady_15 (by decide) ?_
    refine g_istore (pc := 16) (i := 5) (L' := [(0, gR 5), (1, gI bz), (2, gI tb), (3, gI (-1)), (4, gI 0), (5, gI 0)]) hK dd_X1_bestLady_16 (by decide) rfl ?_
    have lp5 : ∀ (n3 : Nat) (bs : Int) (lt : Int) (la : Int), (0 ≤ la ∧ la ≤ M 14 3) → (bs = (blS (lwV (M 44) (M 45) bz tb) bz la.toNat).1) → (lt = (blS (lwV (M 44) (M 45) bz tb) bz la.toNat).2) → (M 14 3 - la).toNat < n3 → G p l e (rmD 2) s m args below meth c D cy q A 0 0 7 (MQ below (gQc D cy q A Pq) args s 0 0 A) 18 [(0, gR 5), (1, gI bz), (2, gI tb), (3, gI bs), (4, gI lt), (5, gI la)] [] M := by
      intro n3
      induction n3 with
      | zero => intro bs lt la iv6 hbs_ hlt_ hm7; exact absurd hm7 (Nat.not_lt_zero _)
      | succ n3 ih4 =>
        intro bs lt la iv6 hbs_ hlt_ hm7
        refine g_iload (pc := 18) (i := 5) (x := la) hK dd_X1_bestLady_18 rfl ?_
        have hbn_ := blS_in (w := lwV (M 44) (M 45) bz tb) (bz := bz) (A := 440000) (by decide) la.toNat (fun a h0 h1 h2 => by have q_ := hw_ a h0 (by omega) h2 (by omega); unfold lwV; omega)
        rw [← hbs_, ← hlt_] at hbn_
        refine g_aloadn (pc := 20) (i := 0) (x := 5) hK dd_X1_bestLady_20 rfl rfl ?_
        refine g_getv (pc := 21) (f := (1, 9)) (j := 1) (v := gR 14) hK (kdm kd_5) rfl ef_1 (by decide) rfl kk_261 dd_X1_bestLady_21 rfl ?_
        refine g_geti (pc := 24) (f := (0, 0)) (j := 3) hK (kdm kd_14) rfl ef_2 (by decide) rfl kk_124 nl_14 dd_X1_bestLady_24 rfl (fun x8 ex8 rx8 => ?_)
        refine g_icmp_ge (pc := 27) (tgt := 74) hK dd_X1_bestLady_27 (by decide) ⟨by omega, by omega⟩ rx8 (fun c9 => ?_) (fun c9 => ?_)
        · refine g_iloadn (pc := 74) (i := 3) (x := bs) hK dd_X1_bestLady_74 rfl rfl ?_
          refine g_iret (pc := 75) hK hr hlocks dd_X1_bestLady_75 rfl ?_
          exact g_fin (hY (by first | omega | (subst_vars; omega) | exact ⟨by first | assumption | omega | (subst_vars; first | assumption | omega), by first | assumption | omega | (subst_vars; first | assumption | omega)⟩)) (by rw [show M 14 3 = la by omega]; assumption) (by first | rfl | (subst_vars; rfl))
        · refine g_iloadn (pc := 30) (i := 1) (x := bz) hK dd_X1_bestLady_30 rfl rfl ?_
          refine g_iload (pc := 31) (i := 5) (x := la) hK dd_X1_bestLady_31 rfl ?_
          refine g_callTN (pc := 33) (As := [gI bz, gI la]) hK ws_Hall_96 md_X11_hasBit ⟨Nat.zero_le _, Nat.zero_le _⟩ ⟨by decide, by decide⟩ dd_X1_bestLady_33 rfl rfl (Nat.le_of_ble_eq_true rfl) (c_hasBit bz la (fun c10 => g_r1 ?_) (fun c10 => g_r1 ?_))
          · refine g_if_ne (pc := 36) (tgt := 68) hK dd_X1_bestLady_36 (by decide) (by decide) (fun _ => ?_) (fun c11 => absurd (by decide) c11)
            refine g_iinc (pc := 68) (i := 5) (y := la + 1) (L' := [(0, gR 5), (1, gI bz), (2, gI tb), (3, gI bs), (4, gI lt), (5, gI (la + 1))]) hK dd_X1_bestLady_68 rfl rfl (by decide) rfl ?_
            refine g_goto (pc := 71) (tgt := 18) hK dd_X1_bestLady_71 (by decide) ?_
            refine g_sub (L' := [(0, gR 5), (1, gI bz), (2, gI tb), (3, gI bs), (4, gI lt), (5, gI (la + 1))]) [0, 1, 2, 3, 4, 5] rfl ?_
            exact ih4 bs lt (la + 1) (by omega) (by rw [tn1 (by omega)]; simp only [blS]; rw [show ((la.toNat : Nat) : Int) = la by omega]; first | (rw [if_pos ⟨by assumption, by omega⟩]; done) | (rw [if_pos ⟨by assumption, by omega⟩]; first | rfl | omega) | (rw [if_neg (fun z_ => z_.1 (by assumption))]; assumption) | (rw [if_neg (fun z_ => by omega)]; assumption)) (by rw [tn1 (by omega)]; simp only [blS]; rw [show ((la.toNat : Nat) : Int) = la by omega]; first | (rw [if_pos ⟨by assumption, by omega⟩]; done) | (rw [if_pos ⟨by assumption, by omega⟩]; first | rfl | omega) | (rw [if_neg (fun z_ => z_.1 (by assumption))]; assumption) | (rw [if_neg (fun z_ => by omega)]; assumption)) (by omega)
          · refine g_if_ne (pc := 36) (tgt := 68) hK dd_X1_bestLady_36 (by decide) (by decide) (fun c12 => absurd c12 (by decide)) (fun _ => ?_)
            refine g_aloadn (pc := 39) (i := 0) (x := 5) hK dd_X1_bestLady_39 rfl rfl ?_
            refine g_iloadn (pc := 40) (i := 1) (x := bz) hK dd_X1_bestLady_40 rfl rfl ?_
            refine g_iloadn (pc := 41) (i := 2) (x := tb) hK dd_X1_bestLady_41 rfl rfl ?_
            refine g_iload (pc := 42) (i := 5) (x := la) hK dd_X1_bestLady_42 rfl ?_
            refine g_callV (pc := 44) (As := [gI bz, gI tb, gI la]) hK ws_Hall_142 md_X1_lostWith ⟨Nat.zero_le _, Nat.zero_le _⟩ ⟨by decide, by decide⟩ (kdm kd_5) rfl rfl dd_X1_bestLady_44 rfl rfl (Nat.le_of_ble_eq_true rfl) (c_lostWith bz tb la (show 0 ≤ bz ∧ bz < 32 by omega) (show 0 ≤ tb ∧ tb < 5 by omega) (show 0 ≤ la ∧ la < 5 by omega) (g_r1 ?_))
            refine g_topI (fun lw elw => ?_)
            refine g_istore (pc := 47) (i := 6) (L' := [(0, gR 5), (1, gI bz), (2, gI tb), (3, gI bs), (4, gI lt), (5, gI la), (6, gI lw)]) hK dd_X1_bestLady_47 (by decide) rfl ?_
            have hwa_ := hw_ la (by omega) (by omega) (by assumption) (by omega)
            have hlv_ : 0 ≤ lw ∧ lw ≤ 440000 := by rw [elw]; unfold lwV; omega
            refine g_iloadn (pc := 49) (i := 3) (x := bs) hK dd_X1_bestLady_49 rfl rfl ?_
            refine g_iconst (pc := 50) (x := (-1)) hK dd_X1_bestLady_50 (by decide) ?_
            refine g_icmp_eq (pc := 51) (tgt := 61) hK dd_X1_bestLady_51 (by decide) ⟨by omega, by omega⟩ (by decide) (fun c13 => ?_) (fun c13 => ?_)
            · refine g_iload (pc := 61) (i := 5) (x := la) hK dd_X1_bestLady_61 rfl ?_
              refine g_istoren (pc := 63) (i := 3) (L' := [(0, gR 5), (1, gI bz), (2, gI tb), (3, gI la), (4, gI lt), (5, gI la), (6, gI lw)]) hK dd_X1_bestLady_63 rfl (by decide) rfl ?_
              refine g_iload (pc := 64) (i := 6) (x := lw) hK dd_X1_bestLady_64 rfl ?_
              refine g_istore (pc := 66) (i := 4) (L' := [(0, gR 5), (1, gI bz), (2, gI tb), (3, gI la), (4, gI lw), (5, gI la), (6, gI lw)]) hK dd_X1_bestLady_66 (by decide) rfl ?_
              refine g_iinc (pc := 68) (i := 5) (y := la + 1) (L' := [(0, gR 5), (1, gI bz), (2, gI tb), (3, gI la), (4, gI lw), (5, gI (la + 1)), (6, gI lw)]) hK dd_X1_bestLady_68 rfl rfl (by decide) rfl ?_
              refine g_goto (pc := 71) (tgt := 18) hK dd_X1_bestLady_71 (by decide) ?_
              refine g_sub (L' := [(0, gR 5), (1, gI bz), (2, gI tb), (3, gI la), (4, gI lw), (5, gI (la + 1))]) [0, 1, 2, 3, 4, 5] rfl ?_
              exact ih4 la lw (la + 1) (by omega) (by rw [tn1 (by omega)]; simp only [blS]; rw [show ((la.toNat : Nat) : Int) = la by omega]; first | (rw [if_pos ⟨by assumption, by omega⟩]; done) | (rw [if_pos ⟨by assumption, by omega⟩]; first | rfl | omega) | (rw [if_neg (fun z_ => z_.1 (by assumption))]; assumption) | (rw [if_neg (fun z_ => by omega)]; assumption)) (by rw [tn1 (by omega)]; simp only [blS]; rw [show ((la.toNat : Nat) : Int) = la by omega]; first | (rw [if_pos ⟨by assumption, by omega⟩]; done) | (rw [if_pos ⟨by assumption, by omega⟩]; first | rfl | omega) | (rw [if_neg (fun z_ => z_.1 (by assumption))]; assumption) | (rw [if_neg (fun z_ => by omega)]; assumption)) (by omega)
            · refine g_iload (pc := 54) (i := 6) (x := lw) hK dd_X1_bestLady_54 rfl ?_
              refine g_iload (pc := 56) (i := 4) (x := lt) hK dd_X1_bestLady_56 rfl ?_
              refine g_icmp_ge (pc := 58) (tgt := 68) hK dd_X1_bestLady_58 (by decide) ⟨by omega, by omega⟩ ⟨by omega, by omega⟩ (fun c14 => ?_) (fun c14 => ?_)
              · refine g_iinc (pc := 68) (i := 5) (y := la + 1) (L' := [(0, gR 5), (1, gI bz), (2, gI tb), (3, gI bs), (4, gI lt), (5, gI (la + 1)), (6, gI lw)]) hK dd_X1_bestLady_68 rfl rfl (by decide) rfl ?_
                refine g_goto (pc := 71) (tgt := 18) hK dd_X1_bestLady_71 (by decide) ?_
                refine g_sub (L' := [(0, gR 5), (1, gI bz), (2, gI tb), (3, gI bs), (4, gI lt), (5, gI (la + 1))]) [0, 1, 2, 3, 4, 5] rfl ?_
                exact ih4 bs lt (la + 1) (by omega) (by rw [tn1 (by omega)]; simp only [blS]; rw [show ((la.toNat : Nat) : Int) = la by omega]; first | (rw [if_pos ⟨by assumption, by omega⟩]; done) | (rw [if_pos ⟨by assumption, by omega⟩]; first | rfl | omega) | (rw [if_neg (fun z_ => z_.1 (by assumption))]; assumption) | (rw [if_neg (fun z_ => by omega)]; assumption)) (by rw [tn1 (by omega)]; simp only [blS]; rw [show ((la.toNat : Nat) : Int) = la by omega]; first | (rw [if_pos ⟨by assumption, by omega⟩]; done) | (rw [if_pos ⟨by assumption, by omega⟩]; first | rfl | omega) | (rw [if_neg (fun z_ => z_.1 (by assumption))]; assumption) | (rw [if_neg (fun z_ => by omega)]; assumption)) (by omega)
              · refine g_iload (pc := 61) (i := 5) (x := la) hK dd_X1_bestLady_61 rfl ?_
                refine g_istoren (pc := 63) (i := 3) (L' := [(0, gR 5), (1, gI bz), (2, gI tb), (3, gI la), (4, gI lt), (5, gI la), (6, gI lw)]) hK dd_X1_bestLady_63 rfl (by decide) rfl ?_
                refine g_iload (pc := 64) (i := 6) (x := lw) hK dd_X1_bestLady_64 rfl ?_
                refine g_istore (pc := 66) (i := 4) (L' := [(0, gR 5), (1, gI bz), (2, gI tb), (3, gI la), (4, gI lw), (5, gI la), (6, gI lw)]) hK dd_X1_bestLady_66 (by decide) rfl ?_
                refine g_iinc (pc := 68) (i := 5) (y := la + 1) (L' := [(0, gR 5), (1, gI bz), (2, gI tb), (3, gI la), (4, gI lw), (5, gI (la + 1)), (6, gI lw)]) hK dd_X1_bestLady_68 rfl rfl (by decide) rfl ?_
                refine g_goto (pc := 71) (tgt := 18) hK dd_X1_bestLady_71 (by decide) ?_
                refine g_sub (L' := [(0, gR 5), (1, gI bz), (2, gI tb), (3, gI la), (4, gI lw), (5, gI (la + 1))]) [0, 1, 2, 3, 4, 5] rfl ?_
                exact ih4 la lw (la + 1) (by omega) (by rw [tn1 (by omega)]; simp only [blS]; rw [show ((la.toNat : Nat) : Int) = la by omega]; first | (rw [if_pos ⟨by assumption, by omega⟩]; done) | (rw [if_pos ⟨by assumption, by omega⟩]; first | rfl | omega) | (rw [if_neg (fun z_ => z_.1 (by assumption))]; assumption) | (rw [if_neg (fun z_ => by omega)]; assumption)) (by rw [tn1 (by omega)]; simp only [blS]; rw [show ((la.toNat : Nat) : Int) = la by omega]; first | (rw [if_pos ⟨by assumption, by omega⟩]; done) | (rw [if_pos ⟨by assumption, by omega⟩]; first | rfl | omega) | (rw [if_neg (fun z_ => z_.1 (by assumption))]; assumption) | (rw [if_neg (fun z_ => by omega)]; assumption)) (by omega)
    refine g_sub (L' := [(0, gR 5), (1, gI bz), (2, gI tb), (3, gI (-1)), (4, gI 0), (5, gI 0)]) [0, 1, 2, 3, 4, 5] rfl ?_
    exact lp5 _ (-1) 0 0 (by omega) (rfl) (rfl) (Nat.lt_succ_self _)
  · refine g_iconst (pc := 13) (x := (-1)) hK dd_X1_bestLady_13 (by decide) ?_
    refine g_iret (pc := 14) hK hr hlocks dd_X1_bestLady_14 rfl ?_
    first | exact g_fin (hN (by first | omega | (subst_vars; omega) | exact ⟨by first | assumption | omega | (subst_vars; first | assumption | omega), by first | assumption | omega | (subst_vars; first | assumption | omega)⟩)) (by first | rfl | omega | (subst_vars; first | rfl | omega)) (by first | rfl | (subst_vars; rfl)) | exact g_fin (hY (by first | omega | (subst_vars; omega) | exact ⟨by first | assumption | omega | (subst_vars; first | assumption | omega), by first | assumption | omega | (subst_vars; first | assumption | omega)⟩)) (by rw [show M 14 3 = la by omega]; assumption) (by first | rfl | (subst_vars; rfl)) | (exfalso; omega)
