set_option maxHeartbeats 4000000 in
set_option maxRecDepth 100000 in
theorem c_stage {l : Launch} {M : Mem} {Pq : Option gV → Mem → Prop} (h : Int) (ha : Int) (bg : Int) (g1 : inI h) (g2 : inI ha) (g3 : inI bg) (hQ : Pq (some (gI (stg h ha bg))) M) : gCtr l my_X5_stage mb_X5_stage 3 ((some .int)) 1 [gI h, gI ha, gI bg] M Pq := by
  refine g_intro (by decide) (Nat.le_of_ble_eq_true rfl) ?_
  intro p e s m args below meth c D cy q A hK hr hlocks hw
  refine g_sub (L' := [(0, gI h), (1, gI ha), (2, gI bg)]) [0, 1, 2] rfl ?_
  refine g_iloadn (pc := 0) (i := 0) (x := h) hK dd_X5_stage_0 rfl rfl ?_
  refine g_iloadn (pc := 1) (i := 2) (x := bg) hK dd_X5_stage_1 rfl rfl ?_
  refine g_icmp_lt (pc := 2) (tgt := 7) hK dd_X5_stage_2 (by decide) g1 g3 (fun c1 => ?_) (fun c1 => ?_)
  · refine g_iloadn (pc := 7) (i := 0) (x := h) hK dd_X5_stage_7 rfl rfl ?_
    refine g_iloadn (pc := 8) (i := 1) (x := ha) hK dd_X5_stage_8 rfl rfl ?_
    refine g_icmp_lt (pc := 9) (tgt := 16) hK dd_X5_stage_9 (by decide) g1 g2 (fun c2 => ?_) (fun c2 => ?_)
    · refine g_iconst (pc := 16) (x := 0) hK dd_X5_stage_16 (by decide) ?_
      refine g_iret (pc := 17) hK hr hlocks dd_X5_stage_17 rfl ?_
      exact g_fin hQ (by unfold stg; first | (rw [if_pos (by omega)]) | (rw [if_neg (by omega), if_pos (by omega)]) | (rw [if_neg (by omega), if_neg (by omega)])) (by first | rfl | (subst_vars; rfl))
    · refine g_iconst (pc := 12) (x := 1) hK dd_X5_stage_12 (by decide) ?_
      refine g_goto (pc := 13) (tgt := 17) hK dd_X5_stage_13 (by decide) ?_
      refine g_iret (pc := 17) hK hr hlocks dd_X5_stage_17 rfl ?_
      exact g_fin hQ (by unfold stg; first | (rw [if_pos (by omega)]) | (rw [if_neg (by omega), if_pos (by omega)]) | (rw [if_neg (by omega), if_neg (by omega)])) (by first | rfl | (subst_vars; rfl))
  · refine g_iconst (pc := 5) (x := 2) hK dd_X5_stage_5 (by decide) ?_
    refine g_iret (pc := 6) hK hr hlocks dd_X5_stage_6 rfl ?_
    exact g_fin hQ (by unfold stg; first | (rw [if_pos (by omega)]) | (rw [if_neg (by omega), if_pos (by omega)]) | (rw [if_neg (by omega), if_neg (by omega)])) (by first | rfl | (subst_vars; rfl))
set_option maxHeartbeats 4000000 in
set_option maxRecDepth 100000 in
theorem c_cost {l : Launch} {M : Mem} {Pq : Option gV → Mem → Prop} (pr : Int) (sg : Int) (g1 : inI pr) (g2 : inI sg) (hQ : Pq (some (gI (cst pr sg))) M) : gCtr l my_X5_cost mb_X5_cost 2 ((some .int)) 1 [gI pr, gI sg] M Pq := by
  refine g_intro (by decide) (Nat.le_of_ble_eq_true rfl) ?_
  intro p e s m args below meth c D cy q A hK hr hlocks hw
  refine g_sub (L' := [(0, gI pr), (1, gI sg)]) [0, 1] rfl ?_
  refine g_iloadn (pc := 0) (i := 1) (x := sg) hK dd_X5_cost_0 rfl rfl ?_
  refine g_iconst (pc := 1) (x := 2) hK dd_X5_cost_1 (by decide) ?_
  refine g_icmp_ne (pc := 2) (tgt := 8) hK dd_X5_cost_2 (by decide) g2 (by decide) (fun c1 => ?_) (fun c1 => ?_)
  · refine g_iloadn (pc := 8) (i := 1) (x := sg) hK dd_X5_cost_8 rfl rfl ?_
    refine g_iconst (pc := 9) (x := 1) hK dd_X5_cost_9 (by decide) ?_
    refine g_icmp_ne (pc := 10) (tgt := 19) hK dd_X5_cost_10 (by decide) g2 (by decide) (fun c2 => ?_) (fun c2 => ?_)
    · refine g_iloadn (pc := 19) (i := 0) (x := pr) hK dd_X5_cost_19 rfl rfl ?_
      refine g_iret (pc := 20) hK hr hlocks dd_X5_cost_20 rfl ?_
      exact g_fin hQ (by first | (rw [cst_2 (by omega)]) | (rw [cst_1 (by omega)]) | (rw [cst_0 (by omega)])) (by first | rfl | (subst_vars; rfl))
    · refine g_iloadn (pc := 13) (i := 0) (x := pr) hK dd_X5_cost_13 rfl rfl ?_
      refine g_iconst (pc := 14) (x := 2) hK dd_X5_cost_14 (by decide) ?_
      refine g_idiv (pc := 15) (z := pr.tdiv 2) hK dd_X5_cost_15 g1 (by decide) (by decide) rfl ?_
      refine g_goto (pc := 16) (tgt := 20) hK dd_X5_cost_16 (by decide) ?_
      refine g_iret (pc := 20) hK hr hlocks dd_X5_cost_20 rfl ?_
      exact g_fin hQ (by first | (rw [cst_2 (by omega)]) | (rw [cst_1 (by omega)]) | (rw [cst_0 (by omega)])) (by first | rfl | (subst_vars; rfl))
  · refine g_bipush (pc := 5) (x := 10) hK dd_X5_cost_5 (by decide) ?_
    refine g_iret (pc := 7) hK hr hlocks dd_X5_cost_7 rfl ?_
    exact g_fin hQ (by first | (rw [cst_2 (by omega)]) | (rw [cst_1 (by omega)]) | (rw [cst_0 (by omega)])) (by first | rfl | (subst_vars; rfl))
set_option maxHeartbeats 4000000 in
set_option maxRecDepth 100000 in
theorem c_open {l : Launch} {M : Mem} {Pq : Option gV → Mem → Prop} (ha : Int) (bg : Int) (g2 : inI ha) (g3 : inI bg) (hc : 0 ≤ M 6 6 ∧ M 6 6 ≤ 30) (hbc : 0 ≤ M 21 5 ∧ M 21 5 ≤ 12) (hth : thOK M) (hbu : buOK M) (hQ : ∀ (lc : Int) (lf : Nat → Int) (tr : Nat → Int) (sb : Nat → Int) (pu : Nat → Int) (id : Nat → Int), (0 ≤ lc ∧ Lst lf lc.toNat (M 6 6).toNat (fun z => ¬ M 10 z = -1 ∧ M 11 z = -1)) ∧ (∀ z, z < (M 6 6).toNat → ¬ M 10 z = -1 ∧ M 11 z = -1 → tr z = TWf (M 7) (M 8) (M 9) z) ∧ (∀ z, z < (M 6 6).toNat → sb z = -1) ∧ (∀ z, z < (M 21 5).toNat → pu z = M 23 z) ∧ (∀ z, z < (M 21 5).toNat → id z = -1) → Pq none (sr (sr (sr (sr (sr (sr M 87 (us (us (us (M 87) 0 ha) 1 bg) 3 lc)) 88 lf) 89 tr) 90 sb) 92 pu) 93 id)) : gCtr l my_X5_open mb_X5_open 6 ((none : Option Jvm.ClassFile.FieldType)) 4 [gR 87, gR 5, gI ha, gI bg] M Pq := by
  refine g_intro (by decide) (Nat.le_of_ble_eq_true rfl) ?_
  intro p e s m args below meth c D cy q A hK hr hlocks hw
  refine g_sub (L' := [(0, gR 87), (1, gR 5), (2, gI ha), (3, gI bg)]) [0, 1, 2, 3] rfl ?_
  refine g_aloadn (pc := 0) (i := 1) (x := 5) hK dd_X5_open_0 rfl rfl ?_
  refine g_getv (pc := 1) (f := (1, 1)) (j := 0) (v := gR 6) hK (kdm kd_5) rfl ef_1 (by decide) rfl kk_259 dd_X5_open_1 rfl ?_
  refine g_astore (pc := 4) (i := 4) (L' := [(0, gR 87), (1, gR 5), (2, gI ha), (3, gI bg), (4, gR 6)]) hK dd_X5_open_4 (by decide) rfl ?_
  refine g_aloadn (pc := 6) (i := 0) (x := 87) hK dd_X5_open_6 rfl rfl ?_
  refine g_iloadn (pc := 7) (i := 2) (x := ha) hK dd_X5_open_7 rfl rfl ?_
  refine g_puti (pc := 8) (f := (0, 0)) (j := 0) (ty := .int) hK (kdm kd_87) rfl ef_5 (by decide) rfl kk_322 nl_87 (by decide) dd_X5_open_8 rfl rfl rfl rfl rfl g2 ?_
  refine g_aloadn (pc := 11) (i := 0) (x := 87) hK dd_X5_open_11 rfl rfl ?_
  refine g_iloadn (pc := 12) (i := 3) (x := bg) hK dd_X5_open_12 rfl rfl ?_
  refine g_puti (pc := 13) (f := (0, 0)) (j := 1) (ty := .int) hK (kdm kd_87) rfl ef_5 (by decide) rfl kk_323 nl_87 (by decide) dd_X5_open_13 rfl rfl rfl rfl rfl g3 ?_
  refine g_aloadn (pc := 16) (i := 0) (x := 87) hK dd_X5_open_16 rfl rfl ?_
  refine g_iconst (pc := 17) (x := 0) hK dd_X5_open_17 (by decide) ?_
  refine g_puti (pc := 18) (f := (0, 0)) (j := 3) (ty := .int) hK (kdm kd_87) rfl ef_5 (by decide) rfl kk_325 nl_87 (by decide) dd_X5_open_18 rfl rfl rfl rfl rfl (by decide) ?_
  refine g_iconst (pc := 21) (x := 0) hK dd_X5_open_21 (by decide) ?_
  refine g_istore (pc := 22) (i := 5) (L' := [(0, gR 87), (1, gR 5), (2, gI ha), (3, gI bg), (4, gR 6), (5, gI 0)]) hK dd_X5_open_22 (by decide) rfl ?_
  have lp3 : ∀ (n1 : Nat) (t : Int) (lc : Int) (lf : Nat → Int) (tr : Nat → Int) (sb : Nat → Int), (0 ≤ t ∧ t ≤ M 6 6) → (0 ≤ lc) → (Lst lf lc.toNat t.toNat (fun z => ¬ M 10 z = -1 ∧ M 11 z = -1)) → (∀ z, z < t.toNat → ¬ M 10 z = -1 ∧ M 11 z = -1 → tr z = TWf (M 7) (M 8) (M 9) z) → (∀ z, z < t.toNat → sb z = -1) → (M 6 6 - t).toNat < n1 → G p l e (rmD 4) s m args below meth c D cy q A 0 0 6 (MQ below (gQc D cy q A Pq) args s 0 0 A) 24 [(0, gR 87), (1, gR 5), (2, gI ha), (3, gI bg), (4, gR 6), (5, gI t)] [] (sr (sr (sr (sr M 87 (us (us (us (M 87) 0 ha) 1 bg) 3 lc)) 88 lf) 89 tr) 90 sb) := by
    intro n1
    induction n1 with
    | zero => intro t lc lf tr sb iv4 hl0_ hl_ htr_ hsb_ hm5; exact absurd hm5 (Nat.not_lt_zero _)
    | succ n1 ih2 =>
      intro t lc lf tr sb iv4 hl0_ hl_ htr_ hsb_ hm5
      refine g_iload (pc := 24) (i := 5) (x := t) hK dd_X5_open_24 rfl ?_
      have hll_ := Lst_len hl_
      refine g_aload (pc := 26) (i := 4) (x := 6) hK dd_X5_open_26 rfl ?_
      refine g_geti (pc := 28) (f := (0, 0)) (j := 6) hK (kdm kd_6) rfl ef_10 (by decide) rfl kk_88 nl_6 dd_X5_open_28 rfl (fun x6 ex6 rx6 => ?_)
      replace ex6 : x6 = M 6 6 := ex6
      refine g_icmp_ge (pc := 31) (tgt := 93) hK dd_X5_open_31 (by decide) ⟨by omega, by omega⟩ rx6 (fun c7 => ?_) (fun c7 => ?_)
      · refine g_iconst (pc := 93) (x := 0) hK dd_X5_open_93 (by decide) ?_
        refine g_istore (pc := 94) (i := 5) (L' := [(0, gR 87), (1, gR 5), (2, gI ha), (3, gI bg), (4, gR 6), (5, gI 0)]) hK dd_X5_open_94 (by decide) rfl ?_
        have lp10 : ∀ (n8 : Nat) (b : Int) (pu : Nat → Int) (id : Nat → Int), (0 ≤ b ∧ b ≤ M 21 5) → (∀ z, z < b.toNat → pu z = M 23 z) → (∀ z, z < b.toNat → id z = -1) → (M 21 5 - b).toNat < n8 → G p l e (rmD 4) s m args below meth c D cy q A 0 0 6 (MQ below (gQc D cy q A Pq) args s 0 0 A) 96 [(0, gR 87), (1, gR 5), (2, gI ha), (3, gI bg), (4, gR 6), (5, gI b)] [] (sr (sr (sr (sr (sr (sr M 87 (us (us (us (M 87) 0 ha) 1 bg) 3 lc)) 88 lf) 89 tr) 90 sb) 92 pu) 93 id) := by
          intro n8
          induction n8 with
          | zero => intro b pu id iv11 hpu_ hid_ hm12; exact absurd hm12 (Nat.not_lt_zero _)
          | succ n8 ih9 =>
            intro b pu id iv11 hpu_ hid_ hm12
            refine g_iload (pc := 96) (i := 5) (x := b) hK dd_X5_open_96 rfl ?_
            refine g_aloadn (pc := 98) (i := 1) (x := 5) hK dd_X5_open_98 rfl rfl ?_
            refine g_getv (pc := 99) (f := (1, 16)) (j := 3) (v := gR 21) hK (kdm kd_5) rfl ef_1 (by decide) rfl kk_266 dd_X5_open_99 rfl ?_
            refine g_geti (pc := 102) (f := (0, 0)) (j := 5) hK (kdm kd_21) rfl ef_0 (by decide) rfl kk_175 nl_21 dd_X5_open_102 rfl (fun x13 ex13 rx13 => ?_)
            replace ex13 : x13 = M 21 5 := ex13
            refine g_icmp_ge (pc := 105) (tgt := 139) hK dd_X5_open_105 (by decide) ⟨by omega, by omega⟩ rx13 (fun c14 => ?_) (fun c14 => ?_)
            · refine g_vret (pc := 139) hK hr hlocks dd_X5_open_139 ?_
              exact g_finM (hQ _ _ _ _ _ _ ⟨⟨hl0_, by rw [show M 6 6 = t by omega]; exact hl_⟩, fun z hz => htr_ z (by omega), fun z hz => hsb_ z (by omega), fun z hz => hpu_ z (by omega), fun z hz => hid_ z (by omega)⟩) rfl
            · refine g_aloadn (pc := 108) (i := 0) (x := 87) hK dd_X5_open_108 rfl rfl ?_
              refine g_getv (pc := 109) (f := (1, 5)) (j := 7) (v := gR 92) hK (kdm kd_87) rfl ef_5 (by decide) rfl kk_329 dd_X5_open_109 rfl ?_
              refine g_iload (pc := 112) (i := 5) (x := b) hK dd_X5_open_112 rfl ?_
              refine g_aloadn (pc := 114) (i := 1) (x := 5) hK dd_X5_open_114 rfl rfl ?_
              refine g_getv (pc := 115) (f := (1, 16)) (j := 3) (v := gR 21) hK (kdm kd_5) rfl ef_1 (by decide) rfl kk_266 dd_X5_open_115 rfl ?_
              refine g_getv (pc := 118) (f := (1, 2)) (j := 1) (v := gR 23) hK (kdm kd_21) rfl ef_0 (by decide) rfl kk_163 dd_X5_open_118 rfl ?_
              refine g_iload (pc := 121) (i := 5) (x := b) hK dd_X5_open_121 rfl ?_
              refine g_iald (pc := 123) hK (kdm kd_23) nl_23 (by decide) dd_X5_open_123 (by omega) (by omega) (fun x15 ex15 rx15 => ?_)
              replace ex15 : x15 = M 23 b.toNat := ex15
              refine g_iast (pc := 124) hK (kdm kd_92) nl_92 (by decide) (by decide) dd_X5_open_124 (by omega) (by omega) rx15 ?_
              refine g_aloadn (pc := 125) (i := 0) (x := 87) hK dd_X5_open_125 rfl rfl ?_
              refine g_getv (pc := 126) (f := (1, 6)) (j := 8) (v := gR 93) hK (kdm kd_87) rfl ef_5 (by decide) rfl kk_330 dd_X5_open_126 rfl ?_
              refine g_iload (pc := 129) (i := 5) (x := b) hK dd_X5_open_129 rfl ?_
              refine g_iconst (pc := 131) (x := (-1)) hK dd_X5_open_131 (by decide) ?_
              refine g_iast (pc := 132) hK (kdm kd_93) nl_93 (by decide) (by decide) dd_X5_open_132 (by omega) (by omega) (by decide) ?_
              refine g_iinc (pc := 133) (i := 5) (y := b + 1) (L' := [(0, gR 87), (1, gR 5), (2, gI ha), (3, gI bg), (4, gR 6), (5, gI (b + 1))]) hK dd_X5_open_133 rfl rfl (by decide) rfl ?_
              refine g_goto (pc := 136) (tgt := 96) hK dd_X5_open_136 (by decide) ?_
              refine g_sub (L' := [(0, gR 87), (1, gR 5), (2, gI ha), (3, gI bg), (4, gR 6), (5, gI (b + 1))]) [0, 1, 2, 3, 4, 5] rfl ?_
              refine g_mem (M2 := sr (sr (sr (sr (sr (sr M 87 (us (us (us (M 87) 0 ha) 1 bg) 3 lc)) 88 lf) 89 tr) 90 sb) 92 (us pu b.toNat x15)) 93 (us id b.toNat (-1))) (by simp (disch := decide) only [Int.reduceToNat, up_sr, sr_cp, sr_k, sr_o, sr_sr, us_us, @sr_lt _ 88 87 _ _ (by decide), @sr_lt _ 89 87 _ _ (by decide), @sr_lt _ 89 88 _ _ (by decide), @sr_lt _ 90 87 _ _ (by decide), @sr_lt _ 90 88 _ _ (by decide), @sr_lt _ 90 89 _ _ (by decide), @sr_lt _ 91 87 _ _ (by decide), @sr_lt _ 91 88 _ _ (by decide), @sr_lt _ 91 89 _ _ (by decide), @sr_lt _ 91 90 _ _ (by decide), @sr_lt _ 92 87 _ _ (by decide), @sr_lt _ 92 88 _ _ (by decide), @sr_lt _ 92 89 _ _ (by decide), @sr_lt _ 92 90 _ _ (by decide), @sr_lt _ 92 91 _ _ (by decide), @sr_lt _ 93 87 _ _ (by decide), @sr_lt _ 93 88 _ _ (by decide), @sr_lt _ 93 89 _ _ (by decide), @sr_lt _ 93 90 _ _ (by decide), @sr_lt _ 93 91 _ _ (by decide), @sr_lt _ 93 92 _ _ (by decide)]; try rfl) ?_
              exact ih9 (b + 1) (us pu b.toNat x15) (us id b.toNat (-1)) (by omega) (fun z hz => by
                rw [us_i]
                by_cases ez : z = b.toNat
                · rw [if_pos ez, ez]; subst_vars; rfl
                · rw [if_neg ez]; exact hpu_ z (by omega)) (fun z hz => by
                rw [us_i]
                by_cases ez : z = b.toNat
                · rw [if_pos ez]
                · rw [if_neg ez]; exact hid_ z (by omega)) (by omega)
        refine g_mem (M2 := sr (sr (sr (sr (sr (sr M 87 (us (us (us (M 87) 0 ha) 1 bg) 3 lc)) 88 lf) 89 tr) 90 sb) 92 (M 92)) 93 (M 93)) (by refine Eq.trans ?_ (sr_id (k := 93) rfl).symm; exact (sr_id (k := 92) rfl).symm) ?_
        refine g_sub (L' := [(0, gR 87), (1, gR 5), (2, gI ha), (3, gI bg), (4, gR 6), (5, gI 0)]) [0, 1, 2, 3, 4, 5] rfl ?_
        exact lp10 _ 0 (M 92) (M 93) (by omega) (fun z hz => absurd hz (Nat.not_lt_zero _)) (fun z hz => absurd hz (Nat.not_lt_zero _)) (Nat.lt_succ_self _)
      · refine g_aloadn (pc := 34) (i := 0) (x := 87) hK dd_X5_open_34 rfl rfl ?_
        refine g_getv (pc := 35) (f := (1, 3)) (j := 5) (v := gR 90) hK (kdm kd_87) rfl ef_5 (by decide) rfl kk_327 dd_X5_open_35 rfl ?_
        refine g_iload (pc := 38) (i := 5) (x := t) hK dd_X5_open_38 rfl ?_
        refine g_iconst (pc := 40) (x := (-1)) hK dd_X5_open_40 (by decide) ?_
        refine g_iast (pc := 41) hK (kdm kd_90) nl_90 (by decide) (by decide) dd_X5_open_41 (by omega) (by omega) (by decide) ?_
        refine g_aload (pc := 42) (i := 4) (x := 6) hK dd_X5_open_42 rfl ?_
        refine g_iload (pc := 44) (i := 5) (x := t) hK dd_X5_open_44 rfl ?_
        refine g_callV (pc := 46) (As := [gI t]) hK ws_Sale_51 md_X10_isOffered ⟨Nat.zero_le _, Nat.zero_le _⟩ ⟨by decide, by decide⟩ (kdm kd_6) rfl rfl dd_X5_open_46 rfl rfl (Nat.le_of_ble_eq_true rfl) (c_isOffered t (show 0 ≤ t by omega) (show t < 30 by omega) (fun c16 => g_r1 ?_) (fun c16 => g_r1 ?_))
        · refine g_if_eq (pc := 49) (tgt := 87) hK dd_X5_open_49 (by decide) (by decide) (fun c17 => absurd c17 (by decide)) (fun _ => ?_)
          have hcq_ : ¬ M 10 t.toNat = -1 ∧ M 11 t.toNat = -1 := c16
          have htt := hth t.toNat (by omega)
          have htw := TW_in (M 7 t.toNat) (M 9 t.toNat) htt.2.1.1 htt.2.1.2
          refine g_aloadn (pc := 52) (i := 0) (x := 87) hK dd_X5_open_52 rfl rfl ?_
          refine g_getv (pc := 53) (f := (1, 2)) (j := 4) (v := gR 89) hK (kdm kd_87) rfl ef_5 (by decide) rfl kk_326 dd_X5_open_53 rfl ?_
          refine g_iload (pc := 56) (i := 5) (x := t) hK dd_X5_open_56 rfl ?_
          refine g_aload (pc := 58) (i := 4) (x := 6) hK dd_X5_open_58 rfl ?_
          refine g_iload (pc := 60) (i := 5) (x := t) hK dd_X5_open_60 rfl ?_
          refine g_callV (pc := 62) (As := [gI t]) hK ws_Sale_55 md_X10_trueWorth ⟨Nat.zero_le _, Nat.zero_le _⟩ ⟨by decide, by decide⟩ (kdm kd_6) rfl rfl dd_X5_open_62 rfl rfl (Nat.le_of_ble_eq_true rfl) (c_trueWorth t (by omega) (by omega) hth (g_r1 ?_))
          refine g_topI (fun y18 ey18 => ?_)
          replace ey18 : y18 = TW (M 7 t.toNat) (M 8 t.toNat) (M 9 t.toNat) := ey18
          refine g_iast (pc := 65) hK (kdm kd_89) nl_89 (by decide) (by decide) dd_X5_open_65 (by omega) (by omega) ⟨by omega, by omega⟩ ?_
          refine g_aloadn (pc := 66) (i := 0) (x := 87) hK dd_X5_open_66 rfl rfl ?_
          refine g_getv (pc := 67) (f := (1, 1)) (j := 2) (v := gR 88) hK (kdm kd_87) rfl ef_5 (by decide) rfl kk_324 dd_X5_open_67 rfl ?_
          refine g_aloadn (pc := 70) (i := 0) (x := 87) hK dd_X5_open_70 rfl rfl ?_
          refine g_geti (pc := 71) (f := (0, 0)) (j := 3) hK (kdm kd_87) rfl ef_5 (by decide) rfl kk_325 nl_87 dd_X5_open_71 rfl (fun x19 ex19 rx19 => ?_)
          replace ex19 : x19 = (us (us (us (M 87) 0 ha) 1 bg) 3 lc) 3 := by first | exact ex19 | (rw [ex19]; simp [up, us, cp, sr])
          replace ex19 : x19 = lc := ex19
          refine g_iload (pc := 74) (i := 5) (x := t) hK dd_X5_open_74 rfl ?_
          refine g_iast (pc := 76) hK (kdm kd_88) nl_88 (by decide) (by decide) dd_X5_open_76 (by omega) (by omega) ⟨by omega, by omega⟩ ?_
          refine g_aloadn (pc := 77) (i := 0) (x := 87) hK dd_X5_open_77 rfl rfl ?_
          refine g_dup (pc := 78) hK dd_X5_open_78 rfl ?_
          refine g_geti (pc := 79) (f := (0, 0)) (j := 3) hK (kdm kd_87) rfl ef_5 (by decide) rfl kk_325 nl_87 dd_X5_open_79 rfl (fun x20 ex20 rx20 => ?_)
          replace ex20 : x20 = (us (us (us (M 87) 0 ha) 1 bg) 3 lc) 3 := by first | exact ex20 | (rw [ex20]; simp [up, us, cp, sr])
          replace ex20 : x20 = lc := ex20
          refine g_iconst (pc := 82) (x := 1) hK dd_X5_open_82 (by decide) ?_
          refine g_iadd (pc := 83) (z := x20 + 1) hK dd_X5_open_83 rfl ?_
          refine g_puti (pc := 84) (f := (0, 0)) (j := 3) (ty := .int) hK (kdm kd_87) rfl ef_5 (by decide) rfl kk_325 nl_87 (by decide) dd_X5_open_84 rfl rfl rfl rfl rfl ⟨by omega, by omega⟩ ?_
          have hL_ : Lst (us lf x19.toNat t) (x20 + 1).toNat (t.toNat + 1) (fun z => ¬ M 10 z = -1 ∧ M 11 z = -1) := by rw [ex19, ex20, tn1 hl0_]; have h_ := Lst_add hl_ hcq_; rw [show ((t.toNat : Nat) : Int) = t by omega] at h_; exact h_
          refine g_iinc (pc := 87) (i := 5) (y := t + 1) (L' := [(0, gR 87), (1, gR 5), (2, gI ha), (3, gI bg), (4, gR 6), (5, gI (t + 1))]) hK dd_X5_open_87 rfl rfl (by decide) rfl ?_
          refine g_goto (pc := 90) (tgt := 24) hK dd_X5_open_90 (by decide) ?_
          refine g_sub (L' := [(0, gR 87), (1, gR 5), (2, gI ha), (3, gI bg), (4, gR 6), (5, gI (t + 1))]) [0, 1, 2, 3, 4, 5] rfl ?_
          refine g_mem (M2 := sr (sr (sr (sr M 87 (us (us (us (M 87) 0 ha) 1 bg) 3 (x20 + 1))) 88 (us lf x19.toNat t)) 89 (us tr t.toNat y18)) 90 (us sb t.toNat (-1))) (by simp (disch := decide) only [Int.reduceToNat, up_sr, sr_cp, sr_k, sr_o, sr_sr, us_us, @sr_lt _ 88 87 _ _ (by decide), @sr_lt _ 89 87 _ _ (by decide), @sr_lt _ 89 88 _ _ (by decide), @sr_lt _ 90 87 _ _ (by decide), @sr_lt _ 90 88 _ _ (by decide), @sr_lt _ 90 89 _ _ (by decide), @sr_lt _ 91 87 _ _ (by decide), @sr_lt _ 91 88 _ _ (by decide), @sr_lt _ 91 89 _ _ (by decide), @sr_lt _ 91 90 _ _ (by decide), @sr_lt _ 92 87 _ _ (by decide), @sr_lt _ 92 88 _ _ (by decide), @sr_lt _ 92 89 _ _ (by decide), @sr_lt _ 92 90 _ _ (by decide), @sr_lt _ 92 91 _ _ (by decide), @sr_lt _ 93 87 _ _ (by decide), @sr_lt _ 93 88 _ _ (by decide), @sr_lt _ 93 89 _ _ (by decide), @sr_lt _ 93 90 _ _ (by decide), @sr_lt _ 93 91 _ _ (by decide), @sr_lt _ 93 92 _ _ (by decide)]; try rfl) ?_
          exact ih2 (t + 1) (x20 + 1) (us lf x19.toNat t) (us tr t.toNat y18) (us sb t.toNat (-1)) (by omega) (by omega) (by rw [tn1 (t := t) (by omega)]; first | exact hL_ | exact Lst_skip hl_ hcn_) (fun z hz hq => by
            first
            | (rw [us_i]; by_cases ez : z = t.toNat
               · subst ez; rw [if_pos rfl]; subst_vars; rfl
               · rw [if_neg ez]; exact htr_ z (by omega) hq)
            | (by_cases ez : z = t.toNat
               · subst ez; exact absurd hq hcn_
               · exact htr_ z (by omega) hq)) (fun z hz => by
            rw [us_i]
            by_cases ez : z = t.toNat
            · rw [if_pos ez]
            · rw [if_neg ez]; exact hsb_ z (by omega)) (by omega)
        · refine g_if_eq (pc := 49) (tgt := 87) hK dd_X5_open_49 (by decide) (by decide) (fun _ => ?_) (fun c21 => absurd (by decide) c21)
          have hcn_ : ¬ (¬ M 10 t.toNat = -1 ∧ M 11 t.toNat = -1) := c16
          refine g_iinc (pc := 87) (i := 5) (y := t + 1) (L' := [(0, gR 87), (1, gR 5), (2, gI ha), (3, gI bg), (4, gR 6), (5, gI (t + 1))]) hK dd_X5_open_87 rfl rfl (by decide) rfl ?_
          refine g_goto (pc := 90) (tgt := 24) hK dd_X5_open_90 (by decide) ?_
          refine g_sub (L' := [(0, gR 87), (1, gR 5), (2, gI ha), (3, gI bg), (4, gR 6), (5, gI (t + 1))]) [0, 1, 2, 3, 4, 5] rfl ?_
          refine g_mem (M2 := sr (sr (sr (sr M 87 (us (us (us (M 87) 0 ha) 1 bg) 3 lc)) 88 lf) 89 tr) 90 (us sb t.toNat (-1))) (by simp (disch := decide) only [Int.reduceToNat, up_sr, sr_cp, sr_k, sr_o, sr_sr, us_us, @sr_lt _ 88 87 _ _ (by decide), @sr_lt _ 89 87 _ _ (by decide), @sr_lt _ 89 88 _ _ (by decide), @sr_lt _ 90 87 _ _ (by decide), @sr_lt _ 90 88 _ _ (by decide), @sr_lt _ 90 89 _ _ (by decide), @sr_lt _ 91 87 _ _ (by decide), @sr_lt _ 91 88 _ _ (by decide), @sr_lt _ 91 89 _ _ (by decide), @sr_lt _ 91 90 _ _ (by decide), @sr_lt _ 92 87 _ _ (by decide), @sr_lt _ 92 88 _ _ (by decide), @sr_lt _ 92 89 _ _ (by decide), @sr_lt _ 92 90 _ _ (by decide), @sr_lt _ 92 91 _ _ (by decide), @sr_lt _ 93 87 _ _ (by decide), @sr_lt _ 93 88 _ _ (by decide), @sr_lt _ 93 89 _ _ (by decide), @sr_lt _ 93 90 _ _ (by decide), @sr_lt _ 93 91 _ _ (by decide), @sr_lt _ 93 92 _ _ (by decide)]; try rfl) ?_
          exact ih2 (t + 1) lc lf tr (us sb t.toNat (-1)) (by omega) (by omega) (by rw [tn1 (t := t) (by omega)]; first | exact hL_ | exact Lst_skip hl_ hcn_) (fun z hz hq => by
            first
            | (rw [us_i]; by_cases ez : z = t.toNat
               · subst ez; rw [if_pos rfl]; subst_vars; rfl
               · rw [if_neg ez]; exact htr_ z (by omega) hq)
            | (by_cases ez : z = t.toNat
               · subst ez; exact absurd hq hcn_
               · exact htr_ z (by omega) hq)) (fun z hz => by
            rw [us_i]
            by_cases ez : z = t.toNat
            · rw [if_pos ez]
            · rw [if_neg ez]; exact hsb_ z (by omega)) (by omega)
  refine g_mem (M2 := sr (sr (sr (sr M 87 (us (us (us (M 87) 0 ha) 1 bg) 3 0)) 88 (M 88)) 89 (M 89)) 90 (M 90)) (by refine Eq.trans ?_ (sr_id (k := 90) rfl).symm; refine Eq.trans ?_ (sr_id (k := 89) rfl).symm; refine Eq.trans ?_ (sr_id (k := 88) rfl).symm; simp (disch := decide) only [Int.reduceToNat, up_sr, sr_cp, sr_k, sr_o, sr_sr, us_us, @sr_lt _ 88 87 _ _ (by decide), @sr_lt _ 89 87 _ _ (by decide), @sr_lt _ 89 88 _ _ (by decide), @sr_lt _ 90 87 _ _ (by decide), @sr_lt _ 90 88 _ _ (by decide), @sr_lt _ 90 89 _ _ (by decide), @sr_lt _ 91 87 _ _ (by decide), @sr_lt _ 91 88 _ _ (by decide), @sr_lt _ 91 89 _ _ (by decide), @sr_lt _ 91 90 _ _ (by decide), @sr_lt _ 92 87 _ _ (by decide), @sr_lt _ 92 88 _ _ (by decide), @sr_lt _ 92 89 _ _ (by decide), @sr_lt _ 92 90 _ _ (by decide), @sr_lt _ 92 91 _ _ (by decide), @sr_lt _ 93 87 _ _ (by decide), @sr_lt _ 93 88 _ _ (by decide), @sr_lt _ 93 89 _ _ (by decide), @sr_lt _ 93 90 _ _ (by decide), @sr_lt _ 93 91 _ _ (by decide), @sr_lt _ 93 92 _ _ (by decide)]; try rfl) ?_
  refine g_sub (L' := [(0, gR 87), (1, gR 5), (2, gI ha), (3, gI bg), (4, gR 6), (5, gI 0)]) [0, 1, 2, 3, 4, 5] rfl ?_
  exact lp3 _ 0 0 (M 88) (M 89) (M 90) (by omega) (by omega) (Lst_0) (fun z hz => absurd hz (Nat.not_lt_zero _)) (fun z hz => absurd hz (Nat.not_lt_zero _)) (Nat.lt_succ_self _)
set_option maxHeartbeats 4000000 in
set_option maxRecDepth 100000 in
theorem c_placeWanted {l : Launch} {M : Mem} {Pq : Option gV → Mem → Prop} (b : Int) (sg : Int) (b1 : 0 ≤ b) (b2 : b < 12) (g1 : inI sg) (hle : (0 ≤ M 87 3 ∧ M 87 3 ≤ 30) ∧ ∀ i, i < (M 87 3).toNat → (0 ≤ M 88 i ∧ M 88 i < 30) ∧ 0 ≤ M 10 (M 88 i).toNat ∧ M 10 (M 88 i).toNat ≤ 999 ∧ 0 ≤ M 89 (M 88 i).toNat ∧ M 89 (M 88 i).toNat ≤ 1049) (hbu : buOK M) (hQ : Pq (some (gI ((pl (M 88) (M 10) (M 7) (M 89) (M 24 b.toNat) (M 25 b.toNat) (M 92 b.toNat) sg (M 87 3).toNat).1))) M) : gCtr l my_X5_placeWanted mb_X5_placeWanted 12 ((some .int)) 3 [gR 87, gR 5, gI b, gI sg] M Pq := by
  refine g_intro (by decide) (Nat.le_of_ble_eq_true rfl) ?_
  intro p e s m args below meth c D cy q A hK hr hlocks hw
  refine g_sub (L' := [(0, gR 87), (1, gR 5), (2, gI b), (3, gI sg)]) [0, 1, 2, 3] rfl ?_
  have hbb := hbu b.toNat (by omega)
  refine g_aloadn (pc := 0) (i := 1) (x := 5) hK dd_X5_placeWanted_0 rfl rfl ?_
  refine g_getv (pc := 1) (f := (1, 1)) (j := 0) (v := gR 6) hK (kdm kd_5) rfl ef_1 (by decide) rfl kk_259 dd_X5_placeWanted_1 rfl ?_
  refine g_astore (pc := 4) (i := 4) (L' := [(0, gR 87), (1, gR 5), (2, gI b), (3, gI sg), (4, gR 6)]) hK dd_X5_placeWanted_4 (by decide) rfl ?_
  refine g_aloadn (pc := 6) (i := 1) (x := 5) hK dd_X5_placeWanted_6 rfl rfl ?_
  refine g_getv (pc := 7) (f := (1, 16)) (j := 3) (v := gR 21) hK (kdm kd_5) rfl ef_1 (by decide) rfl kk_266 dd_X5_placeWanted_7 rfl ?_
  refine g_astore (pc := 10) (i := 5) (L' := [(0, gR 87), (1, gR 5), (2, gI b), (3, gI sg), (4, gR 6), (5, gR 21)]) hK dd_X5_placeWanted_10 (by decide) rfl ?_
  refine g_iconst (pc := 12) (x := (-1)) hK dd_X5_placeWanted_12 (by decide) ?_
  refine g_istore (pc := 13) (i := 6) (L' := [(0, gR 87), (1, gR 5), (2, gI b), (3, gI sg), (4, gR 6), (5, gR 21), (6, gI (-1))]) hK dd_X5_placeWanted_13 (by decide) rfl ?_
  refine g_iconst (pc := 15) (x := (-1)) hK dd_X5_placeWanted_15 (by decide) ?_
  refine g_istore (pc := 16) (i := 7) (L' := [(0, gR 87), (1, gR 5), (2, gI b), (3, gI sg), (4, gR 6), (5, gR 21), (6, gI (-1)), (7, gI (-1))]) hK dd_X5_placeWanted_16 (by decide) rfl ?_
  refine g_iconst (pc := 18) (x := 0) hK dd_X5_placeWanted_18 (by decide) ?_
  refine g_istore (pc := 19) (i := 8) (L' := [(0, gR 87), (1, gR 5), (2, gI b), (3, gI sg), (4, gR 6), (5, gR 21), (6, gI (-1)), (7, gI (-1)), (8, gI 0)]) hK dd_X5_placeWanted_19 (by decide) rfl ?_
  have lp3 : ∀ (n1 : Nat) (f : Int) (w : Int) (pc_ : Int), (0 ≤ pc_ ∧ pc_ ≤ M 87 3) → (f = (pl (M 88) (M 10) (M 7) (M 89) (M 24 b.toNat) (M 25 b.toNat) (M 92 b.toNat) sg pc_.toNat).1) → (w = (pl (M 88) (M 10) (M 7) (M 89) (M 24 b.toNat) (M 25 b.toNat) (M 92 b.toNat) sg pc_.toNat).2) → (M 87 3 - pc_).toNat < n1 → G p l e (rmD 3) s m args below meth c D cy q A 0 0 12 (MQ below (gQc D cy q A Pq) args s 0 0 A) 21 [(0, gR 87), (1, gR 5), (2, gI b), (3, gI sg), (4, gR 6), (5, gR 21), (6, gI f), (7, gI w), (8, gI pc_)] [] M := by
    intro n1
    induction n1 with
    | zero => intro f w pc_ iv4 hf hw2 hm5; exact absurd hm5 (Nat.not_lt_zero _)
    | succ n1 ih2 =>
      intro f w pc_ iv4 hf hw2 hm5
      refine g_iload (pc := 21) (i := 8) (x := pc_) hK dd_X5_placeWanted_21 rfl ?_
      have hpr := pl_rng (K := M 7) (ks := M 24 b.toNat) (pu := M 92 b.toNat) (st := sg) (fun i hi => (hle.2 i hi).2) hbb.2.2.2 pc_.toNat (by omega)
      refine g_aloadn (pc := 23) (i := 0) (x := 87) hK dd_X5_placeWanted_23 rfl rfl ?_
      refine g_geti (pc := 24) (f := (0, 0)) (j := 3) hK (kdm kd_87) rfl ef_5 (by decide) rfl kk_325 nl_87 dd_X5_placeWanted_24 rfl (fun x6 ex6 rx6 => ?_)
      refine g_icmp_ge (pc := 27) (tgt := 125) hK dd_X5_placeWanted_27 (by decide) ⟨by omega, by omega⟩ rx6 (fun c7 => ?_) (fun c7 => ?_)
      · refine g_iload (pc := 125) (i := 6) (x := f) hK dd_X5_placeWanted_125 rfl ?_
        refine g_iret (pc := 127) hK hr hlocks dd_X5_placeWanted_127 rfl ?_
        exact g_fin hQ (by rw [show M 87 3 = pc_ by omega]; assumption) (by first | rfl | (subst_vars; rfl))
      · have hli := hle.2 pc_.toNat (by omega)
        refine g_aloadn (pc := 30) (i := 0) (x := 87) hK dd_X5_placeWanted_30 rfl rfl ?_
        refine g_getv (pc := 31) (f := (1, 1)) (j := 2) (v := gR 88) hK (kdm kd_87) rfl ef_5 (by decide) rfl kk_324 dd_X5_placeWanted_31 rfl ?_
        refine g_iload (pc := 34) (i := 8) (x := pc_) hK dd_X5_placeWanted_34 rfl ?_
        refine g_iald (pc := 36) hK (kdm kd_88) nl_88 (by decide) dd_X5_placeWanted_36 (by omega) (by omega) (fun x8 ex8 rx8 => ?_)
        refine g_istore (pc := 37) (i := 9) (L' := [(0, gR 87), (1, gR 5), (2, gI b), (3, gI sg), (4, gR 6), (5, gR 21), (6, gI f), (7, gI w), (8, gI pc_), (9, gI x8)]) hK dd_X5_placeWanted_37 (by decide) rfl ?_
        have hli2 := hli; rw [← ex8] at hli2
        refine g_aload (pc := 39) (i := 4) (x := 6) hK dd_X5_placeWanted_39 rfl ?_
        refine g_getv (pc := 41) (f := (1, 4)) (j := 3) (v := gR 10) hK (kdm kd_6) rfl ef_10 (by decide) rfl kk_77 dd_X5_placeWanted_41 rfl ?_
        refine g_iload (pc := 44) (i := 9) (x := x8) hK dd_X5_placeWanted_44 rfl ?_
        refine g_iald (pc := 46) hK (kdm kd_10) nl_10 (by decide) dd_X5_placeWanted_46 (by omega) (by omega) (fun x9 ex9 rx9 => ?_)
        have epr_ := ex9
        refine g_iloadn (pc := 47) (i := 3) (x := sg) hK dd_X5_placeWanted_47 rfl rfl ?_
        refine g_callT (pc := 48) (As := [gI x9, gI sg]) hK ws_Sale_81 md_X5_cost ⟨Nat.zero_le _, Nat.zero_le _⟩ ⟨by decide, by decide⟩ dd_X5_placeWanted_48 rfl rfl (Nat.le_of_ble_eq_true rfl) (c_cost x9 sg rx9 g1 (g_r1 ?_))
        refine g_topI (fun co eco => ?_)
        rw [epr_] at eco
        have hci := cst_in (p := M 10 (x8).toNat) (st := sg) (by omega) (by omega)
        refine g_istore (pc := 51) (i := 10) (L' := [(0, gR 87), (1, gR 5), (2, gI b), (3, gI sg), (4, gR 6), (5, gR 21), (6, gI f), (7, gI w), (8, gI pc_), (9, gI x8), (10, gI co)]) hK dd_X5_placeWanted_51 (by decide) rfl ?_
        refine g_aload (pc := 53) (i := 4) (x := 6) hK dd_X5_placeWanted_53 rfl ?_
        refine g_iload (pc := 55) (i := 9) (x := x8) hK dd_X5_placeWanted_55 rfl ?_
        refine g_aload (pc := 57) (i := 5) (x := 21) hK dd_X5_placeWanted_57 rfl ?_
        refine g_getv (pc := 59) (f := (1, 3)) (j := 2) (v := gR 24) hK (kdm kd_21) rfl ef_0 (by decide) rfl kk_166 dd_X5_placeWanted_59 rfl ?_
        refine g_iloadn (pc := 62) (i := 2) (x := b) hK dd_X5_placeWanted_62 rfl rfl ?_
        refine g_iald (pc := 63) hK (kdm kd_24) nl_24 (by decide) dd_X5_placeWanted_63 (by omega) (by omega) (fun x10 ex10 rx10 => ?_)
        refine g_callV (pc := 64) (As := [gI x8, gI x10]) hK ws_Sale_91 md_X10_isOfKinds ⟨Nat.zero_le _, Nat.zero_le _⟩ ⟨by decide, by decide⟩ (kdm kd_6) rfl rfl dd_X5_placeWanted_64 rfl rfl (Nat.le_of_ble_eq_true rfl) (c_isOfKinds x8 x10 (show 0 ≤ x8 by omega) (show x8 < 30 by omega) (fun c11 => g_r1 ?_) (fun c11 => g_r1 ?_))
        · refine g_if_eq (pc := 67) (tgt := 119) hK dd_X5_placeWanted_67 (by decide) (by decide) (fun c12 => absurd c12 (by decide)) (fun _ => ?_)
          refine g_iload (pc := 70) (i := 10) (x := co) hK dd_X5_placeWanted_70 rfl ?_
          refine g_aloadn (pc := 72) (i := 0) (x := 87) hK dd_X5_placeWanted_72 rfl rfl ?_
          refine g_getv (pc := 73) (f := (1, 5)) (j := 7) (v := gR 92) hK (kdm kd_87) rfl ef_5 (by decide) rfl kk_329 dd_X5_placeWanted_73 rfl ?_
          refine g_iloadn (pc := 76) (i := 2) (x := b) hK dd_X5_placeWanted_76 rfl rfl ?_
          refine g_iald (pc := 77) hK (kdm kd_92) nl_92 (by decide) dd_X5_placeWanted_77 (by omega) (by omega) (fun x13 ex13 rx13 => ?_)
          refine g_icmp_gt (pc := 78) (tgt := 119) hK dd_X5_placeWanted_78 (by decide) ⟨by omega, by omega⟩ rx13 (fun c14 => ?_) (fun c14 => ?_)
          · refine g_iinc (pc := 119) (i := 8) (y := pc_ + 1) (L' := [(0, gR 87), (1, gR 5), (2, gI b), (3, gI sg), (4, gR 6), (5, gR 21), (6, gI f), (7, gI w), (8, gI (pc_ + 1)), (9, gI x8), (10, gI co)]) hK dd_X5_placeWanted_119 rfl rfl (by decide) rfl ?_
            refine g_goto (pc := 122) (tgt := 21) hK dd_X5_placeWanted_122 (by decide) ?_
            refine g_sub (L' := [(0, gR 87), (1, gR 5), (2, gI b), (3, gI sg), (4, gR 6), (5, gR 21), (6, gI f), (7, gI w), (8, gI (pc_ + 1))]) [0, 1, 2, 3, 4, 5, 6, 7, 8] rfl ?_
            exact ih2 f w (pc_ + 1) (by omega) (by rw [tn1 (by omega)]; first | (rw [pl_y ⟨by subst_vars; assumption, by subst_vars; omega, by rw [eg]; omega⟩]; first | (show _ = ((pc_.toNat : Nat) : Int); omega) | (rw [eg])) | (rw [pl_n (fun z => absurd z.1 (by subst_vars; assumption))]; assumption) | (rw [pl_n (fun z => absurd z.2.1 (by subst_vars; omega))]; assumption) | (rw [pl_n (fun z => absurd z.2.2 (by rw [eg]; omega))]; assumption)) (by rw [tn1 (by omega)]; first | (rw [pl_y ⟨by subst_vars; assumption, by subst_vars; omega, by rw [eg]; omega⟩]; first | (show _ = ((pc_.toNat : Nat) : Int); omega) | (rw [eg])) | (rw [pl_n (fun z => absurd z.1 (by subst_vars; assumption))]; assumption) | (rw [pl_n (fun z => absurd z.2.1 (by subst_vars; omega))]; assumption) | (rw [pl_n (fun z => absurd z.2.2 (by rw [eg]; omega))]; assumption)) (by omega)
          · refine g_aload (pc := 81) (i := 5) (x := 21) hK dd_X5_placeWanted_81 rfl ?_
            refine g_getv (pc := 83) (f := (1, 4)) (j := 3) (v := gR 25) hK (kdm kd_21) rfl ef_0 (by decide) rfl kk_169 dd_X5_placeWanted_83 rfl ?_
            refine g_iloadn (pc := 86) (i := 2) (x := b) hK dd_X5_placeWanted_86 rfl rfl ?_
            refine g_iald (pc := 87) hK (kdm kd_25) nl_25 (by decide) dd_X5_placeWanted_87 (by omega) (by omega) (fun x15 ex15 rx15 => ?_)
            refine g_aloadn (pc := 88) (i := 0) (x := 87) hK dd_X5_placeWanted_88 rfl rfl ?_
            refine g_getv (pc := 89) (f := (1, 2)) (j := 4) (v := gR 89) hK (kdm kd_87) rfl ef_5 (by decide) rfl kk_326 dd_X5_placeWanted_89 rfl ?_
            refine g_iload (pc := 92) (i := 9) (x := x8) hK dd_X5_placeWanted_92 rfl ?_
            refine g_iald (pc := 94) hK (kdm kd_89) nl_89 (by decide) dd_X5_placeWanted_94 (by omega) (by omega) (fun x16 ex16 rx16 => ?_)
            have hm_ := mul0 300 1049 (a := x15) (b := x16) (by omega) (by omega) (by omega) (by omega)
            have he_ := td_in hm_.1 100 (by decide)
            refine g_imul (pc := 95) (z := x15 * x16) hK dd_X5_placeWanted_95 rfl ?_
            refine g_bipush (pc := 96) (x := 100) hK dd_X5_placeWanted_96 (by decide) ?_
            refine g_idiv (pc := 98) (z := (x15 * x16).tdiv 100) hK dd_X5_placeWanted_98 ⟨by omega, by omega⟩ (by decide) (by decide) rfl ?_
            refine g_iload (pc := 99) (i := 10) (x := co) hK dd_X5_placeWanted_99 rfl ?_
            refine g_isub (pc := 101) (z := ((x15 * x16).tdiv 100) - co) hK dd_X5_placeWanted_101 rfl ?_
            have eg : gan (M 25 b.toNat) (M 89 (M 88 pc_.toNat).toNat) (cst (M 10 (M 88 pc_.toNat).toNat) sg) = ((x15 * x16).tdiv 100) - co := by unfold gan; subst_vars; rfl
            refine g_istore (pc := 102) (i := 11) (L' := [(0, gR 87), (1, gR 5), (2, gI b), (3, gI sg), (4, gR 6), (5, gR 21), (6, gI f), (7, gI w), (8, gI pc_), (9, gI x8), (10, gI co), (11, gI (((x15 * x16).tdiv 100) - co))]) hK dd_X5_placeWanted_102 (by decide) rfl ?_
            refine g_iload (pc := 104) (i := 11) (x := ((x15 * x16).tdiv 100) - co) hK dd_X5_placeWanted_104 rfl ?_
            refine g_iload (pc := 106) (i := 7) (x := w) hK dd_X5_placeWanted_106 rfl ?_
            refine g_icmp_le (pc := 108) (tgt := 119) hK dd_X5_placeWanted_108 (by decide) ⟨by omega, by omega⟩ ⟨by omega, by omega⟩ (fun c17 => ?_) (fun c17 => ?_)
            · refine g_iinc (pc := 119) (i := 8) (y := pc_ + 1) (L' := [(0, gR 87), (1, gR 5), (2, gI b), (3, gI sg), (4, gR 6), (5, gR 21), (6, gI f), (7, gI w), (8, gI (pc_ + 1)), (9, gI x8), (10, gI co), (11, gI (((x15 * x16).tdiv 100) - co))]) hK dd_X5_placeWanted_119 rfl rfl (by decide) rfl ?_
              refine g_goto (pc := 122) (tgt := 21) hK dd_X5_placeWanted_122 (by decide) ?_
              refine g_sub (L' := [(0, gR 87), (1, gR 5), (2, gI b), (3, gI sg), (4, gR 6), (5, gR 21), (6, gI f), (7, gI w), (8, gI (pc_ + 1))]) [0, 1, 2, 3, 4, 5, 6, 7, 8] rfl ?_
              exact ih2 f w (pc_ + 1) (by omega) (by rw [tn1 (by omega)]; first | (rw [pl_y ⟨by subst_vars; assumption, by subst_vars; omega, by rw [eg]; omega⟩]; first | (show _ = ((pc_.toNat : Nat) : Int); omega) | (rw [eg])) | (rw [pl_n (fun z => absurd z.1 (by subst_vars; assumption))]; assumption) | (rw [pl_n (fun z => absurd z.2.1 (by subst_vars; omega))]; assumption) | (rw [pl_n (fun z => absurd z.2.2 (by rw [eg]; omega))]; assumption)) (by rw [tn1 (by omega)]; first | (rw [pl_y ⟨by subst_vars; assumption, by subst_vars; omega, by rw [eg]; omega⟩]; first | (show _ = ((pc_.toNat : Nat) : Int); omega) | (rw [eg])) | (rw [pl_n (fun z => absurd z.1 (by subst_vars; assumption))]; assumption) | (rw [pl_n (fun z => absurd z.2.1 (by subst_vars; omega))]; assumption) | (rw [pl_n (fun z => absurd z.2.2 (by rw [eg]; omega))]; assumption)) (by omega)
            · refine g_iload (pc := 111) (i := 8) (x := pc_) hK dd_X5_placeWanted_111 rfl ?_
              refine g_istore (pc := 113) (i := 6) (L' := [(0, gR 87), (1, gR 5), (2, gI b), (3, gI sg), (4, gR 6), (5, gR 21), (6, gI pc_), (7, gI w), (8, gI pc_), (9, gI x8), (10, gI co), (11, gI (((x15 * x16).tdiv 100) - co))]) hK dd_X5_placeWanted_113 (by decide) rfl ?_
              refine g_iload (pc := 115) (i := 11) (x := ((x15 * x16).tdiv 100) - co) hK dd_X5_placeWanted_115 rfl ?_
              refine g_istore (pc := 117) (i := 7) (L' := [(0, gR 87), (1, gR 5), (2, gI b), (3, gI sg), (4, gR 6), (5, gR 21), (6, gI pc_), (7, gI (((x15 * x16).tdiv 100) - co)), (8, gI pc_), (9, gI x8), (10, gI co), (11, gI (((x15 * x16).tdiv 100) - co))]) hK dd_X5_placeWanted_117 (by decide) rfl ?_
              refine g_iinc (pc := 119) (i := 8) (y := pc_ + 1) (L' := [(0, gR 87), (1, gR 5), (2, gI b), (3, gI sg), (4, gR 6), (5, gR 21), (6, gI pc_), (7, gI (((x15 * x16).tdiv 100) - co)), (8, gI (pc_ + 1)), (9, gI x8), (10, gI co), (11, gI (((x15 * x16).tdiv 100) - co))]) hK dd_X5_placeWanted_119 rfl rfl (by decide) rfl ?_
              refine g_goto (pc := 122) (tgt := 21) hK dd_X5_placeWanted_122 (by decide) ?_
              refine g_sub (L' := [(0, gR 87), (1, gR 5), (2, gI b), (3, gI sg), (4, gR 6), (5, gR 21), (6, gI pc_), (7, gI (((x15 * x16).tdiv 100) - co)), (8, gI (pc_ + 1))]) [0, 1, 2, 3, 4, 5, 6, 7, 8] rfl ?_
              exact ih2 pc_ (((x15 * x16).tdiv 100) - co) (pc_ + 1) (by omega) (by rw [tn1 (by omega)]; first | (rw [pl_y ⟨by subst_vars; assumption, by subst_vars; omega, by rw [eg]; omega⟩]; first | (show _ = ((pc_.toNat : Nat) : Int); omega) | (rw [eg])) | (rw [pl_n (fun z => absurd z.1 (by subst_vars; assumption))]; assumption) | (rw [pl_n (fun z => absurd z.2.1 (by subst_vars; omega))]; assumption) | (rw [pl_n (fun z => absurd z.2.2 (by rw [eg]; omega))]; assumption)) (by rw [tn1 (by omega)]; first | (rw [pl_y ⟨by subst_vars; assumption, by subst_vars; omega, by rw [eg]; omega⟩]; first | (show _ = ((pc_.toNat : Nat) : Int); omega) | (rw [eg])) | (rw [pl_n (fun z => absurd z.1 (by subst_vars; assumption))]; assumption) | (rw [pl_n (fun z => absurd z.2.1 (by subst_vars; omega))]; assumption) | (rw [pl_n (fun z => absurd z.2.2 (by rw [eg]; omega))]; assumption)) (by omega)
        · refine g_if_eq (pc := 67) (tgt := 119) hK dd_X5_placeWanted_67 (by decide) (by decide) (fun _ => ?_) (fun c18 => absurd (by decide) c18)
          refine g_iinc (pc := 119) (i := 8) (y := pc_ + 1) (L' := [(0, gR 87), (1, gR 5), (2, gI b), (3, gI sg), (4, gR 6), (5, gR 21), (6, gI f), (7, gI w), (8, gI (pc_ + 1)), (9, gI x8), (10, gI co)]) hK dd_X5_placeWanted_119 rfl rfl (by decide) rfl ?_
          refine g_goto (pc := 122) (tgt := 21) hK dd_X5_placeWanted_122 (by decide) ?_
          refine g_sub (L' := [(0, gR 87), (1, gR 5), (2, gI b), (3, gI sg), (4, gR 6), (5, gR 21), (6, gI f), (7, gI w), (8, gI (pc_ + 1))]) [0, 1, 2, 3, 4, 5, 6, 7, 8] rfl ?_
          exact ih2 f w (pc_ + 1) (by omega) (by rw [tn1 (by omega)]; first | (rw [pl_y ⟨by subst_vars; assumption, by subst_vars; omega, by rw [eg]; omega⟩]; first | (show _ = ((pc_.toNat : Nat) : Int); omega) | (rw [eg])) | (rw [pl_n (fun z => absurd z.1 (by subst_vars; assumption))]; assumption) | (rw [pl_n (fun z => absurd z.2.1 (by subst_vars; omega))]; assumption) | (rw [pl_n (fun z => absurd z.2.2 (by rw [eg]; omega))]; assumption)) (by rw [tn1 (by omega)]; first | (rw [pl_y ⟨by subst_vars; assumption, by subst_vars; omega, by rw [eg]; omega⟩]; first | (show _ = ((pc_.toNat : Nat) : Int); omega) | (rw [eg])) | (rw [pl_n (fun z => absurd z.1 (by subst_vars; assumption))]; assumption) | (rw [pl_n (fun z => absurd z.2.1 (by subst_vars; omega))]; assumption) | (rw [pl_n (fun z => absurd z.2.2 (by rw [eg]; omega))]; assumption)) (by omega)
  refine g_sub (L' := [(0, gR 87), (1, gR 5), (2, gI b), (3, gI sg), (4, gR 6), (5, gR 21), (6, gI (-1)), (7, gI (-1)), (8, gI 0)]) [0, 1, 2, 3, 4, 5, 6, 7, 8] rfl ?_
  exact lp3 _ (-1) (-1) 0 (by omega) (rfl) (rfl) (Nat.lt_succ_self _)
set_option maxHeartbeats 4000000 in
set_option maxRecDepth 100000 in
theorem c_sell {l : Launch} {M : Mem} {Pq : Option gV → Mem → Prop} (pc_ : Int) (b : Int) (co : Int) (b1 : 0 ≤ b) (b2 : b < 12) (p1 : 0 ≤ pc_) (p2 : pc_ < M 87 3) (p3 : M 87 3 ≤ 30) (p4 : 0 ≤ M 88 pc_.toNat ∧ M 88 pc_.toNat < 30) (p5 : 0 ≤ co ∧ co ≤ 999) (p6 : 0 ≤ M 92 b.toNat ∧ M 92 b.toNat ≤ 9999) (hQ : Pq (some (gI co)) (sr (sr (sr (sr (sr M 87 (us (M 87) 3 (M 87 3 - 1))) 88 (cpf (M 88) (M 88) (pc_ + 1).toNat pc_.toNat (M 87 3 - 1 - pc_).toNat)) 90 (us (M 90) (M 88 pc_.toNat).toNat b)) 91 (us (M 91) (M 88 pc_.toNat).toNat co)) 92 (us (M 92) b.toNat (M 92 b.toNat - co)))) : gCtr l my_X5_sell mb_X5_sell 5 ((some .int)) 1 [gR 87, gI pc_, gI b, gI co] M Pq := by
  refine g_intro (by decide) (Nat.le_of_ble_eq_true rfl) ?_
  intro p e s m args below meth c D cy q A hK hr hlocks hw
  refine g_sub (L' := [(0, gR 87), (1, gI pc_), (2, gI b), (3, gI co)]) [0, 1, 2, 3] rfl ?_
  refine g_aloadn (pc := 0) (i := 0) (x := 87) hK dd_X5_sell_0 rfl rfl ?_
  refine g_getv (pc := 1) (f := (1, 1)) (j := 2) (v := gR 88) hK (kdm kd_87) rfl ef_5 (by decide) rfl kk_324 dd_X5_sell_1 rfl ?_
  refine g_iloadn (pc := 4) (i := 1) (x := pc_) hK dd_X5_sell_4 rfl rfl ?_
  refine g_iald (pc := 5) hK (kdm kd_88) nl_88 (by decide) dd_X5_sell_5 (by omega) (by omega) (fun x1 ex1 rx1 => ?_)
  refine g_istore (pc := 6) (i := 4) (L' := [(0, gR 87), (1, gI pc_), (2, gI b), (3, gI co), (4, gI x1)]) hK dd_X5_sell_6 (by decide) rfl ?_
  refine g_aloadn (pc := 8) (i := 0) (x := 87) hK dd_X5_sell_8 rfl rfl ?_
  refine g_getv (pc := 9) (f := (1, 3)) (j := 5) (v := gR 90) hK (kdm kd_87) rfl ef_5 (by decide) rfl kk_327 dd_X5_sell_9 rfl ?_
  refine g_iload (pc := 12) (i := 4) (x := x1) hK dd_X5_sell_12 rfl ?_
  refine g_iloadn (pc := 14) (i := 2) (x := b) hK dd_X5_sell_14 rfl rfl ?_
  refine g_iast (pc := 15) hK (kdm kd_90) nl_90 (by decide) (by decide) dd_X5_sell_15 (by omega) (by omega) ⟨by omega, by omega⟩ ?_
  refine g_aloadn (pc := 16) (i := 0) (x := 87) hK dd_X5_sell_16 rfl rfl ?_
  refine g_getv (pc := 17) (f := (1, 4)) (j := 6) (v := gR 91) hK (kdm kd_87) rfl ef_5 (by decide) rfl kk_328 dd_X5_sell_17 rfl ?_
  refine g_iload (pc := 20) (i := 4) (x := x1) hK dd_X5_sell_20 rfl ?_
  refine g_iloadn (pc := 22) (i := 3) (x := co) hK dd_X5_sell_22 rfl rfl ?_
  refine g_iast (pc := 23) hK (kdm kd_91) nl_91 (by decide) (by decide) dd_X5_sell_23 (by omega) (by omega) ⟨by omega, by omega⟩ ?_
  refine g_aloadn (pc := 24) (i := 0) (x := 87) hK dd_X5_sell_24 rfl rfl ?_
  refine g_getv (pc := 25) (f := (1, 5)) (j := 7) (v := gR 92) hK (kdm kd_87) rfl ef_5 (by decide) rfl kk_329 dd_X5_sell_25 rfl ?_
  refine g_iloadn (pc := 28) (i := 2) (x := b) hK dd_X5_sell_28 rfl rfl ?_
  refine g_dup2 (pc := 29) hK dd_X5_sell_29 rfl rfl ?_
  refine g_iald (pc := 30) hK (kdm kd_92) nl_92 (by decide) dd_X5_sell_30 (by omega) (by omega) (fun x2 ex2 rx2 => ?_)
  replace ex2 : x2 = M 92 b.toNat := ex2
  refine g_iloadn (pc := 31) (i := 3) (x := co) hK dd_X5_sell_31 rfl rfl ?_
  refine g_isub (pc := 32) (z := x2 - co) hK dd_X5_sell_32 rfl ?_
  refine g_iast (pc := 33) hK (kdm kd_92) nl_92 (by decide) (by decide) dd_X5_sell_33 (by omega) (by omega) ⟨by omega, by omega⟩ ?_
  refine g_aloadn (pc := 34) (i := 0) (x := 87) hK dd_X5_sell_34 rfl rfl ?_
  refine g_dup (pc := 35) hK dd_X5_sell_35 rfl ?_
  refine g_geti (pc := 36) (f := (0, 0)) (j := 3) hK (kdm kd_87) rfl ef_5 (by decide) rfl kk_325 nl_87 dd_X5_sell_36 rfl (fun x3 ex3 rx3 => ?_)
  replace ex3 : x3 = M 87 3 := ex3
  refine g_iconst (pc := 39) (x := 1) hK dd_X5_sell_39 (by decide) ?_
  refine g_isub (pc := 40) (z := x3 - 1) hK dd_X5_sell_40 rfl ?_
  refine g_puti (pc := 41) (f := (0, 0)) (j := 3) (ty := .int) hK (kdm kd_87) rfl ef_5 (by decide) rfl kk_325 nl_87 (by decide) dd_X5_sell_41 rfl rfl rfl rfl rfl ⟨by omega, by omega⟩ ?_
  refine g_aloadn (pc := 44) (i := 0) (x := 87) hK dd_X5_sell_44 rfl rfl ?_
  refine g_getv (pc := 45) (f := (1, 1)) (j := 2) (v := gR 88) hK (kdm kd_87) rfl ef_5 (by decide) rfl kk_324 dd_X5_sell_45 rfl ?_
  refine g_iloadn (pc := 48) (i := 1) (x := pc_) hK dd_X5_sell_48 rfl rfl ?_
  refine g_iconst (pc := 49) (x := 1) hK dd_X5_sell_49 (by decide) ?_
  refine g_iadd (pc := 50) (z := pc_ + 1) hK dd_X5_sell_50 rfl ?_
  refine g_aloadn (pc := 51) (i := 0) (x := 87) hK dd_X5_sell_51 rfl rfl ?_
  refine g_getv (pc := 52) (f := (1, 1)) (j := 2) (v := gR 88) hK (kdm kd_87) rfl ef_5 (by decide) rfl kk_324 dd_X5_sell_52 rfl ?_
  refine g_iloadn (pc := 55) (i := 1) (x := pc_) hK dd_X5_sell_55 rfl rfl ?_
  refine g_aloadn (pc := 56) (i := 0) (x := 87) hK dd_X5_sell_56 rfl rfl ?_
  refine g_geti (pc := 57) (f := (0, 0)) (j := 3) hK (kdm kd_87) rfl ef_5 (by decide) rfl kk_325 nl_87 dd_X5_sell_57 rfl (fun x4 ex4 rx4 => ?_)
  replace ex4 : x4 = x3 - 1 := by first | exact ex4 | (rw [ex4]; simp [up, us, cp, sr])
  refine g_iloadn (pc := 60) (i := 1) (x := pc_) hK dd_X5_sell_60 rfl rfl ?_
  refine g_isub (pc := 61) (z := x4 - pc_) hK dd_X5_sell_61 rfl ?_
  refine g_copyi (pc := 62) hK wa_Sale_98 (kdm kd_88) (kdm kd_88) nl_88 nl_88 (by decide) (by decide) (by decide) (by omega) (by omega) (by omega) (by omega) (by omega) ⟨by decide, by decide⟩ (Nat.le_of_ble_eq_true rfl) dd_X5_sell_62 ?_
  refine g_iloadn (pc := 65) (i := 3) (x := co) hK dd_X5_sell_65 rfl rfl ?_
  refine g_iret (pc := 66) hK hr hlocks dd_X5_sell_66 rfl ?_
  exact g_fin hQ (by first | rfl | omega | (subst_vars; first | rfl | omega)) (by subst_vars; simp (disch := decide) only [Int.reduceToNat, up_sr, sr_cp, sr_k, sr_o, sr_sr, us_us, @sr_lt _ 88 87 _ _ (by decide), @sr_lt _ 89 87 _ _ (by decide), @sr_lt _ 89 88 _ _ (by decide), @sr_lt _ 90 87 _ _ (by decide), @sr_lt _ 90 88 _ _ (by decide), @sr_lt _ 90 89 _ _ (by decide), @sr_lt _ 91 87 _ _ (by decide), @sr_lt _ 91 88 _ _ (by decide), @sr_lt _ 91 89 _ _ (by decide), @sr_lt _ 91 90 _ _ (by decide), @sr_lt _ 92 87 _ _ (by decide), @sr_lt _ 92 88 _ _ (by decide), @sr_lt _ 92 89 _ _ (by decide), @sr_lt _ 92 90 _ _ (by decide), @sr_lt _ 92 91 _ _ (by decide), @sr_lt _ 93 87 _ _ (by decide), @sr_lt _ 93 88 _ _ (by decide), @sr_lt _ 93 89 _ _ (by decide), @sr_lt _ 93 90 _ _ (by decide), @sr_lt _ 93 91 _ _ (by decide), @sr_lt _ 93 92 _ _ (by decide)]; try rfl)
set_option maxHeartbeats 4000000 in
set_option maxRecDepth 100000 in
theorem c_playHour {l : Launch} {M : Mem} {Pq : Option gV → Mem → Prop} (h : Int) (s_ : R7) (g1 : inI h) (hc : 0 ≤ M 6 6 ∧ M 6 6 ≤ 30) (hbc : 0 ≤ M 21 5 ∧ M 21 5 ≤ 12) (hth : thOK M) (hbu : buOK M) (hI : SIv (M 11) (M 10) (M 7) (TWf (M 7) (M 8) (M 9)) (M 23) (M 26) (M 22) (M 24) (M 25) (M 6 6).toNat (M 21 5).toNat (M 12) (M 87 3) (M 88) (M 89) (M 90) (M 91) (M 92) (M 93) (s_)) (hok : R7ok (M 21 5).toNat 1000040 s_) (hsq : 0 ≤ s_.2.2.2.2.2.2 ∧ s_.2.2.2.2.2.2 ≤ 1000000) (hQ : ∀ (lc : Int) (lf : Nat → Int) (sb : Nat → Int) (sp : Nat → Int) (pu : Nat → Int) (id : Nat → Int), SIv (M 11) (M 10) (M 7) (TWf (M 7) (M 8) (M 9)) (M 23) (M 26) (M 22) (M 24) (M 25) (M 6 6).toNat (M 21 5).toNat (M 12) lc lf (M 89) sb sp pu id (hrG (M 10) (M 7) (TWf (M 7) (M 8) (M 9)) (M 22) (M 24) (M 25) (M 6 6).toNat (M 87 0) (M 87 1) h s_ (M 21 5).toNat) → Pq (some (gI ((hrG (M 10) (M 7) (TWf (M 7) (M 8) (M 9)) (M 22) (M 24) (M 25) (M 6 6).toNat (M 87 0) (M 87 1) h s_ (M 21 5).toNat).2.2.2.2.2.2 - s_.2.2.2.2.2.2))) (sr (sr (sr (sr (sr (sr M 87 (us (M 87) 3 lc)) 88 lf) 90 sb) 91 sp) 92 pu) 93 id)) : gCtr l my_X5_playHour mb_X5_playHour 7 ((some .int)) 4 [gR 87, gR 5, gI h] M Pq := by
  refine g_intro (by decide) (Nat.le_of_ble_eq_true rfl) ?_
  intro p e s m args below meth c D cy q A hK hr hlocks hw
  refine g_sub (L' := [(0, gR 87), (1, gR 5), (2, gI h)]) [0, 1, 2] rfl ?_
  refine g_iloadn (pc := 0) (i := 2) (x := h) hK dd_X5_playHour_0 rfl rfl ?_
  refine g_aloadn (pc := 1) (i := 0) (x := 87) hK dd_X5_playHour_1 rfl rfl ?_
  refine g_geti (pc := 2) (f := (0, 0)) (j := 0) hK (kdm kd_87) rfl ef_5 (by decide) rfl kk_322 nl_87 dd_X5_playHour_2 rfl (fun x1 ex1 rx1 => ?_)
  have eh_ := ex1
  refine g_aloadn (pc := 5) (i := 0) (x := 87) hK dd_X5_playHour_5 rfl rfl ?_
  refine g_geti (pc := 6) (f := (0, 0)) (j := 1) hK (kdm kd_87) rfl ef_5 (by decide) rfl kk_323 nl_87 dd_X5_playHour_6 rfl (fun x2 ex2 rx2 => ?_)
  have eb_ := ex2
  refine g_callT (pc := 9) (As := [gI h, gI x1, gI x2]) hK ws_Sale_70 md_X5_stage ⟨Nat.zero_le _, Nat.zero_le _⟩ ⟨by decide, by decide⟩ dd_X5_playHour_9 rfl rfl (Nat.le_of_ble_eq_true rfl) (c_stage h x1 x2 g1 rx1 rx2 (g_r1 ?_))
  refine g_topI (fun sg esg => ?_)
  rw [eh_, eb_] at esg
  have hsg_ := stg_in h (M 87 0) (M 87 1)
  refine g_istoren (pc := 12) (i := 3) (L' := [(0, gR 87), (1, gR 5), (2, gI h), (3, gI sg)]) hK dd_X5_playHour_12 rfl (by decide) rfl ?_
  refine g_iconst (pc := 13) (x := 0) hK dd_X5_playHour_13 (by decide) ?_
  refine g_istore (pc := 14) (i := 4) (L' := [(0, gR 87), (1, gR 5), (2, gI h), (3, gI sg), (4, gI 0)]) hK dd_X5_playHour_14 (by decide) rfl ?_
  refine g_iconst (pc := 16) (x := 0) hK dd_X5_playHour_16 (by decide) ?_
  refine g_istore (pc := 17) (i := 5) (L' := [(0, gR 87), (1, gR 5), (2, gI h), (3, gI sg), (4, gI 0), (5, gI 0)]) hK dd_X5_playHour_17 (by decide) rfl ?_
  have lp5 : ∀ (n3 : Nat) (tk : Int) (b : Int) (lc : Int) (lf : Nat → Int) (sb : Nat → Int) (sp : Nat → Int) (pu : Nat → Int) (id : Nat → Int), (0 ≤ b ∧ b ≤ M 21 5) → (tk = (hrG (M 10) (M 7) (TWf (M 7) (M 8) (M 9)) (M 22) (M 24) (M 25) (M 6 6).toNat (M 87 0) (M 87 1) h s_ b.toNat).2.2.2.2.2.2 - s_.2.2.2.2.2.2) → (SIv (M 11) (M 10) (M 7) (TWf (M 7) (M 8) (M 9)) (M 23) (M 26) (M 22) (M 24) (M 25) (M 6 6).toNat (M 21 5).toNat (M 12) lc lf (M 89) sb sp pu id (hrG (M 10) (M 7) (TWf (M 7) (M 8) (M 9)) (M 22) (M 24) (M 25) (M 6 6).toNat (M 87 0) (M 87 1) h s_ b.toNat)) → (M 21 5 - b).toNat < n3 → G p l e (rmD 4) s m args below meth c D cy q A 0 0 7 (MQ below (gQc D cy q A Pq) args s 0 0 A) 19 [(0, gR 87), (1, gR 5), (2, gI h), (3, gI sg), (4, gI tk), (5, gI b)] [] (sr (sr (sr (sr (sr (sr M 87 (us (M 87) 3 lc)) 88 lf) 90 sb) 91 sp) 92 pu) 93 id) := by
    intro n3
    induction n3 with
    | zero => intro tk b lc lf sb sp pu id iv6 htk_ hI_ hm7; exact absurd hm7 (Nat.not_lt_zero _)
    | succ n3 ih4 =>
      intro tk b lc lf sb sp pu id iv6 htk_ hI_ hm7
      refine g_iload (pc := 19) (i := 5) (x := b) hK dd_X5_playHour_19 rfl ?_
      have hgk := hrG_ok (P := M 10) (K := M 7) (T := TWf (M 7) (M 8) (M 9)) (hr := M 22) (ks := M 24) (ey := M 25) (n := (M 6 6).toNat) (half := M 87 0) (bag := M 87 1) (hour := h) (fun j hj => Px_in hth j (by omega)) hok (by omega) b.toNat (by omega)
      have hle0 := SIv_le hI_ (fun j hj => Px_in hth j (by omega)) (fun j hj => TWx_in hth j (by omega))
      refine g_aloadn (pc := 21) (i := 1) (x := 5) hK dd_X5_playHour_21 rfl rfl ?_
      refine g_getv (pc := 22) (f := (1, 16)) (j := 3) (v := gR 21) hK (kdm kd_5) rfl ef_1 (by decide) rfl kk_266 dd_X5_playHour_22 rfl ?_
      refine g_geti (pc := 25) (f := (0, 0)) (j := 5) hK (kdm kd_21) rfl ef_0 (by decide) rfl kk_175 nl_21 dd_X5_playHour_25 rfl (fun x8 ex8 rx8 => ?_)
      replace ex8 : x8 = M 21 5 := ex8
      refine g_icmp_ge (pc := 28) (tgt := 121) hK dd_X5_playHour_28 (by decide) ⟨by omega, by omega⟩ rx8 (fun c9 => ?_) (fun c9 => ?_)
      · refine g_iload (pc := 121) (i := 4) (x := tk) hK dd_X5_playHour_121 rfl ?_
        refine g_iret (pc := 123) hK hr hlocks dd_X5_playHour_123 rfl ?_
        exact g_fin (hQ _ _ _ _ _ _ (by have hI2_ := hI_; rw [show b.toNat = (M 21 5).toNat by omega] at hI2_; exact hI2_)) (by have hI2_ := htk_; rw [show b.toNat = (M 21 5).toNat by omega] at hI2_; exact hI2_) rfl
      · have hbb := hbu b.toNat (by omega)
        have hpub := hI_.2.2.2.2.2.2.1 b.toNat (by omega)
        have hg1 := hgk.1.1.1 b.toNat (by omega)
        refine g_aloadn (pc := 31) (i := 1) (x := 5) hK dd_X5_playHour_31 rfl rfl ?_
        refine g_getv (pc := 32) (f := (1, 16)) (j := 3) (v := gR 21) hK (kdm kd_5) rfl ef_1 (by decide) rfl kk_266 dd_X5_playHour_32 rfl ?_
        refine g_getv (pc := 35) (f := (1, 1)) (j := 0) (v := gR 22) hK (kdm kd_21) rfl ef_0 (by decide) rfl kk_160 dd_X5_playHour_35 rfl ?_
        refine g_iload (pc := 38) (i := 5) (x := b) hK dd_X5_playHour_38 rfl ?_
        refine g_iald (pc := 40) hK (kdm kd_22) nl_22 (by decide) dd_X5_playHour_40 (by omega) (by omega) (fun x10 ex10 rx10 => ?_)
        replace ex10 : x10 = M 22 b.toNat := ex10
        refine g_iloadn (pc := 41) (i := 2) (x := h) hK dd_X5_playHour_41 rfl rfl ?_
        refine g_icmp_gt (pc := 42) (tgt := 115) hK dd_X5_playHour_42 (by decide) rx10 g1 (fun c11 => ?_) (fun c11 => ?_)
        · have hc_ : choR (M 10) (M 7) (TWf (M 7) (M 8) (M 9)) (M 22) (M 24) (M 25) (M 6 6).toNat (M 87 0) (M 87 1) h b.toNat (hrG (M 10) (M 7) (TWf (M 7) (M 8) (M 9)) (M 22) (M 24) (M 25) (M 6 6).toNat (M 87 0) (M 87 1) h s_ b.toNat).1 (hrG (M 10) (M 7) (TWf (M 7) (M 8) (M 9)) (M 22) (M 24) (M 25) (M 6 6).toNat (M 87 0) (M 87 1) h s_ b.toNat).2.1 < 0 := by first | (unfold choR; rw [if_pos (by omega)]; decide) | exact SIv_c hI_ (by omega) (by omega) (by omega)
          have hN_ := SIv_n (s := hrG (M 10) (M 7) (TWf (M 7) (M 8) (M 9)) (M 22) (M 24) (M 25) (M 6 6).toNat (M 87 0) (M 87 1) h s_ b.toNat) (half := M 87 0) (bag := M 87 1) (hour := h) (b := b.toNat) hI_ hc_
          refine g_iinc (pc := 115) (i := 5) (y := b + 1) (L' := [(0, gR 87), (1, gR 5), (2, gI h), (3, gI sg), (4, gI tk), (5, gI (b + 1))]) hK dd_X5_playHour_115 rfl rfl (by decide) rfl ?_
          refine g_goto (pc := 118) (tgt := 19) hK dd_X5_playHour_118 (by decide) ?_
          refine g_sub (L' := [(0, gR 87), (1, gR 5), (2, gI h), (3, gI sg), (4, gI tk), (5, gI (b + 1))]) [0, 1, 2, 3, 4, 5] rfl ?_
          refine g_mem (M2 := sr (sr (sr (sr (sr (sr M 87 (us (M 87) 3 lc)) 88 lf) 90 sb) 91 sp) 92 pu) 93 id) (by simp (disch := decide) only [Int.reduceToNat, up_sr, sr_cp, sr_k, sr_o, sr_sr, us_us, @sr_lt _ 88 87 _ _ (by decide), @sr_lt _ 89 87 _ _ (by decide), @sr_lt _ 89 88 _ _ (by decide), @sr_lt _ 90 87 _ _ (by decide), @sr_lt _ 90 88 _ _ (by decide), @sr_lt _ 90 89 _ _ (by decide), @sr_lt _ 91 87 _ _ (by decide), @sr_lt _ 91 88 _ _ (by decide), @sr_lt _ 91 89 _ _ (by decide), @sr_lt _ 91 90 _ _ (by decide), @sr_lt _ 92 87 _ _ (by decide), @sr_lt _ 92 88 _ _ (by decide), @sr_lt _ 92 89 _ _ (by decide), @sr_lt _ 92 90 _ _ (by decide), @sr_lt _ 92 91 _ _ (by decide), @sr_lt _ 93 87 _ _ (by decide), @sr_lt _ 93 88 _ _ (by decide), @sr_lt _ 93 89 _ _ (by decide), @sr_lt _ 93 90 _ _ (by decide), @sr_lt _ 93 91 _ _ (by decide), @sr_lt _ 93 92 _ _ (by decide)]; try rfl) ?_
          exact ih4 tk (b + 1) lc lf sb sp pu id (by omega) (by rw [tn1 (by omega)]; simp only [hrG]; first | (rw [buyG_n hc_]; assumption) | omega) (by rw [tn1 (t := b) (by omega)]; simp only [hrG]; first | exact hq1_ | exact hN_) (by omega)
        · refine g_aloadn (pc := 45) (i := 0) (x := 87) hK dd_X5_playHour_45 rfl rfl ?_
          refine g_getv (pc := 46) (f := (1, 6)) (j := 8) (v := gR 93) hK (kdm kd_87) rfl ef_5 (by decide) rfl kk_330 dd_X5_playHour_46 rfl ?_
          refine g_iload (pc := 49) (i := 5) (x := b) hK dd_X5_playHour_49 rfl ?_
          refine g_iald (pc := 51) hK (kdm kd_93) nl_93 (by decide) dd_X5_playHour_51 (by omega) (by omega) (fun x12 ex12 rx12 => ?_)
          replace ex12 : x12 = id b.toNat := by first | exact ex12 | (rw [ex12]; simp [up, us, cp, sr])
          refine g_iloadn (pc := 52) (i := 3) (x := sg) hK dd_X5_playHour_52 rfl rfl ?_
          refine g_icmp_eq (pc := 53) (tgt := 115) hK dd_X5_playHour_53 (by decide) rx12 ⟨by omega, by omega⟩ (fun c13 => ?_) (fun c13 => ?_)
          · have hc_ : choR (M 10) (M 7) (TWf (M 7) (M 8) (M 9)) (M 22) (M 24) (M 25) (M 6 6).toNat (M 87 0) (M 87 1) h b.toNat (hrG (M 10) (M 7) (TWf (M 7) (M 8) (M 9)) (M 22) (M 24) (M 25) (M 6 6).toNat (M 87 0) (M 87 1) h s_ b.toNat).1 (hrG (M 10) (M 7) (TWf (M 7) (M 8) (M 9)) (M 22) (M 24) (M 25) (M 6 6).toNat (M 87 0) (M 87 1) h s_ b.toNat).2.1 < 0 := by first | (unfold choR; rw [if_pos (by omega)]; decide) | exact SIv_c hI_ (by omega) (by omega) (by omega)
            have hN_ := SIv_n (s := hrG (M 10) (M 7) (TWf (M 7) (M 8) (M 9)) (M 22) (M 24) (M 25) (M 6 6).toNat (M 87 0) (M 87 1) h s_ b.toNat) (half := M 87 0) (bag := M 87 1) (hour := h) (b := b.toNat) hI_ hc_
            refine g_iinc (pc := 115) (i := 5) (y := b + 1) (L' := [(0, gR 87), (1, gR 5), (2, gI h), (3, gI sg), (4, gI tk), (5, gI (b + 1))]) hK dd_X5_playHour_115 rfl rfl (by decide) rfl ?_
            refine g_goto (pc := 118) (tgt := 19) hK dd_X5_playHour_118 (by decide) ?_
            refine g_sub (L' := [(0, gR 87), (1, gR 5), (2, gI h), (3, gI sg), (4, gI tk), (5, gI (b + 1))]) [0, 1, 2, 3, 4, 5] rfl ?_
            refine g_mem (M2 := sr (sr (sr (sr (sr (sr M 87 (us (M 87) 3 lc)) 88 lf) 90 sb) 91 sp) 92 pu) 93 id) (by simp (disch := decide) only [Int.reduceToNat, up_sr, sr_cp, sr_k, sr_o, sr_sr, us_us, @sr_lt _ 88 87 _ _ (by decide), @sr_lt _ 89 87 _ _ (by decide), @sr_lt _ 89 88 _ _ (by decide), @sr_lt _ 90 87 _ _ (by decide), @sr_lt _ 90 88 _ _ (by decide), @sr_lt _ 90 89 _ _ (by decide), @sr_lt _ 91 87 _ _ (by decide), @sr_lt _ 91 88 _ _ (by decide), @sr_lt _ 91 89 _ _ (by decide), @sr_lt _ 91 90 _ _ (by decide), @sr_lt _ 92 87 _ _ (by decide), @sr_lt _ 92 88 _ _ (by decide), @sr_lt _ 92 89 _ _ (by decide), @sr_lt _ 92 90 _ _ (by decide), @sr_lt _ 92 91 _ _ (by decide), @sr_lt _ 93 87 _ _ (by decide), @sr_lt _ 93 88 _ _ (by decide), @sr_lt _ 93 89 _ _ (by decide), @sr_lt _ 93 90 _ _ (by decide), @sr_lt _ 93 91 _ _ (by decide), @sr_lt _ 93 92 _ _ (by decide)]; try rfl) ?_
            exact ih4 tk (b + 1) lc lf sb sp pu id (by omega) (by rw [tn1 (by omega)]; simp only [hrG]; first | (rw [buyG_n hc_]; assumption) | omega) (by rw [tn1 (t := b) (by omega)]; simp only [hrG]; first | exact hq1_ | exact hN_) (by omega)
          · have hle : (0 ≤ lc ∧ lc ≤ 30) ∧ ∀ i, i < lc.toNat → (0 ≤ lf i ∧ lf i < 30) ∧ 0 ≤ M 10 (lf i).toNat ∧ M 10 (lf i).toNat ≤ 999 ∧ 0 ≤ M 89 (lf i).toNat ∧ M 89 (lf i).toNat ≤ 1049 := ⟨⟨hI_.1.1, by omega⟩, fun i hi => ⟨by have := (hle0.2 i hi).1; omega, (hle0.2 i hi).2⟩⟩
            refine g_aloadn (pc := 56) (i := 0) (x := 87) hK dd_X5_playHour_56 rfl rfl ?_
            refine g_aloadn (pc := 57) (i := 1) (x := 5) hK dd_X5_playHour_57 rfl rfl ?_
            refine g_iload (pc := 58) (i := 5) (x := b) hK dd_X5_playHour_58 rfl ?_
            refine g_iloadn (pc := 60) (i := 3) (x := sg) hK dd_X5_playHour_60 rfl rfl ?_
            refine g_callV (pc := 61) (As := [gR 5, gI b, gI sg]) hK ws_Sale_74 md_X5_placeWanted ⟨Nat.zero_le _, Nat.zero_le _⟩ ⟨by decide, by decide⟩ (kdm kd_87) rfl rfl dd_X5_playHour_61 rfl rfl (Nat.le_of_ble_eq_true rfl) (c_placeWanted b sg (by omega) (by omega) ⟨by omega, by omega⟩ hle hbu (g_r1 ?_))
            refine g_topI (fun y ey => ?_)
            replace ey : y = (pl (lf) (M 10) (M 7) (M 89) (M 24 b.toNat) (M 25 b.toNat) (pu b.toNat) sg ((us (M 87) 3 lc) 3).toNat).1 := ey
            have ey_ : y = (pl lf (M 10) (M 7) (M 89) (M 24 b.toNat) (M 25 b.toNat) ((hrG (M 10) (M 7) (TWf (M 7) (M 8) (M 9)) (M 22) (M 24) (M 25) (M 6 6).toNat (M 87 0) (M 87 1) h s_ b.toNat).2.1 b.toNat) (stg h (M 87 0) (M 87 1)) lc.toNat).1 := by rw [← hpub, ← esg]; exact ey
            have hpc_ := pl_chX hI_.1.2 hI_.2.2.2.2.2.1 ey_
            refine g_istore (pc := 64) (i := 6) (L' := [(0, gR 87), (1, gR 5), (2, gI h), (3, gI sg), (4, gI tk), (5, gI b), (6, gI y)]) hK dd_X5_playHour_64 (by decide) rfl ?_
            refine g_iload (pc := 66) (i := 6) (x := y) hK dd_X5_playHour_66 rfl ?_
            refine g_iconst (pc := 68) (x := (-1)) hK dd_X5_playHour_68 (by decide) ?_
            refine g_icmp_ne (pc := 69) (tgt := 83) hK dd_X5_playHour_69 (by decide) ⟨by omega, by omega⟩ (by decide) (fun c14 => ?_) (fun c14 => ?_)
            · have hy0_ := (hpc_.2 (by omega)).1
              have hcp_ := (hpc_.2 (by omega)).2
              have hly_ := hle.2 y.toNat (by omega)
              refine g_iload (pc := 83) (i := 4) (x := tk) hK dd_X5_playHour_83 rfl ?_
              refine g_aloadn (pc := 85) (i := 0) (x := 87) hK dd_X5_playHour_85 rfl rfl ?_
              refine g_iload (pc := 86) (i := 6) (x := y) hK dd_X5_playHour_86 rfl ?_
              refine g_iload (pc := 88) (i := 5) (x := b) hK dd_X5_playHour_88 rfl ?_
              refine g_aloadn (pc := 90) (i := 1) (x := 5) hK dd_X5_playHour_90 rfl rfl ?_
              refine g_getv (pc := 91) (f := (1, 1)) (j := 0) (v := gR 6) hK (kdm kd_5) rfl ef_1 (by decide) rfl kk_259 dd_X5_playHour_91 rfl ?_
              refine g_getv (pc := 94) (f := (1, 4)) (j := 3) (v := gR 10) hK (kdm kd_6) rfl ef_10 (by decide) rfl kk_77 dd_X5_playHour_94 rfl ?_
              refine g_aloadn (pc := 97) (i := 0) (x := 87) hK dd_X5_playHour_97 rfl rfl ?_
              refine g_getv (pc := 98) (f := (1, 1)) (j := 2) (v := gR 88) hK (kdm kd_87) rfl ef_5 (by decide) rfl kk_324 dd_X5_playHour_98 rfl ?_
              refine g_iload (pc := 101) (i := 6) (x := y) hK dd_X5_playHour_101 rfl ?_
              refine g_iald (pc := 103) hK (kdm kd_88) nl_88 (by decide) dd_X5_playHour_103 (by omega) (by omega) (fun x15 ex15 rx15 => ?_)
              replace ex15 : x15 = lf y.toNat := by first | exact ex15 | (rw [ex15]; simp [up, us, cp, sr])
              have elf_ : x15 = lf y.toNat := ex15
              refine g_iald (pc := 104) hK (kdm kd_10) nl_10 (by decide) dd_X5_playHour_104 (by omega) (by omega) (fun x16 ex16 rx16 => ?_)
              replace ex16 : x16 = M 10 x15.toNat := ex16
              have epr_ := ex16
              refine g_iloadn (pc := 105) (i := 3) (x := sg) hK dd_X5_playHour_105 rfl rfl ?_
              refine g_callT (pc := 106) (As := [gI x16, gI sg]) hK ws_Sale_81 md_X5_cost ⟨Nat.zero_le _, Nat.zero_le _⟩ ⟨by decide, by decide⟩ dd_X5_playHour_106 rfl rfl (Nat.le_of_ble_eq_true rfl) (c_cost x16 sg rx16 ⟨by omega, by omega⟩ (g_r1 ?_))
              refine g_topI (fun co eco => ?_)
              replace eco : co = cst x16 sg := eco
              rw [epr_, elf_] at eco
              have hci := cst_in (p := M 10 (lf y.toNat).toNat) (st := sg) (by omega) (by omega)
              refine g_callV (pc := 109) (As := [gI y, gI b, gI co]) hK ws_Sale_85 md_X5_sell ⟨Nat.zero_le _, Nat.zero_le _⟩ ⟨by decide, by decide⟩ (kdm kd_87) rfl rfl dd_X5_playHour_109 rfl rfl (Nat.le_of_ble_eq_true rfl) (c_sell y b co (by omega) (by omega) (by omega) (show y < lc by omega) (show lc ≤ 30 by omega) (hle.2 y.toNat (by omega)).1 (by omega) (show 0 ≤ pu b.toNat ∧ pu b.toNat ≤ 9999 by omega) (g_r1 ?_))
              refine g_iadd (pc := 112) (z := tk + co) hK dd_X5_playHour_112 rfl ?_
              refine g_istore (pc := 113) (i := 4) (L' := [(0, gR 87), (1, gR 5), (2, gI h), (3, gI sg), (4, gI (tk + co)), (5, gI b), (6, gI y)]) hK dd_X5_playHour_113 (by decide) rfl ?_
              have hN_ := SIv_y (half := M 87 0) (bag := M 87 1) (hour := h) (b := b.toNat) (p := y.toNat) hI_ (by omega) (by omega) hcp_.1 hcp_.2 (fun t ht => Px_in hth t (by omega))
              have hq2_ := hN_.2
              rw [← esg, ← eco] at hq2_
              have hq1_ := hN_.1
              rw [show ((b.toNat : Nat) : Int) = b by omega, ← esg, ← eco, show y.toNat + 1 = (y + 1).toNat by omega, show lc.toNat - 1 - y.toNat = (lc - 1 - y).toNat by omega] at hq1_
              refine g_iinc (pc := 115) (i := 5) (y := b + 1) (L' := [(0, gR 87), (1, gR 5), (2, gI h), (3, gI sg), (4, gI (tk + co)), (5, gI (b + 1)), (6, gI y)]) hK dd_X5_playHour_115 rfl rfl (by decide) rfl ?_
              refine g_goto (pc := 118) (tgt := 19) hK dd_X5_playHour_118 (by decide) ?_
              refine g_sub (L' := [(0, gR 87), (1, gR 5), (2, gI h), (3, gI sg), (4, gI (tk + co)), (5, gI (b + 1))]) [0, 1, 2, 3, 4, 5] rfl ?_
              refine g_mem (M2 := sr (sr (sr (sr (sr (sr M 87 (us (M 87) 3 ((us (M 87) 3 lc) 3 - 1))) 88 (cpf (lf) (lf) (y + 1).toNat y.toNat ((us (M 87) 3 lc) 3 - 1 - y).toNat)) 90 (us sb ((lf y.toNat).toNat) b)) 91 (us sp ((lf y.toNat).toNat) co)) 92 (us pu b.toNat (pu b.toNat - co))) 93 id) (by simp (disch := decide) only [Int.reduceToNat, up_sr, sr_cp, sr_k, sr_o, sr_sr, us_us, @sr_lt _ 88 87 _ _ (by decide), @sr_lt _ 89 87 _ _ (by decide), @sr_lt _ 89 88 _ _ (by decide), @sr_lt _ 90 87 _ _ (by decide), @sr_lt _ 90 88 _ _ (by decide), @sr_lt _ 90 89 _ _ (by decide), @sr_lt _ 91 87 _ _ (by decide), @sr_lt _ 91 88 _ _ (by decide), @sr_lt _ 91 89 _ _ (by decide), @sr_lt _ 91 90 _ _ (by decide), @sr_lt _ 92 87 _ _ (by decide), @sr_lt _ 92 88 _ _ (by decide), @sr_lt _ 92 89 _ _ (by decide), @sr_lt _ 92 90 _ _ (by decide), @sr_lt _ 92 91 _ _ (by decide), @sr_lt _ 93 87 _ _ (by decide), @sr_lt _ 93 88 _ _ (by decide), @sr_lt _ 93 89 _ _ (by decide), @sr_lt _ 93 90 _ _ (by decide), @sr_lt _ 93 91 _ _ (by decide), @sr_lt _ 93 92 _ _ (by decide)]; try rfl) ?_
              exact ih4 (tk + co) (b + 1) ((us (M 87) 3 lc) 3 - 1) (cpf (lf) (lf) (y + 1).toNat y.toNat ((us (M 87) 3 lc) 3 - 1 - y).toNat) (us sb ((lf y.toNat).toNat) b) (us sp ((lf y.toNat).toNat) co) (us pu b.toNat (pu b.toNat - co)) id (by omega) (by rw [tn1 (by omega)]; simp only [hrG]; first | (rw [buyG_n hc_]; assumption) | omega) (by rw [tn1 (t := b) (by omega)]; simp only [hrG]; first | exact hq1_ | exact hN_) (by omega)
            · have hcn_ : (ch (hrG (M 10) (M 7) (TWf (M 7) (M 8) (M 9)) (M 22) (M 24) (M 25) (M 6 6).toNat (M 87 0) (M 87 1) h s_ b.toNat).1 (M 10) (M 7) (TWf (M 7) (M 8) (M 9)) (M 24 b.toNat) (M 25 b.toNat) ((hrG (M 10) (M 7) (TWf (M 7) (M 8) (M 9)) (M 22) (M 24) (M 25) (M 6 6).toNat (M 87 0) (M 87 1) h s_ b.toNat).2.1 b.toNat) (stg h (M 87 0) (M 87 1)) (M 6 6).toNat).1 = -1 := hpc_.1 (by omega)
              refine g_aloadn (pc := 72) (i := 0) (x := 87) hK dd_X5_playHour_72 rfl rfl ?_
              refine g_getv (pc := 73) (f := (1, 6)) (j := 8) (v := gR 93) hK (kdm kd_87) rfl ef_5 (by decide) rfl kk_330 dd_X5_playHour_73 rfl ?_
              refine g_iload (pc := 76) (i := 5) (x := b) hK dd_X5_playHour_76 rfl ?_
              refine g_iloadn (pc := 78) (i := 3) (x := sg) hK dd_X5_playHour_78 rfl rfl ?_
              refine g_iast (pc := 79) hK (kdm kd_93) nl_93 (by decide) (by decide) dd_X5_playHour_79 (by omega) (by omega) ⟨by omega, by omega⟩ ?_
              refine g_goto (pc := 80) (tgt := 115) hK dd_X5_playHour_80 (by decide) ?_
              have hc_ : choR (M 10) (M 7) (TWf (M 7) (M 8) (M 9)) (M 22) (M 24) (M 25) (M 6 6).toNat (M 87 0) (M 87 1) h b.toNat (hrG (M 10) (M 7) (TWf (M 7) (M 8) (M 9)) (M 22) (M 24) (M 25) (M 6 6).toNat (M 87 0) (M 87 1) h s_ b.toNat).1 (hrG (M 10) (M 7) (TWf (M 7) (M 8) (M 9)) (M 22) (M 24) (M 25) (M 6 6).toNat (M 87 0) (M 87 1) h s_ b.toNat).2.1 < 0 := by unfold choR; rw [if_neg (by omega), hcn_]; decide
              have hN_ := SIv_id (half := M 87 0) (bag := M 87 1) (hour := h) (b := b.toNat) hI_ (by omega) (by omega) hcn_
              rw [← esg] at hN_
              refine g_iinc (pc := 115) (i := 5) (y := b + 1) (L' := [(0, gR 87), (1, gR 5), (2, gI h), (3, gI sg), (4, gI tk), (5, gI (b + 1)), (6, gI y)]) hK dd_X5_playHour_115 rfl rfl (by decide) rfl ?_
              refine g_goto (pc := 118) (tgt := 19) hK dd_X5_playHour_118 (by decide) ?_
              refine g_sub (L' := [(0, gR 87), (1, gR 5), (2, gI h), (3, gI sg), (4, gI tk), (5, gI (b + 1))]) [0, 1, 2, 3, 4, 5] rfl ?_
              refine g_mem (M2 := sr (sr (sr (sr (sr (sr M 87 (us (M 87) 3 lc)) 88 lf) 90 sb) 91 sp) 92 pu) 93 (us id b.toNat sg)) (by simp (disch := decide) only [Int.reduceToNat, up_sr, sr_cp, sr_k, sr_o, sr_sr, us_us, @sr_lt _ 88 87 _ _ (by decide), @sr_lt _ 89 87 _ _ (by decide), @sr_lt _ 89 88 _ _ (by decide), @sr_lt _ 90 87 _ _ (by decide), @sr_lt _ 90 88 _ _ (by decide), @sr_lt _ 90 89 _ _ (by decide), @sr_lt _ 91 87 _ _ (by decide), @sr_lt _ 91 88 _ _ (by decide), @sr_lt _ 91 89 _ _ (by decide), @sr_lt _ 91 90 _ _ (by decide), @sr_lt _ 92 87 _ _ (by decide), @sr_lt _ 92 88 _ _ (by decide), @sr_lt _ 92 89 _ _ (by decide), @sr_lt _ 92 90 _ _ (by decide), @sr_lt _ 92 91 _ _ (by decide), @sr_lt _ 93 87 _ _ (by decide), @sr_lt _ 93 88 _ _ (by decide), @sr_lt _ 93 89 _ _ (by decide), @sr_lt _ 93 90 _ _ (by decide), @sr_lt _ 93 91 _ _ (by decide), @sr_lt _ 93 92 _ _ (by decide)]; try rfl) ?_
              exact ih4 tk (b + 1) lc lf sb sp pu (us id b.toNat sg) (by omega) (by rw [tn1 (by omega)]; simp only [hrG]; first | (rw [buyG_n hc_]; assumption) | omega) (by rw [tn1 (t := b) (by omega)]; simp only [hrG]; first | exact hq1_ | exact hN_) (by omega)
  refine g_mem (M2 := sr (sr (sr (sr (sr (sr M 87 (us (M 87) 3 (M 87 3))) 88 (M 88)) 90 (M 90)) 91 (M 91)) 92 (M 92)) 93 (M 93)) (by refine Eq.trans ?_ (sr_id (k := 93) rfl).symm; refine Eq.trans ?_ (sr_id (k := 92) rfl).symm; refine Eq.trans ?_ (sr_id (k := 91) rfl).symm; refine Eq.trans ?_ (sr_id (k := 90) rfl).symm; refine Eq.trans ?_ (sr_id (k := 88) rfl).symm; show _ = sr M 87 (us (M 87) 3 (M 87 3)); rw [us_self]; exact sr_self.symm) ?_
  refine g_sub (L' := [(0, gR 87), (1, gR 5), (2, gI h), (3, gI sg), (4, gI 0), (5, gI 0)]) [0, 1, 2, 3, 4, 5] rfl ?_
  exact lp5 _ 0 0 (M 87 3) (M 88) (M 90) (M 91) (M 92) (M 93) (by omega) (by show (0 : Int) = s_.2.2.2.2.2.2 - s_.2.2.2.2.2.2; omega) (hI) (Nat.lt_succ_self _)
