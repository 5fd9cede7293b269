set_option maxHeartbeats 4000000 in
set_option maxRecDepth 100000 in
theorem c_lay {l : Launch} {M : Mem} {Pq : Option gV → Mem → Prop} (r : Int) (r1 : 1 ≤ r ∧ r ≤ 10) (hec : 0 ≤ M 35 2 ∧ M 35 2 ≤ 10) (hse : ∀ j : Nat, j < 10 → (j : Int) < M 35 2 → (0 ≤ M 36 j ∧ M 36 j < 30) ∧ 0 ≤ M 37 j ∧ M 37 j ≤ 15) (hN : (¬ cLie (cpf (fun _ => r) (M 42) 0 0 5) ((hdS (M 36) (M 37) (M 38) (M 35 2).toNat (M 39) (M 40) 30).2.1) 0 ((hdS (M 36) (M 37) (M 38) (M 35 2).toNat (M 39) (M 40) 30).2.2).toNat) → Pq (some (gI 0)) (sr (sr (sr (sr M 35 (us (M 35) 7 ((hdS (M 36) (M 37) (M 38) (M 35 2).toNat (M 39) (M 40) 30).2.2))) 39 ((hdS (M 36) (M 37) (M 38) (M 35 2).toNat (M 39) (M 40) 30).1)) 40 ((hdS (M 36) (M 37) (M 38) (M 35 2).toNat (M 39) (M 40) 30).2.1)) 42 (cpf (fun _ => r) (M 42) 0 0 5))) (hY : (cLie (cpf (fun _ => r) (M 42) 0 0 5) ((hdS (M 36) (M 37) (M 38) (M 35 2).toNat (M 39) (M 40) 30).2.1) 0 ((hdS (M 36) (M 37) (M 38) (M 35 2).toNat (M 39) (M 40) 30).2.2).toNat) → Pq (some (gI 1)) (sr (sr (sr (sr (sr M 35 (us (M 35) 7 ((hdS (M 36) (M 37) (M 38) (M 35 2).toNat (M 39) (M 40) 30).2.2))) 39 ((hdS (M 36) (M 37) (M 38) (M 35 2).toNat (M 39) (M 40) 30).1)) 40 ((hdS (M 36) (M 37) (M 38) (M 35 2).toNat (M 39) (M 40) 30).2.1)) 41 (laS ((hdS (M 36) (M 37) (M 38) (M 35 2).toNat (M 39) (M 40) 30).2.1) (cpf (fun _ => r) (M 42) 0 0 5) (M 41) ((hdS (M 36) (M 37) (M 38) (M 35 2).toNat (M 39) (M 40) 30).2.2).toNat ((hdS (M 36) (M 37) (M 38) (M 35 2).toNat (M 39) (M 40) 30).2.2).toNat).2) 42 (laS ((hdS (M 36) (M 37) (M 38) (M 35 2).toNat (M 39) (M 40) 30).2.1) (cpf (fun _ => r) (M 42) 0 0 5) (M 41) ((hdS (M 36) (M 37) (M 38) (M 35 2).toNat (M 39) (M 40) 30).2.2).toNat ((hdS (M 36) (M 37) (M 38) (M 35 2).toNat (M 39) (M 40) 30).2.2).toNat).1)) : gCtr l my_X6_lay mb_X6_lay 3 ((some .boolean)) 4 [gR 35, gI r] M Pq := by
  refine g_intro (by decide) (Nat.le_of_ble_eq_true rfl) ?_
  intro p e s m args below meth c D cy q A hK hr hlocks hw
  refine g_sub (L' := [(0, gR 35), (1, gI r)]) [0, 1] rfl ?_
  refine g_aloadn (pc := 0) (i := 0) (x := 35) hK dd_X6_lay_0 rfl rfl ?_
  refine g_callV (pc := 1) (As := []) hK ws_Secrets_40 md_X6_findHidden ⟨Nat.zero_le _, Nat.zero_le _⟩ ⟨by decide, by decide⟩ (kdm kd_35) rfl rfl dd_X6_lay_1 rfl rfl (Nat.le_of_ble_eq_true rfl) (c_findHidden hec hse (g_r0 ?_))
  have hds_ := hdS_in (th := M 36) (pe := M 37) (se := M 38) (n := (M 35 2).toNat) (h0 := M 39) (s0 := M 40) 30
  refine g_aloadn (pc := 4) (i := 0) (x := 35) hK dd_X6_lay_4 rfl rfl ?_
  refine g_getv (pc := 5) (f := (1, 7)) (j := 8) (v := gR 42) hK (kdm kd_35) rfl ef_6 (by decide) rfl kk_238 dd_X6_lay_5 rfl ?_
  refine g_iloadn (pc := 8) (i := 1) (x := r) hK dd_X6_lay_8 rfl rfl ?_
  refine g_callT (pc := 9) (As := [gR 42, gI r]) hK ws_Secrets_43 md_J7_fill_53178 ⟨Nat.zero_le _, Nat.zero_le _⟩ ⟨by decide, by decide⟩ dd_X6_lay_9 rfl rfl (Nat.le_of_ble_eq_true rfl) (c_fill_42 r ⟨by omega, by omega⟩ (g_r0 ?_))
  have hsp_ : ∀ j : Nat, j < 5 → 0 ≤ (cpf (fun _ => r) (M 42) 0 0 5) j ∧ (cpf (fun _ => r) (M 42) 0 0 5) j ≤ 10 := fun j hj => by rw [cpf_c hj]; omega
  refine g_aloadn (pc := 12) (i := 0) (x := 35) hK dd_X6_lay_12 rfl rfl ?_
  refine g_iconst (pc := 13) (x := 0) hK dd_X6_lay_13 (by decide) ?_
  refine g_callV (pc := 14) (As := [gI 0]) hK ws_Secrets_49 md_X6_canLie ⟨Nat.zero_le _, Nat.zero_le _⟩ ⟨by decide, by decide⟩ (kdm kd_35) rfl rfl dd_X6_lay_14 rfl rfl (Nat.le_of_ble_eq_true rfl) (c_canLie 0 (by omega) hds_ hsp_ (fun c1 => g_r1 ?_) (fun c1 => g_r1 ?_))
  · refine g_if_ne (pc := 17) (tgt := 22) hK dd_X6_lay_17 (by decide) (by decide) (fun _ => ?_) (fun c2 => absurd (by decide) c2)
    have hli_ : cLie (cpf (fun _ => r) (M 42) 0 0 5) ((hdS (M 36) (M 37) (M 38) (M 35 2).toNat (M 39) (M 40) 30).2.1) 0 ((hdS (M 36) (M 37) (M 38) (M 35 2).toNat (M 39) (M 40) 30).2.2).toNat := c1
    refine g_iconst (pc := 22) (x := 0) hK dd_X6_lay_22 (by decide) ?_
    refine g_istoren (pc := 23) (i := 2) (L' := [(0, gR 35), (1, gI r), (2, gI 0)]) hK dd_X6_lay_23 rfl (by decide) rfl ?_
    have lp5 : ∀ (n3 : Nat) (h : Int), (0 ≤ h ∧ h ≤ (hdS (M 36) (M 37) (M 38) (M 35 2).toNat (M 39) (M 40) 30).2.2) → ((hdS (M 36) (M 37) (M 38) (M 35 2).toNat (M 39) (M 40) 30).2.2 - h).toNat < n3 → G p l e (rmD 4) s m args below meth c D cy q A 0 0 3 (MQ below (gQc D cy q A Pq) args s 0 0 A) 24 [(0, gR 35), (1, gI r), (2, gI h)] [] (sr (sr (sr (sr (sr M 35 (us (M 35) 7 ((hdS (M 36) (M 37) (M 38) (M 35 2).toNat (M 39) (M 40) 30).2.2))) 39 ((hdS (M 36) (M 37) (M 38) (M 35 2).toNat (M 39) (M 40) 30).1)) 40 ((hdS (M 36) (M 37) (M 38) (M 35 2).toNat (M 39) (M 40) 30).2.1)) 41 (laS ((hdS (M 36) (M 37) (M 38) (M 35 2).toNat (M 39) (M 40) 30).2.1) (cpf (fun _ => r) (M 42) 0 0 5) (M 41) ((hdS (M 36) (M 37) (M 38) (M 35 2).toNat (M 39) (M 40) 30).2.2).toNat h.toNat).2) 42 (laS ((hdS (M 36) (M 37) (M 38) (M 35 2).toNat (M 39) (M 40) 30).2.1) (cpf (fun _ => r) (M 42) 0 0 5) (M 41) ((hdS (M 36) (M 37) (M 38) (M 35 2).toNat (M 39) (M 40) 30).2.2).toNat h.toNat).1) := by
      intro n3
      induction n3 with
      | zero => intro h iv6 hm7; exact absurd hm7 (Nat.not_lt_zero _)
      | succ n3 ih4 =>
        intro h iv6 hm7
        refine g_iloadn (pc := 24) (i := 2) (x := h) hK dd_X6_lay_24 rfl rfl ?_
        refine g_aloadn (pc := 25) (i := 0) (x := 35) hK dd_X6_lay_25 rfl rfl ?_
        have hspl_ := laS_in (sf := (hdS (M 36) (M 37) (M 38) (M 35 2).toNat (M 39) (M 40) 30).2.1) (l0 := M 41) (hc := ((hdS (M 36) (M 37) (M 38) (M 35 2).toNat (M 39) (M 40) 30).2.2).toNat) hsp_ h.toNat
        refine g_geti (pc := 26) (f := (0, 0)) (j := 7) hK (kdm kd_35) rfl ef_6 (by decide) rfl kk_237 nl_35 dd_X6_lay_26 rfl (fun x8 ex8 rx8 => ?_)
        replace ex8 : x8 = (us (M 35) 7 ((hdS (M 36) (M 37) (M 38) (M 35 2).toNat (M 39) (M 40) 30).2.2)) 7 := by first | exact ex8 | (rw [ex8]; simp [up, us, cp, sr])
        replace ex8 : x8 = (hdS (M 36) (M 37) (M 38) (M 35 2).toNat (M 39) (M 40) 30).2.2 := ex8
        refine g_icmp_ge (pc := 29) (tgt := 49) hK dd_X6_lay_29 (by decide) ⟨by omega, by omega⟩ rx8 (fun c9 => ?_) (fun c9 => ?_)
        · refine g_iconst (pc := 49) (x := 1) hK dd_X6_lay_49 (by decide) ?_
          refine g_iret (pc := 50) hK hr hlocks dd_X6_lay_50 rfl ?_
          exact g_fin (hY (by exact hli_)) (by first | rfl | omega | (subst_vars; first | rfl | omega)) (by rw [show (hdS (M 36) (M 37) (M 38) (M 35 2).toNat (M 39) (M 40) 30).2.2 = h by omega])
        · refine g_aloadn (pc := 32) (i := 0) (x := 35) hK dd_X6_lay_32 rfl rfl ?_
          refine g_getv (pc := 33) (f := (1, 6)) (j := 6) (v := gR 41) hK (kdm kd_35) rfl ef_6 (by decide) rfl kk_236 dd_X6_lay_33 rfl ?_
          refine g_iloadn (pc := 36) (i := 2) (x := h) hK dd_X6_lay_36 rfl rfl ?_
          refine g_aloadn (pc := 37) (i := 0) (x := 35) hK dd_X6_lay_37 rfl rfl ?_
          refine g_iloadn (pc := 38) (i := 2) (x := h) hK dd_X6_lay_38 rfl rfl ?_
          refine g_callV (pc := 39) (As := [gI h]) hK ws_Secrets_53 md_X6_firstTable ⟨Nat.zero_le _, Nat.zero_le _⟩ ⟨by decide, by decide⟩ (kdm kd_35) rfl rfl dd_X6_lay_39 rfl rfl (Nat.le_of_ble_eq_true rfl) (c_firstTable h (show 0 ≤ h ∧ h < (hdS (M 36) (M 37) (M 38) (M 35 2).toNat (M 39) (M 40) 30).2.2 by omega) hds_ hspl_ (g_r1 ?_))
          refine g_topI (fun ft eft => ?_)
          replace eft : ft = (ftF (((laS ((hdS (M 36) (M 37) (M 38) (M 35 2).toNat (M 39) (M 40) 30).2.1) (cpf (fun _ => r) (M 42) 0 0 5) (M 41) ((hdS (M 36) (M 37) (M 38) (M 35 2).toNat (M 39) (M 40) 30).2.2).toNat h.toNat).1)) (((hdS (M 36) (M 37) (M 38) (M 35 2).toNat (M 39) (M 40) 30).2.1)) h.toNat ((us (M 35) 7 ((hdS (M 36) (M 37) (M 38) (M 35 2).toNat (M 39) (M 40) 30).2.2)) 7).toNat 5 0).1 := eft
          have hft_ : ft = (ftF (laS ((hdS (M 36) (M 37) (M 38) (M 35 2).toNat (M 39) (M 40) 30).2.1) (cpf (fun _ => r) (M 42) 0 0 5) (M 41) ((hdS (M 36) (M 37) (M 38) (M 35 2).toNat (M 39) (M 40) 30).2.2).toNat h.toNat).1 ((hdS (M 36) (M 37) (M 38) (M 35 2).toNat (M 39) (M 40) 30).2.1) h.toNat ((hdS (M 36) (M 37) (M 38) (M 35 2).toNat (M 39) (M 40) 30).2.2).toNat 5 0).1 := eft
          have hfr_ := (ftF_rng (sf := (hdS (M 36) (M 37) (M 38) (M 35 2).toNat (M 39) (M 40) 30).2.1) (h := h.toNat) (hc := ((hdS (M 36) (M 37) (M 38) (M 35 2).toNat (M 39) (M 40) 30).2.2).toNat) hspl_ 5 0 rfl).2
          rw [← hft_] at hfr_
          refine g_iast (pc := 42) hK (kdm kd_41) nl_41 (by decide) (by decide) dd_X6_lay_42 (by omega) (by omega) ⟨by omega, by omega⟩ ?_
          refine g_iinc (pc := 43) (i := 2) (y := h + 1) (L' := [(0, gR 35), (1, gI r), (2, gI (h + 1))]) hK dd_X6_lay_43 rfl rfl (by decide) rfl ?_
          refine g_goto (pc := 46) (tgt := 24) hK dd_X6_lay_46 (by decide) ?_
          refine g_sub (L' := [(0, gR 35), (1, gI r), (2, gI (h + 1))]) [0, 1, 2] rfl ?_
          refine g_mem (M2 := sr (sr (sr (sr (sr M 35 (us (M 35) 7 ((hdS (M 36) (M 37) (M 38) (M 35 2).toNat (M 39) (M 40) 30).2.2))) 39 ((hdS (M 36) (M 37) (M 38) (M 35 2).toNat (M 39) (M 40) 30).1)) 40 ((hdS (M 36) (M 37) (M 38) (M 35 2).toNat (M 39) (M 40) 30).2.1)) 41 (laS ((hdS (M 36) (M 37) (M 38) (M 35 2).toNat (M 39) (M 40) 30).2.1) (cpf (fun _ => r) (M 42) 0 0 5) (M 41) ((hdS (M 36) (M 37) (M 38) (M 35 2).toNat (M 39) (M 40) 30).2.2).toNat (h + 1).toNat).2) 42 (laS ((hdS (M 36) (M 37) (M 38) (M 35 2).toNat (M 39) (M 40) 30).2.1) (cpf (fun _ => r) (M 42) 0 0 5) (M 41) ((hdS (M 36) (M 37) (M 38) (M 35 2).toNat (M 39) (M 40) 30).2.2).toNat (h + 1).toNat).1) (by rw [tn1 (t := h) (by omega)]; simp only [laS]; rw [← hft_]; simp (disch := decide) only [Int.reduceToNat, up_sr, sr_cp, sr_k, sr_o, sr_sr, us_us, us_k, @sr_lt _ 39 35 _ _ (by decide), @sr_lt _ 40 35 _ _ (by decide), @sr_lt _ 40 39 _ _ (by decide), @sr_lt _ 41 35 _ _ (by decide), @sr_lt _ 41 39 _ _ (by decide), @sr_lt _ 41 40 _ _ (by decide), @sr_lt _ 42 35 _ _ (by decide), @sr_lt _ 42 39 _ _ (by decide), @sr_lt _ 42 40 _ _ (by decide), @sr_lt _ 42 41 _ _ (by decide)]; try rfl) ?_
          exact ih4 (h + 1) (by omega) (by omega)
    refine g_mem (M2 := sr (sr (sr (sr (sr M 35 (us (M 35) 7 ((hdS (M 36) (M 37) (M 38) (M 35 2).toNat (M 39) (M 40) 30).2.2))) 39 ((hdS (M 36) (M 37) (M 38) (M 35 2).toNat (M 39) (M 40) 30).1)) 40 ((hdS (M 36) (M 37) (M 38) (M 35 2).toNat (M 39) (M 40) 30).2.1)) 41 (laS ((hdS (M 36) (M 37) (M 38) (M 35 2).toNat (M 39) (M 40) 30).2.1) (cpf (fun _ => r) (M 42) 0 0 5) (M 41) ((hdS (M 36) (M 37) (M 38) (M 35 2).toNat (M 39) (M 40) 30).2.2).toNat (0 : Int).toNat).2) 42 (laS ((hdS (M 36) (M 37) (M 38) (M 35 2).toNat (M 39) (M 40) 30).2.1) (cpf (fun _ => r) (M 42) 0 0 5) (M 41) ((hdS (M 36) (M 37) (M 38) (M 35 2).toNat (M 39) (M 40) 30).2.2).toNat (0 : Int).toNat).1) (by refine Eq.trans ?_ (congrArg (fun z_ => sr z_ 42 (cpf (fun _ => r) (M 42) 0 0 5)) (sr_id (X := sr (sr (sr M 35 (us (M 35) 7 ((hdS (M 36) (M 37) (M 38) (M 35 2).toNat (M 39) (M 40) 30).2.2))) 39 ((hdS (M 36) (M 37) (M 38) (M 35 2).toNat (M 39) (M 40) 30).1)) 40 ((hdS (M 36) (M 37) (M 38) (M 35 2).toNat (M 39) (M 40) 30).2.1)) (k := 41) (f := (laS ((hdS (M 36) (M 37) (M 38) (M 35 2).toNat (M 39) (M 40) 30).2.1) (cpf (fun _ => r) (M 42) 0 0 5) (M 41) ((hdS (M 36) (M 37) (M 38) (M 35 2).toNat (M 39) (M 40) 30).2.2).toNat (0 : Int).toNat).2) rfl).symm); first | rfl | (simp (disch := decide) only [Int.reduceToNat, up_sr, sr_cp, sr_k, sr_o, sr_sr, us_us, us_k, @sr_lt _ 39 35 _ _ (by decide), @sr_lt _ 40 35 _ _ (by decide), @sr_lt _ 40 39 _ _ (by decide), @sr_lt _ 41 35 _ _ (by decide), @sr_lt _ 41 39 _ _ (by decide), @sr_lt _ 41 40 _ _ (by decide), @sr_lt _ 42 35 _ _ (by decide), @sr_lt _ 42 39 _ _ (by decide), @sr_lt _ 42 40 _ _ (by decide), @sr_lt _ 42 41 _ _ (by decide)]; try rfl)) ?_
    refine g_sub (L' := [(0, gR 35), (1, gI r), (2, gI 0)]) [0, 1, 2] rfl ?_
    exact lp5 _ 0 (by omega) (Nat.lt_succ_self _)
  · refine g_if_ne (pc := 17) (tgt := 22) hK dd_X6_lay_17 (by decide) (by decide) (fun c10 => absurd c10 (by decide)) (fun _ => ?_)
    refine g_iconst (pc := 20) (x := 0) hK dd_X6_lay_20 (by decide) ?_
    refine g_iret (pc := 21) hK hr hlocks dd_X6_lay_21 rfl ?_
    exact g_fin (hN (by exact c1)) (by first | rfl | omega | (subst_vars; first | rfl | omega)) (by simp (disch := decide) only [Int.reduceToNat, up_sr, sr_cp, sr_k, sr_o, sr_sr, us_us, us_k, @sr_lt _ 39 35 _ _ (by decide), @sr_lt _ 40 35 _ _ (by decide), @sr_lt _ 40 39 _ _ (by decide), @sr_lt _ 41 35 _ _ (by decide), @sr_lt _ 41 39 _ _ (by decide), @sr_lt _ 41 40 _ _ (by decide), @sr_lt _ 42 35 _ _ (by decide), @sr_lt _ 42 39 _ _ (by decide), @sr_lt _ 42 40 _ _ (by decide), @sr_lt _ 42 41 _ _ (by decide)]; try rfl)
set_option maxHeartbeats 4000000 in
set_option maxRecDepth 100000 in
theorem c_tableOf {l : Launch} {M : Mem} {Pq : Option gV → Mem → Prop} (t : Int) (ht : inI t) (hhc : 0 ≤ M 35 7 ∧ M 35 7 ≤ 10) (hQ : Pq (some (gI (tboF (M 39) (M 41) t (M 35 7).toNat 0))) M) : gCtr l my_X6_tableOf mb_X6_tableOf 3 ((some .int)) 1 [gR 35, gI t] M Pq := by
  refine g_intro (by decide) (Nat.le_of_ble_eq_true rfl) ?_
  intro p e s m args below meth c D cy q A hK hr hlocks hw
  refine g_sub (L' := [(0, gR 35), (1, gI t)]) [0, 1] rfl ?_
  refine g_iconst (pc := 0) (x := 0) hK dd_X6_tableOf_0 (by decide) ?_
  refine g_istoren (pc := 1) (i := 2) (L' := [(0, gR 35), (1, gI t), (2, gI 0)]) hK dd_X6_tableOf_1 rfl (by decide) rfl ?_
  have lp3 : ∀ (n1 : Nat) (h : Int), (0 ≤ h ∧ h ≤ M 35 7) → (tboF (M 39) (M 41) t (M 35 7).toNat 0 = tboF (M 39) (M 41) t (M 35 7 - h).toNat h.toNat) → (M 35 7 - h).toNat < n1 → G p l e (rmD 1) s m args below meth c D cy q A 0 0 3 (MQ below (gQc D cy q A Pq) args s 0 0 A) 2 [(0, gR 35), (1, gI t), (2, gI h)] [] M := by
    intro n1
    induction n1 with
    | zero => intro h iv4 hto_ hm5; exact absurd hm5 (Nat.not_lt_zero _)
    | succ n1 ih2 =>
      intro h iv4 hto_ hm5
      refine g_iloadn (pc := 2) (i := 2) (x := h) hK dd_X6_tableOf_2 rfl rfl ?_
      refine g_aloadn (pc := 3) (i := 0) (x := 35) hK dd_X6_tableOf_3 rfl rfl ?_
      refine g_geti (pc := 4) (f := (0, 0)) (j := 7) hK (kdm kd_35) rfl ef_6 (by decide) rfl kk_237 nl_35 dd_X6_tableOf_4 rfl (fun x6 ex6 rx6 => ?_)
      refine g_icmp_ge (pc := 7) (tgt := 33) hK dd_X6_tableOf_7 (by decide) ⟨by omega, by omega⟩ rx6 (fun c7 => ?_) (fun c7 => ?_)
      · refine g_iconst (pc := 33) (x := (-1)) hK dd_X6_tableOf_33 (by decide) ?_
        refine g_iret (pc := 34) hK hr hlocks dd_X6_tableOf_34 rfl ?_
        exact g_fin hQ (by first | (rw [hto_, show (M 35 7 - h).toNat = (M 35 7 - (h + 1)).toNat + 1 by omega]; simp only [tboF]; rw [if_pos (by omega)]; assumption) | (rw [hto_, show (M 35 7 - h).toNat = 0 by omega]; rfl)) (by first | rfl | (subst_vars; rfl))
      · refine g_aloadn (pc := 10) (i := 0) (x := 35) hK dd_X6_tableOf_10 rfl rfl ?_
        refine g_getv (pc := 11) (f := (1, 4)) (j := 4) (v := gR 39) hK (kdm kd_35) rfl ef_6 (by decide) rfl kk_234 dd_X6_tableOf_11 rfl ?_
        refine g_iloadn (pc := 14) (i := 2) (x := h) hK dd_X6_tableOf_14 rfl rfl ?_
        refine g_iald (pc := 15) hK (kdm kd_39) nl_39 (by decide) dd_X6_tableOf_15 (by omega) (by omega) (fun x8 ex8 rx8 => ?_)
        refine g_iloadn (pc := 16) (i := 1) (x := t) hK dd_X6_tableOf_16 rfl rfl ?_
        refine g_icmp_ne (pc := 17) (tgt := 27) hK dd_X6_tableOf_17 (by decide) rx8 ht (fun c9 => ?_) (fun c9 => ?_)
        · refine g_iinc (pc := 27) (i := 2) (y := h + 1) (L' := [(0, gR 35), (1, gI t), (2, gI (h + 1))]) hK dd_X6_tableOf_27 rfl rfl (by decide) rfl ?_
          refine g_goto (pc := 30) (tgt := 2) hK dd_X6_tableOf_30 (by decide) ?_
          refine g_sub (L' := [(0, gR 35), (1, gI t), (2, gI (h + 1))]) [0, 1, 2] rfl ?_
          exact ih2 (h + 1) (by omega) (by rw [hto_, tn1 (by omega), show (M 35 7 - h).toNat = (M 35 7 - (h + 1)).toNat + 1 by omega]; simp only [tboF]; rw [if_neg (by omega)]) (by omega)
        · refine g_aloadn (pc := 20) (i := 0) (x := 35) hK dd_X6_tableOf_20 rfl rfl ?_
          refine g_getv (pc := 21) (f := (1, 6)) (j := 6) (v := gR 41) hK (kdm kd_35) rfl ef_6 (by decide) rfl kk_236 dd_X6_tableOf_21 rfl ?_
          refine g_iloadn (pc := 24) (i := 2) (x := h) hK dd_X6_tableOf_24 rfl rfl ?_
          refine g_iald (pc := 25) hK (kdm kd_41) nl_41 (by decide) dd_X6_tableOf_25 (by omega) (by omega) (fun x10 ex10 rx10 => ?_)
          refine g_iret (pc := 26) hK hr hlocks dd_X6_tableOf_26 rfl ?_
          exact g_fin hQ (by first | (rw [hto_, show (M 35 7 - h).toNat = (M 35 7 - (h + 1)).toNat + 1 by omega]; simp only [tboF]; rw [if_pos (by omega)]; assumption) | (rw [hto_, show (M 35 7 - h).toNat = 0 by omega]; rfl)) (by first | rfl | (subst_vars; rfl))
  refine g_sub (L' := [(0, gR 35), (1, gI t), (2, gI 0)]) [0, 1, 2] rfl ?_
  exact lp3 _ 0 (by omega) (by rw [show (M 35 7 - 0).toNat = (M 35 7).toNat by omega]; rfl) (Nat.lt_succ_self _)
set_option maxHeartbeats 4000000 in
set_option maxRecDepth 100000 in
theorem x_laid {l : Launch} {M : Mem} {Pq : Option gV → Mem → Prop} (r : Int) (t : Int) (h_r : inI r) (h_t : inI t) (hrf : rfOK M) (hc : 0 ≤ M 6 6 ∧ M 6 6 ≤ 30) (hec : 0 ≤ M 35 2 ∧ M 35 2 ≤ 10) (hse : ∀ j : Nat, j < 10 → (j : Int) < M 35 2 → (0 ≤ M 36 j ∧ M 36 j < 30) ∧ 0 ≤ M 37 j ∧ M 37 j ≤ 15) (hB : (¬ ((1 ≤ r ∧ r ≤ 10) ∧ 0 ≤ t ∧ t < M 6 6)) → Pq (some (gI (-2))) (rf M 0)) (hS : (((1 ≤ r ∧ r ≤ 10) ∧ 0 ≤ t ∧ t < M 6 6) ∧ ¬ cLie (cpf (fun _ => r) (M 42) 0 0 5) ((hdS (M 36) (M 37) (M 38) (M 35 2).toNat (M 39) (M 40) 30).2.1) 0 ((hdS (M 36) (M 37) (M 38) (M 35 2).toNat (M 39) (M 40) 30).2.2).toNat) → Pq (some (gI (-5))) (rf (sr (sr (sr (sr M 35 (us (M 35) 7 ((hdS (M 36) (M 37) (M 38) (M 35 2).toNat (M 39) (M 40) 30).2.2))) 39 ((hdS (M 36) (M 37) (M 38) (M 35 2).toNat (M 39) (M 40) 30).1)) 40 ((hdS (M 36) (M 37) (M 38) (M 35 2).toNat (M 39) (M 40) 30).2.1)) 42 (cpf (fun _ => r) (M 42) 0 0 5)) 3)) (hY : (((1 ≤ r ∧ r ≤ 10) ∧ 0 ≤ t ∧ t < M 6 6) ∧ cLie (cpf (fun _ => r) (M 42) 0 0 5) ((hdS (M 36) (M 37) (M 38) (M 35 2).toNat (M 39) (M 40) 30).2.1) 0 ((hdS (M 36) (M 37) (M 38) (M 35 2).toNat (M 39) (M 40) 30).2.2).toNat) → Pq (some (gI (tboF ((hdS (M 36) (M 37) (M 38) (M 35 2).toNat (M 39) (M 40) 30).1) (laS ((hdS (M 36) (M 37) (M 38) (M 35 2).toNat (M 39) (M 40) 30).2.1) (cpf (fun _ => r) (M 42) 0 0 5) (M 41) ((hdS (M 36) (M 37) (M 38) (M 35 2).toNat (M 39) (M 40) 30).2.2).toNat ((hdS (M 36) (M 37) (M 38) (M 35 2).toNat (M 39) (M 40) 30).2.2).toNat).2 t ((hdS (M 36) (M 37) (M 38) (M 35 2).toNat (M 39) (M 40) 30).2.2).toNat 0))) (sr (sr (sr (sr (sr M 35 (us (M 35) 7 ((hdS (M 36) (M 37) (M 38) (M 35 2).toNat (M 39) (M 40) 30).2.2))) 39 ((hdS (M 36) (M 37) (M 38) (M 35 2).toNat (M 39) (M 40) 30).1)) 40 ((hdS (M 36) (M 37) (M 38) (M 35 2).toNat (M 39) (M 40) 30).2.1)) 41 (laS ((hdS (M 36) (M 37) (M 38) (M 35 2).toNat (M 39) (M 40) 30).2.1) (cpf (fun _ => r) (M 42) 0 0 5) (M 41) ((hdS (M 36) (M 37) (M 38) (M 35 2).toNat (M 39) (M 40) 30).2.2).toNat ((hdS (M 36) (M 37) (M 38) (M 35 2).toNat (M 39) (M 40) 30).2.2).toNat).2) 42 (laS ((hdS (M 36) (M 37) (M 38) (M 35 2).toNat (M 39) (M 40) 30).2.1) (cpf (fun _ => r) (M 42) 0 0 5) (M 41) ((hdS (M 36) (M 37) (M 38) (M 35 2).toNat (M 39) (M 40) 30).2.2).toNat ((hdS (M 36) (M 37) (M 38) (M 35 2).toNat (M 39) (M 40) 30).2.2).toNat).1)) : gCtr l my_X11_laid mb_X11_laid 3 ((some .int)) 5 [gR 0, gI r, gI t] M Pq := by
  refine g_intro (by decide) (Nat.le_of_ble_eq_true rfl) ?_
  intro p e s m args below meth c D cy q A hK hr hlocks hw
  refine g_sub (L' := [(0, gR 0), (1, gI r), (2, gI t)]) [0, 1, 2] rfl ?_
  refine g_iloadn (pc := 0) (i := 1) (x := r) hK dd_X11_laid_0 rfl rfl ?_
  refine g_iconst (pc := 1) (x := 1) hK dd_X11_laid_1 (by decide) ?_
  refine g_bipush (pc := 2) (x := 10) hK dd_X11_laid_2 (by decide) ?_
  refine g_callT (pc := 4) (As := [gI r, gI 1, gI 10]) hK ws_X_59 md_X11_within ⟨Nat.zero_le _, Nat.zero_le _⟩ ⟨by decide, by decide⟩ dd_X11_laid_4 rfl rfl (Nat.le_of_ble_eq_true rfl) (c_within r 1 10 h_r (by decide) (by decide) (fun c1 => g_r1 ?_) (fun c1 => g_r1 ?_))
  · refine g_if_eq (pc := 7) (tgt := 24) hK dd_X11_laid_7 (by decide) (by decide) (fun c2 => absurd c2 (by decide)) (fun _ => ?_)
    refine g_aloadn (pc := 10) (i := 0) (x := 0) hK dd_X11_laid_10 rfl rfl ?_
    refine g_getv (pc := 11) (f := (1, 5)) (j := 3) (v := gR 5) hK (kdm kd_0) rfl ef_11 (by decide) rfl kk_385 dd_X11_laid_11 rfl ?_
    refine g_getv (pc := 14) (f := (1, 1)) (j := 0) (v := gR 6) hK (kdm kd_5) rfl ef_1 (by decide) rfl kk_260 dd_X11_laid_14 rfl ?_
    refine g_iloadn (pc := 17) (i := 2) (x := t) hK dd_X11_laid_17 rfl rfl ?_
    refine g_callV (pc := 18) (As := [gI t]) hK ws_X_117 md_X10_has ⟨Nat.zero_le _, Nat.zero_le _⟩ ⟨by decide, by decide⟩ (kdm kd_6) rfl rfl dd_X11_laid_18 rfl rfl (Nat.le_of_ble_eq_true rfl) (c_has10 t (show inI t by omega) (show 0 ≤ M 6 6 ∧ M 6 6 ≤ 30 by omega) (fun c3 => g_r1 ?_) (fun c3 => g_r1 ?_))
    · refine g_if_ne (pc := 21) (tgt := 31) hK dd_X11_laid_21 (by decide) (by decide) (fun _ => ?_) (fun c4 => absurd (by decide) c4)
      refine g_aloadn (pc := 31) (i := 0) (x := 0) hK dd_X11_laid_31 rfl rfl ?_
      refine g_getv (pc := 32) (f := (1, 5)) (j := 3) (v := gR 5) hK (kdm kd_0) rfl ef_11 (by decide) rfl kk_385 dd_X11_laid_32 rfl ?_
      refine g_getv (pc := 35) (f := (1, 30)) (j := 5) (v := gR 35) hK (kdm kd_5) rfl ef_1 (by decide) rfl kk_271 dd_X11_laid_35 rfl ?_
      refine g_iloadn (pc := 38) (i := 1) (x := r) hK dd_X11_laid_38 rfl rfl ?_
      refine g_callV (pc := 39) (As := [gI r]) hK ws_X_353 md_X6_lay ⟨Nat.zero_le _, Nat.zero_le _⟩ ⟨by decide, by decide⟩ (kdm kd_35) rfl rfl dd_X11_laid_39 rfl rfl (Nat.le_of_ble_eq_true rfl) (c_lay r (by omega) hec hse (fun c5 => g_r1 ?_) (fun c6 => g_r1 ?_))
      · refine g_if_ne (pc := 42) (tgt := 52) hK dd_X11_laid_42 (by decide) (by decide) (fun c7 => absurd c7 (by decide)) (fun _ => ?_)
        have hln_ : ¬ cLie (cpf (fun _ => r) (M 42) 0 0 5) ((hdS (M 36) (M 37) (M 38) (M 35 2).toNat (M 39) (M 40) 30).2.1) 0 ((hdS (M 36) (M 37) (M 38) (M 35 2).toNat (M 39) (M 40) 30).2.2).toNat := c5
        refine g_aloadn (pc := 45) (i := 0) (x := 0) hK dd_X11_laid_45 rfl rfl ?_
        refine g_bipush (pc := 46) (x := (-5)) hK dd_X11_laid_46 (by decide) ?_
        refine g_callV (pc := 48) (As := [gI (-5)]) hK ws_X_63 md_X11_refuse ⟨Nat.zero_le _, Nat.zero_le _⟩ ⟨by decide, by decide⟩ (kdm kd_0) rfl rfl dd_X11_laid_48 rfl rfl (Nat.le_of_ble_eq_true rfl) (c_refuse_3 hrf (g_r1 ?_))
        refine g_iret (pc := 51) hK hr hlocks dd_X11_laid_51 rfl ?_
        exact g_fin (hS (by exact ⟨by omega, hln_⟩)) (by first | rfl | omega | (subst_vars; first | rfl | omega)) (by first | rfl | (subst_vars; rfl))
      · refine g_if_ne (pc := 42) (tgt := 52) hK dd_X11_laid_42 (by decide) (by decide) (fun _ => ?_) (fun c8 => absurd (by decide) c8)
        have hly_ : cLie (cpf (fun _ => r) (M 42) 0 0 5) ((hdS (M 36) (M 37) (M 38) (M 35 2).toNat (M 39) (M 40) 30).2.1) 0 ((hdS (M 36) (M 37) (M 38) (M 35 2).toNat (M 39) (M 40) 30).2.2).toNat := c6
        have hds_ := hdS_in (th := M 36) (pe := M 37) (se := M 38) (n := (M 35 2).toNat) (h0 := M 39) (s0 := M 40) 30
        refine g_aloadn (pc := 52) (i := 0) (x := 0) hK dd_X11_laid_52 rfl rfl ?_
        refine g_getv (pc := 53) (f := (1, 5)) (j := 3) (v := gR 5) hK (kdm kd_0) rfl ef_11 (by decide) rfl kk_385 dd_X11_laid_53 rfl ?_
        refine g_getv (pc := 56) (f := (1, 30)) (j := 5) (v := gR 35) hK (kdm kd_5) rfl ef_1 (by decide) rfl kk_271 dd_X11_laid_56 rfl ?_
        refine g_iloadn (pc := 59) (i := 2) (x := t) hK dd_X11_laid_59 rfl rfl ?_
        refine g_callV (pc := 60) (As := [gI t]) hK ws_X_356 md_X6_tableOf ⟨Nat.zero_le _, Nat.zero_le _⟩ ⟨by decide, by decide⟩ (kdm kd_35) rfl rfl dd_X11_laid_60 rfl rfl (Nat.le_of_ble_eq_true rfl) (c_tableOf t h_t hds_ (g_r1 ?_))
        refine g_topI (fun y9 ey9 => ?_)
        refine g_iret (pc := 63) hK hr hlocks dd_X11_laid_63 rfl ?_
        exact g_fin (hY (by exact ⟨by omega, hly_⟩)) (by first | rfl | omega | (subst_vars; first | rfl | omega)) (by first | rfl | (subst_vars; rfl))
    · refine g_if_ne (pc := 21) (tgt := 31) hK dd_X11_laid_21 (by decide) (by decide) (fun c10 => absurd c10 (by decide)) (fun _ => ?_)
      refine g_aloadn (pc := 24) (i := 0) (x := 0) hK dd_X11_laid_24 rfl rfl ?_
      refine g_bipush (pc := 25) (x := (-2)) hK dd_X11_laid_25 (by decide) ?_
      refine g_callV (pc := 27) (As := [gI (-2)]) hK ws_X_63 md_X11_refuse ⟨Nat.zero_le _, Nat.zero_le _⟩ ⟨by decide, by decide⟩ (kdm kd_0) rfl rfl dd_X11_laid_27 rfl rfl (Nat.le_of_ble_eq_true rfl) (c_refuse_0 hrf (g_r1 ?_))
      refine g_iret (pc := 30) hK hr hlocks dd_X11_laid_30 rfl ?_
      first | exact g_fin (hB (by first | omega | (subst_vars; omega) | exact ⟨by first | assumption | omega | (subst_vars; first | assumption | omega), by first | assumption | omega | (subst_vars; first | assumption | omega)⟩)) (by first | rfl | omega | (subst_vars; first | rfl | omega)) (by first | rfl | (subst_vars; rfl)) | exact g_fin (hY (by exact ⟨by omega, hly_⟩)) (by first | rfl | omega | (subst_vars; first | rfl | omega)) (by first | rfl | (subst_vars; rfl)) | (exfalso; omega)
  · refine g_if_eq (pc := 7) (tgt := 24) hK dd_X11_laid_7 (by decide) (by decide) (fun _ => ?_) (fun c11 => absurd (by decide) c11)
    refine g_aloadn (pc := 24) (i := 0) (x := 0) hK dd_X11_laid_24 rfl rfl ?_
    refine g_bipush (pc := 25) (x := (-2)) hK dd_X11_laid_25 (by decide) ?_
    refine g_callV (pc := 27) (As := [gI (-2)]) hK ws_X_63 md_X11_refuse ⟨Nat.zero_le _, Nat.zero_le _⟩ ⟨by decide, by decide⟩ (kdm kd_0) rfl rfl dd_X11_laid_27 rfl rfl (Nat.le_of_ble_eq_true rfl) (c_refuse_0 hrf (g_r1 ?_))
    refine g_iret (pc := 30) hK hr hlocks dd_X11_laid_30 rfl ?_
    first | exact g_fin (hB (by first | omega | (subst_vars; omega) | exact ⟨by first | assumption | omega | (subst_vars; first | assumption | omega), by first | assumption | omega | (subst_vars; first | assumption | omega)⟩)) (by first | rfl | omega | (subst_vars; first | rfl | omega)) (by first | rfl | (subst_vars; rfl)) | exact g_fin (hY (by exact ⟨by omega, hly_⟩)) (by first | rfl | omega | (subst_vars; first | rfl | omega)) (by first | rfl | (subst_vars; rfl)) | (exfalso; omega)
