set_option maxHeartbeats 4000000 in
set_option maxRecDepth 100000 in
theorem d_mvk_240 {l : Launch} {M : Mem} {Pq : Option gV → Mem → Prop}  (hQ : Pq (some (gI 7)) (cp M 239 (M 240) 0 0 7)) : gCtr l my_X12_move mb_X12_move 5 ((some .int)) 1 [gR 200, gR 240, gI 0, gI 1] M Pq := by
  refine g_intro (by decide) (Nat.le_of_ble_eq_true rfl) ?_
  intro p e s m args below meth c D cy q A hK hr hlocks hw
  refine g_sub (L' := [(0, gR 200), (1, gR 240), (2, gI 0), (3, gI 1)]) [0, 1, 2, 3] rfl ?_
  refine g_iconst (pc := 0) (x := 0) hK dd_X12_move_0 (by decide) ?_
  refine g_istore (pc := 1) (i := 4) (L' := [(0, gR 200), (1, gR 240), (2, gI 0), (3, gI 1), (4, gI 0)]) hK dd_X12_move_1 (by decide) rfl ?_
  have lp3 : ∀ (n1 : Nat) (i : Int), (0 ≤ i ∧ i ≤ 7) → (7 - i).toNat < n1 → G p l e (rmD 1) s m args below meth c D cy q A 0 0 5 (MQ below (gQc D cy q A Pq) args s 0 0 A) 3 [(0, gR 200), (1, gR 240), (2, gI 0), (3, gI 1), (4, gI i)] [] (cp M 239 (M 240) 0 0 i.toNat) := by
    intro n1
    induction n1 with
    | zero => intro i iv4 hm5; exact absurd hm5 (Nat.not_lt_zero _)
    | succ n1 ih2 =>
      intro i iv4 hm5
      refine g_iload (pc := 3) (i := 4) (x := i) hK dd_X12_move_3 rfl ?_
      refine g_aloadn (pc := 5) (i := 1) (x := 240) hK dd_X12_move_5 rfl rfl ?_
      refine g_alen (pc := 6) hK (kdm kd_240) rfl dd_X12_move_6 ?_
      refine g_topv (v := gI 7) rfl ?_
      refine g_icmp_ge (pc := 7) (tgt := 49) hK dd_X12_move_7 (by decide) ⟨by omega, by omega⟩ (by decide) (fun c6 => ?_) (fun c6 => ?_)
      · refine g_iloadn (pc := 49) (i := 2) (x := 0) hK dd_X12_move_49 rfl rfl ?_
        refine g_aloadn (pc := 50) (i := 1) (x := 240) hK dd_X12_move_50 rfl rfl ?_
        refine g_alen (pc := 51) hK (kdm kd_240) rfl dd_X12_move_51 ?_
        refine g_topv (v := gI 7) rfl ?_
        refine g_iadd (pc := 52) (z := 7) hK dd_X12_move_52 rfl ?_
        refine g_iret (pc := 53) hK hr hlocks dd_X12_move_53 rfl ?_
        exact g_fin hQ (by first | rfl | omega | (subst_vars; first | rfl | omega)) (by rw [show i = 7 by omega]; rfl)
      · refine g_iloadn (pc := 10) (i := 3) (x := 1) hK dd_X12_move_10 rfl rfl ?_
        refine g_if_eq (pc := 11) (tgt := 30) hK dd_X12_move_11 (by decide) (by decide) (fun c7 => absurd c7 (by decide)) (fun _ => ?_)
        refine g_aloadn (pc := 14) (i := 0) (x := 200) hK dd_X12_move_14 rfl rfl ?_
        refine g_getv (pc := 15) (f := (1, 39)) (j := 38) (v := gR 239) hK (kdm kd_200) rfl ef_12 (by decide) rfl kk_1139 dd_X12_move_15 rfl ?_
        refine g_iloadn (pc := 18) (i := 2) (x := 0) hK dd_X12_move_18 rfl rfl ?_
        refine g_iload (pc := 19) (i := 4) (x := i) hK dd_X12_move_19 rfl ?_
        refine g_iadd (pc := 21) (z := 0 + i) hK dd_X12_move_21 rfl ?_
        refine g_aloadn (pc := 22) (i := 1) (x := 240) hK dd_X12_move_22 rfl rfl ?_
        refine g_iload (pc := 23) (i := 4) (x := i) hK dd_X12_move_23 rfl ?_
        refine g_iald (pc := 25) hK (kdm kd_240) nl_240 (by decide) dd_X12_move_25 (by omega) (by omega) (fun x8 ex8 rx8 => ?_)
        replace ex8 : x8 = M 240 i.toNat := ex8
        have ex_ : x8 = M 240 i.toNat := ex8
        refine g_iast (pc := 26) hK (kdm kd_239) nl_239 (by decide) (by decide) dd_X12_move_26 (by omega) (by omega) rx8 ?_
        refine g_goto (pc := 27) (tgt := 43) hK dd_X12_move_27 (by decide) ?_
        refine g_iinc (pc := 43) (i := 4) (y := i + 1) (L' := [(0, gR 200), (1, gR 240), (2, gI 0), (3, gI 1), (4, gI (i + 1))]) hK dd_X12_move_43 rfl rfl (by decide) rfl ?_
        refine g_goto (pc := 46) (tgt := 3) hK dd_X12_move_46 (by decide) ?_
        refine g_sub (L' := [(0, gR 200), (1, gR 240), (2, gI 0), (3, gI 1), (4, gI (i + 1))]) [0, 1, 2, 3, 4] rfl ?_
        refine g_mem (M2 := cp M 239 (M 240) 0 0 (i + 1).toNat) (by rw [tn1 (by omega), show (0 + i).toNat = 0 + i.toNat by omega]; exact cp_as (by rw [Nat.zero_add]; exact ex_)) ?_
        exact ih2 (i + 1) (by omega) (by omega)
  refine g_mem (M2 := cp M 239 (M 240) 0 0 (0 : Int).toNat) (cp_0.symm) ?_
  refine g_sub (L' := [(0, gR 200), (1, gR 240), (2, gI 0), (3, gI 1), (4, gI 0)]) [0, 1, 2, 3, 4] rfl ?_
  exact lp3 _ 0 (by omega) (Nat.lt_succ_self _)
set_option maxHeartbeats 4000000 in
set_option maxRecDepth 100000 in
theorem d_mvb_240 {l : Launch} {M : Mem} {Pq : Option gV → Mem → Prop}  (hQ : Pq (some (gI 7)) (cp M 240 (M 239) 0 0 7)) : gCtr l my_X12_move mb_X12_move 5 ((some .int)) 1 [gR 200, gR 240, gI 0, gI 0] M Pq := by
  refine g_intro (by decide) (Nat.le_of_ble_eq_true rfl) ?_
  intro p e s m args below meth c D cy q A hK hr hlocks hw
  refine g_sub (L' := [(0, gR 200), (1, gR 240), (2, gI 0), (3, gI 0)]) [0, 1, 2, 3] rfl ?_
  refine g_iconst (pc := 0) (x := 0) hK dd_X12_move_0 (by decide) ?_
  refine g_istore (pc := 1) (i := 4) (L' := [(0, gR 200), (1, gR 240), (2, gI 0), (3, gI 0), (4, gI 0)]) hK dd_X12_move_1 (by decide) rfl ?_
  have lp3 : ∀ (n1 : Nat) (i : Int), (0 ≤ i ∧ i ≤ 7) → (7 - i).toNat < n1 → G p l e (rmD 1) s m args below meth c D cy q A 0 0 5 (MQ below (gQc D cy q A Pq) args s 0 0 A) 3 [(0, gR 200), (1, gR 240), (2, gI 0), (3, gI 0), (4, gI i)] [] (cp M 240 (M 239) 0 0 i.toNat) := by
    intro n1
    induction n1 with
    | zero => intro i iv4 hm5; exact absurd hm5 (Nat.not_lt_zero _)
    | succ n1 ih2 =>
      intro i iv4 hm5
      refine g_iload (pc := 3) (i := 4) (x := i) hK dd_X12_move_3 rfl ?_
      refine g_aloadn (pc := 5) (i := 1) (x := 240) hK dd_X12_move_5 rfl rfl ?_
      refine g_alen (pc := 6) hK (kdm kd_240) rfl dd_X12_move_6 ?_
      refine g_topv (v := gI 7) rfl ?_
      refine g_icmp_ge (pc := 7) (tgt := 49) hK dd_X12_move_7 (by decide) ⟨by omega, by omega⟩ (by decide) (fun c6 => ?_) (fun c6 => ?_)
      · refine g_iloadn (pc := 49) (i := 2) (x := 0) hK dd_X12_move_49 rfl rfl ?_
        refine g_aloadn (pc := 50) (i := 1) (x := 240) hK dd_X12_move_50 rfl rfl ?_
        refine g_alen (pc := 51) hK (kdm kd_240) rfl dd_X12_move_51 ?_
        refine g_topv (v := gI 7) rfl ?_
        refine g_iadd (pc := 52) (z := 7) hK dd_X12_move_52 rfl ?_
        refine g_iret (pc := 53) hK hr hlocks dd_X12_move_53 rfl ?_
        exact g_fin hQ (by first | rfl | omega | (subst_vars; first | rfl | omega)) (by rw [show i = 7 by omega]; rfl)
      · refine g_iloadn (pc := 10) (i := 3) (x := 0) hK dd_X12_move_10 rfl rfl ?_
        refine g_if_eq (pc := 11) (tgt := 30) hK dd_X12_move_11 (by decide) (by decide) (fun _ => ?_) (fun c7 => absurd (by decide) c7)
        refine g_aloadn (pc := 30) (i := 1) (x := 240) hK dd_X12_move_30 rfl rfl ?_
        refine g_iload (pc := 31) (i := 4) (x := i) hK dd_X12_move_31 rfl ?_
        refine g_aloadn (pc := 33) (i := 0) (x := 200) hK dd_X12_move_33 rfl rfl ?_
        refine g_getv (pc := 34) (f := (1, 39)) (j := 38) (v := gR 239) hK (kdm kd_200) rfl ef_12 (by decide) rfl kk_1139 dd_X12_move_34 rfl ?_
        refine g_iloadn (pc := 37) (i := 2) (x := 0) hK dd_X12_move_37 rfl rfl ?_
        refine g_iload (pc := 38) (i := 4) (x := i) hK dd_X12_move_38 rfl ?_
        refine g_iadd (pc := 40) (z := 0 + i) hK dd_X12_move_40 rfl ?_
        refine g_iald (pc := 41) hK (kdm kd_239) nl_239 (by decide) dd_X12_move_41 (by omega) (by omega) (fun x8 ex8 rx8 => ?_)
        replace ex8 : x8 = M 239 ((0 + i).toNat) := ex8
        have ex_ : x8 = M 239 (0 + i.toNat) := by rw [ex8, show (0 + i).toNat = 0 + i.toNat by omega]
        refine g_iast (pc := 42) hK (kdm kd_240) nl_240 (by decide) (by decide) dd_X12_move_42 (by omega) (by omega) rx8 ?_
        refine g_iinc (pc := 43) (i := 4) (y := i + 1) (L' := [(0, gR 200), (1, gR 240), (2, gI 0), (3, gI 0), (4, gI (i + 1))]) hK dd_X12_move_43 rfl rfl (by decide) rfl ?_
        refine g_goto (pc := 46) (tgt := 3) hK dd_X12_move_46 (by decide) ?_
        refine g_sub (L' := [(0, gR 200), (1, gR 240), (2, gI 0), (3, gI 0), (4, gI (i + 1))]) [0, 1, 2, 3, 4] rfl ?_
        refine g_mem (M2 := cp M 240 (M 239) 0 0 (i + 1).toNat) (by rw [tn1 (by omega)]; refine Eq.trans ?_ (cp_as (dp := 0) ex_); rw [Nat.zero_add]) ?_
        exact ih2 (i + 1) (by omega) (by omega)
  refine g_mem (M2 := cp M 240 (M 239) 0 0 (0 : Int).toNat) (cp_0.symm) ?_
  refine g_sub (L' := [(0, gR 200), (1, gR 240), (2, gI 0), (3, gI 0), (4, gI 0)]) [0, 1, 2, 3, 4] rfl ?_
  exact lp3 _ 0 (by omega) (Nat.lt_succ_self _)
set_option maxHeartbeats 4000000 in
set_option maxRecDepth 100000 in
theorem d_mvk_205 {l : Launch} {M : Mem} {Pq : Option gV → Mem → Prop}  (hQ : Pq (some (gI 37)) (cp M 239 (M 205) 0 7 30)) : gCtr l my_X12_move mb_X12_move 5 ((some .int)) 1 [gR 200, gR 205, gI 7, gI 1] M Pq := by
  refine g_intro (by decide) (Nat.le_of_ble_eq_true rfl) ?_
  intro p e s m args below meth c D cy q A hK hr hlocks hw
  refine g_sub (L' := [(0, gR 200), (1, gR 205), (2, gI 7), (3, gI 1)]) [0, 1, 2, 3] rfl ?_
  refine g_iconst (pc := 0) (x := 0) hK dd_X12_move_0 (by decide) ?_
  refine g_istore (pc := 1) (i := 4) (L' := [(0, gR 200), (1, gR 205), (2, gI 7), (3, gI 1), (4, gI 0)]) hK dd_X12_move_1 (by decide) rfl ?_
  have lp3 : ∀ (n1 : Nat) (i : Int), (0 ≤ i ∧ i ≤ 30) → (30 - i).toNat < n1 → G p l e (rmD 1) s m args below meth c D cy q A 0 0 5 (MQ below (gQc D cy q A Pq) args s 0 0 A) 3 [(0, gR 200), (1, gR 205), (2, gI 7), (3, gI 1), (4, gI i)] [] (cp M 239 (M 205) 0 7 i.toNat) := by
    intro n1
    induction n1 with
    | zero => intro i iv4 hm5; exact absurd hm5 (Nat.not_lt_zero _)
    | succ n1 ih2 =>
      intro i iv4 hm5
      refine g_iload (pc := 3) (i := 4) (x := i) hK dd_X12_move_3 rfl ?_
      refine g_aloadn (pc := 5) (i := 1) (x := 205) hK dd_X12_move_5 rfl rfl ?_
      refine g_alen (pc := 6) hK (kdm kd_205) rfl dd_X12_move_6 ?_
      refine g_topv (v := gI 30) rfl ?_
      refine g_icmp_ge (pc := 7) (tgt := 49) hK dd_X12_move_7 (by decide) ⟨by omega, by omega⟩ (by decide) (fun c6 => ?_) (fun c6 => ?_)
      · refine g_iloadn (pc := 49) (i := 2) (x := 7) hK dd_X12_move_49 rfl rfl ?_
        refine g_aloadn (pc := 50) (i := 1) (x := 205) hK dd_X12_move_50 rfl rfl ?_
        refine g_alen (pc := 51) hK (kdm kd_205) rfl dd_X12_move_51 ?_
        refine g_topv (v := gI 30) rfl ?_
        refine g_iadd (pc := 52) (z := 37) hK dd_X12_move_52 rfl ?_
        refine g_iret (pc := 53) hK hr hlocks dd_X12_move_53 rfl ?_
        exact g_fin hQ (by first | rfl | omega | (subst_vars; first | rfl | omega)) (by rw [show i = 30 by omega]; rfl)
      · refine g_iloadn (pc := 10) (i := 3) (x := 1) hK dd_X12_move_10 rfl rfl ?_
        refine g_if_eq (pc := 11) (tgt := 30) hK dd_X12_move_11 (by decide) (by decide) (fun c7 => absurd c7 (by decide)) (fun _ => ?_)
        refine g_aloadn (pc := 14) (i := 0) (x := 200) hK dd_X12_move_14 rfl rfl ?_
        refine g_getv (pc := 15) (f := (1, 39)) (j := 38) (v := gR 239) hK (kdm kd_200) rfl ef_12 (by decide) rfl kk_1139 dd_X12_move_15 rfl ?_
        refine g_iloadn (pc := 18) (i := 2) (x := 7) hK dd_X12_move_18 rfl rfl ?_
        refine g_iload (pc := 19) (i := 4) (x := i) hK dd_X12_move_19 rfl ?_
        refine g_iadd (pc := 21) (z := 7 + i) hK dd_X12_move_21 rfl ?_
        refine g_aloadn (pc := 22) (i := 1) (x := 205) hK dd_X12_move_22 rfl rfl ?_
        refine g_iload (pc := 23) (i := 4) (x := i) hK dd_X12_move_23 rfl ?_
        refine g_iald (pc := 25) hK (kdm kd_205) nl_205 (by decide) dd_X12_move_25 (by omega) (by omega) (fun x8 ex8 rx8 => ?_)
        replace ex8 : x8 = M 205 i.toNat := ex8
        have ex_ : x8 = M 205 i.toNat := ex8
        refine g_iast (pc := 26) hK (kdm kd_239) nl_239 (by decide) (by decide) dd_X12_move_26 (by omega) (by omega) rx8 ?_
        refine g_goto (pc := 27) (tgt := 43) hK dd_X12_move_27 (by decide) ?_
        refine g_iinc (pc := 43) (i := 4) (y := i + 1) (L' := [(0, gR 200), (1, gR 205), (2, gI 7), (3, gI 1), (4, gI (i + 1))]) hK dd_X12_move_43 rfl rfl (by decide) rfl ?_
        refine g_goto (pc := 46) (tgt := 3) hK dd_X12_move_46 (by decide) ?_
        refine g_sub (L' := [(0, gR 200), (1, gR 205), (2, gI 7), (3, gI 1), (4, gI (i + 1))]) [0, 1, 2, 3, 4] rfl ?_
        refine g_mem (M2 := cp M 239 (M 205) 0 7 (i + 1).toNat) (by rw [tn1 (by omega), show (7 + i).toNat = 7 + i.toNat by omega]; exact cp_as (by rw [Nat.zero_add]; exact ex_)) ?_
        exact ih2 (i + 1) (by omega) (by omega)
  refine g_mem (M2 := cp M 239 (M 205) 0 7 (0 : Int).toNat) (cp_0.symm) ?_
  refine g_sub (L' := [(0, gR 200), (1, gR 205), (2, gI 7), (3, gI 1), (4, gI 0)]) [0, 1, 2, 3, 4] rfl ?_
  exact lp3 _ 0 (by omega) (Nat.lt_succ_self _)
set_option maxHeartbeats 4000000 in
set_option maxRecDepth 100000 in
theorem d_mvb_205 {l : Launch} {M : Mem} {Pq : Option gV → Mem → Prop}  (hQ : Pq (some (gI 37)) (cp M 205 (M 239) 7 0 30)) : gCtr l my_X12_move mb_X12_move 5 ((some .int)) 1 [gR 200, gR 205, gI 7, gI 0] M Pq := by
  refine g_intro (by decide) (Nat.le_of_ble_eq_true rfl) ?_
  intro p e s m args below meth c D cy q A hK hr hlocks hw
  refine g_sub (L' := [(0, gR 200), (1, gR 205), (2, gI 7), (3, gI 0)]) [0, 1, 2, 3] rfl ?_
  refine g_iconst (pc := 0) (x := 0) hK dd_X12_move_0 (by decide) ?_
  refine g_istore (pc := 1) (i := 4) (L' := [(0, gR 200), (1, gR 205), (2, gI 7), (3, gI 0), (4, gI 0)]) hK dd_X12_move_1 (by decide) rfl ?_
  have lp3 : ∀ (n1 : Nat) (i : Int), (0 ≤ i ∧ i ≤ 30) → (30 - i).toNat < n1 → G p l e (rmD 1) s m args below meth c D cy q A 0 0 5 (MQ below (gQc D cy q A Pq) args s 0 0 A) 3 [(0, gR 200), (1, gR 205), (2, gI 7), (3, gI 0), (4, gI i)] [] (cp M 205 (M 239) 7 0 i.toNat) := by
    intro n1
    induction n1 with
    | zero => intro i iv4 hm5; exact absurd hm5 (Nat.not_lt_zero _)
    | succ n1 ih2 =>
      intro i iv4 hm5
      refine g_iload (pc := 3) (i := 4) (x := i) hK dd_X12_move_3 rfl ?_
      refine g_aloadn (pc := 5) (i := 1) (x := 205) hK dd_X12_move_5 rfl rfl ?_
      refine g_alen (pc := 6) hK (kdm kd_205) rfl dd_X12_move_6 ?_
      refine g_topv (v := gI 30) rfl ?_
      refine g_icmp_ge (pc := 7) (tgt := 49) hK dd_X12_move_7 (by decide) ⟨by omega, by omega⟩ (by decide) (fun c6 => ?_) (fun c6 => ?_)
      · refine g_iloadn (pc := 49) (i := 2) (x := 7) hK dd_X12_move_49 rfl rfl ?_
        refine g_aloadn (pc := 50) (i := 1) (x := 205) hK dd_X12_move_50 rfl rfl ?_
        refine g_alen (pc := 51) hK (kdm kd_205) rfl dd_X12_move_51 ?_
        refine g_topv (v := gI 30) rfl ?_
        refine g_iadd (pc := 52) (z := 37) hK dd_X12_move_52 rfl ?_
        refine g_iret (pc := 53) hK hr hlocks dd_X12_move_53 rfl ?_
        exact g_fin hQ (by first | rfl | omega | (subst_vars; first | rfl | omega)) (by rw [show i = 30 by omega]; rfl)
      · refine g_iloadn (pc := 10) (i := 3) (x := 0) hK dd_X12_move_10 rfl rfl ?_
        refine g_if_eq (pc := 11) (tgt := 30) hK dd_X12_move_11 (by decide) (by decide) (fun _ => ?_) (fun c7 => absurd (by decide) c7)
        refine g_aloadn (pc := 30) (i := 1) (x := 205) hK dd_X12_move_30 rfl rfl ?_
        refine g_iload (pc := 31) (i := 4) (x := i) hK dd_X12_move_31 rfl ?_
        refine g_aloadn (pc := 33) (i := 0) (x := 200) hK dd_X12_move_33 rfl rfl ?_
        refine g_getv (pc := 34) (f := (1, 39)) (j := 38) (v := gR 239) hK (kdm kd_200) rfl ef_12 (by decide) rfl kk_1139 dd_X12_move_34 rfl ?_
        refine g_iloadn (pc := 37) (i := 2) (x := 7) hK dd_X12_move_37 rfl rfl ?_
        refine g_iload (pc := 38) (i := 4) (x := i) hK dd_X12_move_38 rfl ?_
        refine g_iadd (pc := 40) (z := 7 + i) hK dd_X12_move_40 rfl ?_
        refine g_iald (pc := 41) hK (kdm kd_239) nl_239 (by decide) dd_X12_move_41 (by omega) (by omega) (fun x8 ex8 rx8 => ?_)
        replace ex8 : x8 = M 239 ((7 + i).toNat) := ex8
        have ex_ : x8 = M 239 (7 + i.toNat) := by rw [ex8, show (7 + i).toNat = 7 + i.toNat by omega]
        refine g_iast (pc := 42) hK (kdm kd_205) nl_205 (by decide) (by decide) dd_X12_move_42 (by omega) (by omega) rx8 ?_
        refine g_iinc (pc := 43) (i := 4) (y := i + 1) (L' := [(0, gR 200), (1, gR 205), (2, gI 7), (3, gI 0), (4, gI (i + 1))]) hK dd_X12_move_43 rfl rfl (by decide) rfl ?_
        refine g_goto (pc := 46) (tgt := 3) hK dd_X12_move_46 (by decide) ?_
        refine g_sub (L' := [(0, gR 200), (1, gR 205), (2, gI 7), (3, gI 0), (4, gI (i + 1))]) [0, 1, 2, 3, 4] rfl ?_
        refine g_mem (M2 := cp M 205 (M 239) 7 0 (i + 1).toNat) (by rw [tn1 (by omega)]; refine Eq.trans ?_ (cp_as (dp := 0) ex_); rw [Nat.zero_add]) ?_
        exact ih2 (i + 1) (by omega) (by omega)
  refine g_mem (M2 := cp M 205 (M 239) 7 0 (0 : Int).toNat) (cp_0.symm) ?_
  refine g_sub (L' := [(0, gR 200), (1, gR 205), (2, gI 7), (3, gI 0), (4, gI 0)]) [0, 1, 2, 3, 4] rfl ?_
  exact lp3 _ 0 (by omega) (Nat.lt_succ_self _)
set_option maxHeartbeats 4000000 in
set_option maxRecDepth 100000 in
theorem d_mvk_206 {l : Launch} {M : Mem} {Pq : Option gV → Mem → Prop}  (hQ : Pq (some (gI 67)) (cp M 239 (M 206) 0 37 30)) : gCtr l my_X12_move mb_X12_move 5 ((some .int)) 1 [gR 200, gR 206, gI 37, gI 1] M Pq := by
  refine g_intro (by decide) (Nat.le_of_ble_eq_true rfl) ?_
  intro p e s m args below meth c D cy q A hK hr hlocks hw
  refine g_sub (L' := [(0, gR 200), (1, gR 206), (2, gI 37), (3, gI 1)]) [0, 1, 2, 3] rfl ?_
  refine g_iconst (pc := 0) (x := 0) hK dd_X12_move_0 (by decide) ?_
  refine g_istore (pc := 1) (i := 4) (L' := [(0, gR 200), (1, gR 206), (2, gI 37), (3, gI 1), (4, gI 0)]) hK dd_X12_move_1 (by decide) rfl ?_
  have lp3 : ∀ (n1 : Nat) (i : Int), (0 ≤ i ∧ i ≤ 30) → (30 - i).toNat < n1 → G p l e (rmD 1) s m args below meth c D cy q A 0 0 5 (MQ below (gQc D cy q A Pq) args s 0 0 A) 3 [(0, gR 200), (1, gR 206), (2, gI 37), (3, gI 1), (4, gI i)] [] (cp M 239 (M 206) 0 37 i.toNat) := by
    intro n1
    induction n1 with
    | zero => intro i iv4 hm5; exact absurd hm5 (Nat.not_lt_zero _)
    | succ n1 ih2 =>
      intro i iv4 hm5
      refine g_iload (pc := 3) (i := 4) (x := i) hK dd_X12_move_3 rfl ?_
      refine g_aloadn (pc := 5) (i := 1) (x := 206) hK dd_X12_move_5 rfl rfl ?_
      refine g_alen (pc := 6) hK (kdm kd_206) rfl dd_X12_move_6 ?_
      refine g_topv (v := gI 30) rfl ?_
      refine g_icmp_ge (pc := 7) (tgt := 49) hK dd_X12_move_7 (by decide) ⟨by omega, by omega⟩ (by decide) (fun c6 => ?_) (fun c6 => ?_)
      · refine g_iloadn (pc := 49) (i := 2) (x := 37) hK dd_X12_move_49 rfl rfl ?_
        refine g_aloadn (pc := 50) (i := 1) (x := 206) hK dd_X12_move_50 rfl rfl ?_
        refine g_alen (pc := 51) hK (kdm kd_206) rfl dd_X12_move_51 ?_
        refine g_topv (v := gI 30) rfl ?_
        refine g_iadd (pc := 52) (z := 67) hK dd_X12_move_52 rfl ?_
        refine g_iret (pc := 53) hK hr hlocks dd_X12_move_53 rfl ?_
        exact g_fin hQ (by first | rfl | omega | (subst_vars; first | rfl | omega)) (by rw [show i = 30 by omega]; rfl)
      · refine g_iloadn (pc := 10) (i := 3) (x := 1) hK dd_X12_move_10 rfl rfl ?_
        refine g_if_eq (pc := 11) (tgt := 30) hK dd_X12_move_11 (by decide) (by decide) (fun c7 => absurd c7 (by decide)) (fun _ => ?_)
        refine g_aloadn (pc := 14) (i := 0) (x := 200) hK dd_X12_move_14 rfl rfl ?_
        refine g_getv (pc := 15) (f := (1, 39)) (j := 38) (v := gR 239) hK (kdm kd_200) rfl ef_12 (by decide) rfl kk_1139 dd_X12_move_15 rfl ?_
        refine g_iloadn (pc := 18) (i := 2) (x := 37) hK dd_X12_move_18 rfl rfl ?_
        refine g_iload (pc := 19) (i := 4) (x := i) hK dd_X12_move_19 rfl ?_
        refine g_iadd (pc := 21) (z := 37 + i) hK dd_X12_move_21 rfl ?_
        refine g_aloadn (pc := 22) (i := 1) (x := 206) hK dd_X12_move_22 rfl rfl ?_
        refine g_iload (pc := 23) (i := 4) (x := i) hK dd_X12_move_23 rfl ?_
        refine g_iald (pc := 25) hK (kdm kd_206) nl_206 (by decide) dd_X12_move_25 (by omega) (by omega) (fun x8 ex8 rx8 => ?_)
        replace ex8 : x8 = M 206 i.toNat := ex8
        have ex_ : x8 = M 206 i.toNat := ex8
        refine g_iast (pc := 26) hK (kdm kd_239) nl_239 (by decide) (by decide) dd_X12_move_26 (by omega) (by omega) rx8 ?_
        refine g_goto (pc := 27) (tgt := 43) hK dd_X12_move_27 (by decide) ?_
        refine g_iinc (pc := 43) (i := 4) (y := i + 1) (L' := [(0, gR 200), (1, gR 206), (2, gI 37), (3, gI 1), (4, gI (i + 1))]) hK dd_X12_move_43 rfl rfl (by decide) rfl ?_
        refine g_goto (pc := 46) (tgt := 3) hK dd_X12_move_46 (by decide) ?_
        refine g_sub (L' := [(0, gR 200), (1, gR 206), (2, gI 37), (3, gI 1), (4, gI (i + 1))]) [0, 1, 2, 3, 4] rfl ?_
        refine g_mem (M2 := cp M 239 (M 206) 0 37 (i + 1).toNat) (by rw [tn1 (by omega), show (37 + i).toNat = 37 + i.toNat by omega]; exact cp_as (by rw [Nat.zero_add]; exact ex_)) ?_
        exact ih2 (i + 1) (by omega) (by omega)
  refine g_mem (M2 := cp M 239 (M 206) 0 37 (0 : Int).toNat) (cp_0.symm) ?_
  refine g_sub (L' := [(0, gR 200), (1, gR 206), (2, gI 37), (3, gI 1), (4, gI 0)]) [0, 1, 2, 3, 4] rfl ?_
  exact lp3 _ 0 (by omega) (Nat.lt_succ_self _)
set_option maxHeartbeats 4000000 in
set_option maxRecDepth 100000 in
theorem d_mvb_206 {l : Launch} {M : Mem} {Pq : Option gV → Mem → Prop}  (hQ : Pq (some (gI 67)) (cp M 206 (M 239) 37 0 30)) : gCtr l my_X12_move mb_X12_move 5 ((some .int)) 1 [gR 200, gR 206, gI 37, gI 0] M Pq := by
  refine g_intro (by decide) (Nat.le_of_ble_eq_true rfl) ?_
  intro p e s m args below meth c D cy q A hK hr hlocks hw
  refine g_sub (L' := [(0, gR 200), (1, gR 206), (2, gI 37), (3, gI 0)]) [0, 1, 2, 3] rfl ?_
  refine g_iconst (pc := 0) (x := 0) hK dd_X12_move_0 (by decide) ?_
  refine g_istore (pc := 1) (i := 4) (L' := [(0, gR 200), (1, gR 206), (2, gI 37), (3, gI 0), (4, gI 0)]) hK dd_X12_move_1 (by decide) rfl ?_
  have lp3 : ∀ (n1 : Nat) (i : Int), (0 ≤ i ∧ i ≤ 30) → (30 - i).toNat < n1 → G p l e (rmD 1) s m args below meth c D cy q A 0 0 5 (MQ below (gQc D cy q A Pq) args s 0 0 A) 3 [(0, gR 200), (1, gR 206), (2, gI 37), (3, gI 0), (4, gI i)] [] (cp M 206 (M 239) 37 0 i.toNat) := by
    intro n1
    induction n1 with
    | zero => intro i iv4 hm5; exact absurd hm5 (Nat.not_lt_zero _)
    | succ n1 ih2 =>
      intro i iv4 hm5
      refine g_iload (pc := 3) (i := 4) (x := i) hK dd_X12_move_3 rfl ?_
      refine g_aloadn (pc := 5) (i := 1) (x := 206) hK dd_X12_move_5 rfl rfl ?_
      refine g_alen (pc := 6) hK (kdm kd_206) rfl dd_X12_move_6 ?_
      refine g_topv (v := gI 30) rfl ?_
      refine g_icmp_ge (pc := 7) (tgt := 49) hK dd_X12_move_7 (by decide) ⟨by omega, by omega⟩ (by decide) (fun c6 => ?_) (fun c6 => ?_)
      · refine g_iloadn (pc := 49) (i := 2) (x := 37) hK dd_X12_move_49 rfl rfl ?_
        refine g_aloadn (pc := 50) (i := 1) (x := 206) hK dd_X12_move_50 rfl rfl ?_
        refine g_alen (pc := 51) hK (kdm kd_206) rfl dd_X12_move_51 ?_
        refine g_topv (v := gI 30) rfl ?_
        refine g_iadd (pc := 52) (z := 67) hK dd_X12_move_52 rfl ?_
        refine g_iret (pc := 53) hK hr hlocks dd_X12_move_53 rfl ?_
        exact g_fin hQ (by first | rfl | omega | (subst_vars; first | rfl | omega)) (by rw [show i = 30 by omega]; rfl)
      · refine g_iloadn (pc := 10) (i := 3) (x := 0) hK dd_X12_move_10 rfl rfl ?_
        refine g_if_eq (pc := 11) (tgt := 30) hK dd_X12_move_11 (by decide) (by decide) (fun _ => ?_) (fun c7 => absurd (by decide) c7)
        refine g_aloadn (pc := 30) (i := 1) (x := 206) hK dd_X12_move_30 rfl rfl ?_
        refine g_iload (pc := 31) (i := 4) (x := i) hK dd_X12_move_31 rfl ?_
        refine g_aloadn (pc := 33) (i := 0) (x := 200) hK dd_X12_move_33 rfl rfl ?_
        refine g_getv (pc := 34) (f := (1, 39)) (j := 38) (v := gR 239) hK (kdm kd_200) rfl ef_12 (by decide) rfl kk_1139 dd_X12_move_34 rfl ?_
        refine g_iloadn (pc := 37) (i := 2) (x := 37) hK dd_X12_move_37 rfl rfl ?_
        refine g_iload (pc := 38) (i := 4) (x := i) hK dd_X12_move_38 rfl ?_
        refine g_iadd (pc := 40) (z := 37 + i) hK dd_X12_move_40 rfl ?_
        refine g_iald (pc := 41) hK (kdm kd_239) nl_239 (by decide) dd_X12_move_41 (by omega) (by omega) (fun x8 ex8 rx8 => ?_)
        replace ex8 : x8 = M 239 ((37 + i).toNat) := ex8
        have ex_ : x8 = M 239 (37 + i.toNat) := by rw [ex8, show (37 + i).toNat = 37 + i.toNat by omega]
        refine g_iast (pc := 42) hK (kdm kd_206) nl_206 (by decide) (by decide) dd_X12_move_42 (by omega) (by omega) rx8 ?_
        refine g_iinc (pc := 43) (i := 4) (y := i + 1) (L' := [(0, gR 200), (1, gR 206), (2, gI 37), (3, gI 0), (4, gI (i + 1))]) hK dd_X12_move_43 rfl rfl (by decide) rfl ?_
        refine g_goto (pc := 46) (tgt := 3) hK dd_X12_move_46 (by decide) ?_
        refine g_sub (L' := [(0, gR 200), (1, gR 206), (2, gI 37), (3, gI 0), (4, gI (i + 1))]) [0, 1, 2, 3, 4] rfl ?_
        refine g_mem (M2 := cp M 206 (M 239) 37 0 (i + 1).toNat) (by rw [tn1 (by omega)]; refine Eq.trans ?_ (cp_as (dp := 0) ex_); rw [Nat.zero_add]) ?_
        exact ih2 (i + 1) (by omega) (by omega)
  refine g_mem (M2 := cp M 206 (M 239) 37 0 (0 : Int).toNat) (cp_0.symm) ?_
  refine g_sub (L' := [(0, gR 200), (1, gR 206), (2, gI 37), (3, gI 0), (4, gI 0)]) [0, 1, 2, 3, 4] rfl ?_
  exact lp3 _ 0 (by omega) (Nat.lt_succ_self _)
set_option maxHeartbeats 4000000 in
set_option maxRecDepth 100000 in
theorem d_mvk_207 {l : Launch} {M : Mem} {Pq : Option gV → Mem → Prop}  (hQ : Pq (some (gI 97)) (cp M 239 (M 207) 0 67 30)) : gCtr l my_X12_move mb_X12_move 5 ((some .int)) 1 [gR 200, gR 207, gI 67, gI 1] M Pq := by
  refine g_intro (by decide) (Nat.le_of_ble_eq_true rfl) ?_
  intro p e s m args below meth c D cy q A hK hr hlocks hw
  refine g_sub (L' := [(0, gR 200), (1, gR 207), (2, gI 67), (3, gI 1)]) [0, 1, 2, 3] rfl ?_
  refine g_iconst (pc := 0) (x := 0) hK dd_X12_move_0 (by decide) ?_
  refine g_istore (pc := 1) (i := 4) (L' := [(0, gR 200), (1, gR 207), (2, gI 67), (3, gI 1), (4, gI 0)]) hK dd_X12_move_1 (by decide) rfl ?_
  have lp3 : ∀ (n1 : Nat) (i : Int), (0 ≤ i ∧ i ≤ 30) → (30 - i).toNat < n1 → G p l e (rmD 1) s m args below meth c D cy q A 0 0 5 (MQ below (gQc D cy q A Pq) args s 0 0 A) 3 [(0, gR 200), (1, gR 207), (2, gI 67), (3, gI 1), (4, gI i)] [] (cp M 239 (M 207) 0 67 i.toNat) := by
    intro n1
    induction n1 with
    | zero => intro i iv4 hm5; exact absurd hm5 (Nat.not_lt_zero _)
    | succ n1 ih2 =>
      intro i iv4 hm5
      refine g_iload (pc := 3) (i := 4) (x := i) hK dd_X12_move_3 rfl ?_
      refine g_aloadn (pc := 5) (i := 1) (x := 207) hK dd_X12_move_5 rfl rfl ?_
      refine g_alen (pc := 6) hK (kdm kd_207) rfl dd_X12_move_6 ?_
      refine g_topv (v := gI 30) rfl ?_
      refine g_icmp_ge (pc := 7) (tgt := 49) hK dd_X12_move_7 (by decide) ⟨by omega, by omega⟩ (by decide) (fun c6 => ?_) (fun c6 => ?_)
      · refine g_iloadn (pc := 49) (i := 2) (x := 67) hK dd_X12_move_49 rfl rfl ?_
        refine g_aloadn (pc := 50) (i := 1) (x := 207) hK dd_X12_move_50 rfl rfl ?_
        refine g_alen (pc := 51) hK (kdm kd_207) rfl dd_X12_move_51 ?_
        refine g_topv (v := gI 30) rfl ?_
        refine g_iadd (pc := 52) (z := 97) hK dd_X12_move_52 rfl ?_
        refine g_iret (pc := 53) hK hr hlocks dd_X12_move_53 rfl ?_
        exact g_fin hQ (by first | rfl | omega | (subst_vars; first | rfl | omega)) (by rw [show i = 30 by omega]; rfl)
      · refine g_iloadn (pc := 10) (i := 3) (x := 1) hK dd_X12_move_10 rfl rfl ?_
        refine g_if_eq (pc := 11) (tgt := 30) hK dd_X12_move_11 (by decide) (by decide) (fun c7 => absurd c7 (by decide)) (fun _ => ?_)
        refine g_aloadn (pc := 14) (i := 0) (x := 200) hK dd_X12_move_14 rfl rfl ?_
        refine g_getv (pc := 15) (f := (1, 39)) (j := 38) (v := gR 239) hK (kdm kd_200) rfl ef_12 (by decide) rfl kk_1139 dd_X12_move_15 rfl ?_
        refine g_iloadn (pc := 18) (i := 2) (x := 67) hK dd_X12_move_18 rfl rfl ?_
        refine g_iload (pc := 19) (i := 4) (x := i) hK dd_X12_move_19 rfl ?_
        refine g_iadd (pc := 21) (z := 67 + i) hK dd_X12_move_21 rfl ?_
        refine g_aloadn (pc := 22) (i := 1) (x := 207) hK dd_X12_move_22 rfl rfl ?_
        refine g_iload (pc := 23) (i := 4) (x := i) hK dd_X12_move_23 rfl ?_
        refine g_iald (pc := 25) hK (kdm kd_207) nl_207 (by decide) dd_X12_move_25 (by omega) (by omega) (fun x8 ex8 rx8 => ?_)
        replace ex8 : x8 = M 207 i.toNat := ex8
        have ex_ : x8 = M 207 i.toNat := ex8
        refine g_iast (pc := 26) hK (kdm kd_239) nl_239 (by decide) (by decide) dd_X12_move_26 (by omega) (by omega) rx8 ?_
        refine g_goto (pc := 27) (tgt := 43) hK dd_X12_move_27 (by decide) ?_
        refine g_iinc (pc := 43) (i := 4) (y := i + 1) (L' := [(0, gR 200), (1, gR 207), (2, gI 67), (3, gI 1), (4, gI (i + 1))]) hK dd_X12_move_43 rfl rfl (by decide) rfl ?_
        refine g_goto (pc := 46) (tgt := 3) hK dd_X12_move_46 (by decide) ?_
        refine g_sub (L' := [(0, gR 200), (1, gR 207), (2, gI 67), (3, gI 1), (4, gI (i + 1))]) [0, 1, 2, 3, 4] rfl ?_
        refine g_mem (M2 := cp M 239 (M 207) 0 67 (i + 1).toNat) (by rw [tn1 (by omega), show (67 + i).toNat = 67 + i.toNat by omega]; exact cp_as (by rw [Nat.zero_add]; exact ex_)) ?_
        exact ih2 (i + 1) (by omega) (by omega)
  refine g_mem (M2 := cp M 239 (M 207) 0 67 (0 : Int).toNat) (cp_0.symm) ?_
  refine g_sub (L' := [(0, gR 200), (1, gR 207), (2, gI 67), (3, gI 1), (4, gI 0)]) [0, 1, 2, 3, 4] rfl ?_
  exact lp3 _ 0 (by omega) (Nat.lt_succ_self _)
set_option maxHeartbeats 4000000 in
set_option maxRecDepth 100000 in
theorem d_mvb_207 {l : Launch} {M : Mem} {Pq : Option gV → Mem → Prop}  (hQ : Pq (some (gI 97)) (cp M 207 (M 239) 67 0 30)) : gCtr l my_X12_move mb_X12_move 5 ((some .int)) 1 [gR 200, gR 207, gI 67, gI 0] M Pq := by
  refine g_intro (by decide) (Nat.le_of_ble_eq_true rfl) ?_
  intro p e s m args below meth c D cy q A hK hr hlocks hw
  refine g_sub (L' := [(0, gR 200), (1, gR 207), (2, gI 67), (3, gI 0)]) [0, 1, 2, 3] rfl ?_
  refine g_iconst (pc := 0) (x := 0) hK dd_X12_move_0 (by decide) ?_
  refine g_istore (pc := 1) (i := 4) (L' := [(0, gR 200), (1, gR 207), (2, gI 67), (3, gI 0), (4, gI 0)]) hK dd_X12_move_1 (by decide) rfl ?_
  have lp3 : ∀ (n1 : Nat) (i : Int), (0 ≤ i ∧ i ≤ 30) → (30 - i).toNat < n1 → G p l e (rmD 1) s m args below meth c D cy q A 0 0 5 (MQ below (gQc D cy q A Pq) args s 0 0 A) 3 [(0, gR 200), (1, gR 207), (2, gI 67), (3, gI 0), (4, gI i)] [] (cp M 207 (M 239) 67 0 i.toNat) := by
    intro n1
    induction n1 with
    | zero => intro i iv4 hm5; exact absurd hm5 (Nat.not_lt_zero _)
    | succ n1 ih2 =>
      intro i iv4 hm5
      refine g_iload (pc := 3) (i := 4) (x := i) hK dd_X12_move_3 rfl ?_
      refine g_aloadn (pc := 5) (i := 1) (x := 207) hK dd_X12_move_5 rfl rfl ?_
      refine g_alen (pc := 6) hK (kdm kd_207) rfl dd_X12_move_6 ?_
      refine g_topv (v := gI 30) rfl ?_
      refine g_icmp_ge (pc := 7) (tgt := 49) hK dd_X12_move_7 (by decide) ⟨by omega, by omega⟩ (by decide) (fun c6 => ?_) (fun c6 => ?_)
      · refine g_iloadn (pc := 49) (i := 2) (x := 67) hK dd_X12_move_49 rfl rfl ?_
        refine g_aloadn (pc := 50) (i := 1) (x := 207) hK dd_X12_move_50 rfl rfl ?_
        refine g_alen (pc := 51) hK (kdm kd_207) rfl dd_X12_move_51 ?_
        refine g_topv (v := gI 30) rfl ?_
        refine g_iadd (pc := 52) (z := 97) hK dd_X12_move_52 rfl ?_
        refine g_iret (pc := 53) hK hr hlocks dd_X12_move_53 rfl ?_
        exact g_fin hQ (by first | rfl | omega | (subst_vars; first | rfl | omega)) (by rw [show i = 30 by omega]; rfl)
      · refine g_iloadn (pc := 10) (i := 3) (x := 0) hK dd_X12_move_10 rfl rfl ?_
        refine g_if_eq (pc := 11) (tgt := 30) hK dd_X12_move_11 (by decide) (by decide) (fun _ => ?_) (fun c7 => absurd (by decide) c7)
        refine g_aloadn (pc := 30) (i := 1) (x := 207) hK dd_X12_move_30 rfl rfl ?_
        refine g_iload (pc := 31) (i := 4) (x := i) hK dd_X12_move_31 rfl ?_
        refine g_aloadn (pc := 33) (i := 0) (x := 200) hK dd_X12_move_33 rfl rfl ?_
        refine g_getv (pc := 34) (f := (1, 39)) (j := 38) (v := gR 239) hK (kdm kd_200) rfl ef_12 (by decide) rfl kk_1139 dd_X12_move_34 rfl ?_
        refine g_iloadn (pc := 37) (i := 2) (x := 67) hK dd_X12_move_37 rfl rfl ?_
        refine g_iload (pc := 38) (i := 4) (x := i) hK dd_X12_move_38 rfl ?_
        refine g_iadd (pc := 40) (z := 67 + i) hK dd_X12_move_40 rfl ?_
        refine g_iald (pc := 41) hK (kdm kd_239) nl_239 (by decide) dd_X12_move_41 (by omega) (by omega) (fun x8 ex8 rx8 => ?_)
        replace ex8 : x8 = M 239 ((67 + i).toNat) := ex8
        have ex_ : x8 = M 239 (67 + i.toNat) := by rw [ex8, show (67 + i).toNat = 67 + i.toNat by omega]
        refine g_iast (pc := 42) hK (kdm kd_207) nl_207 (by decide) (by decide) dd_X12_move_42 (by omega) (by omega) rx8 ?_
        refine g_iinc (pc := 43) (i := 4) (y := i + 1) (L' := [(0, gR 200), (1, gR 207), (2, gI 67), (3, gI 0), (4, gI (i + 1))]) hK dd_X12_move_43 rfl rfl (by decide) rfl ?_
        refine g_goto (pc := 46) (tgt := 3) hK dd_X12_move_46 (by decide) ?_
        refine g_sub (L' := [(0, gR 200), (1, gR 207), (2, gI 67), (3, gI 0), (4, gI (i + 1))]) [0, 1, 2, 3, 4] rfl ?_
        refine g_mem (M2 := cp M 207 (M 239) 67 0 (i + 1).toNat) (by rw [tn1 (by omega)]; refine Eq.trans ?_ (cp_as (dp := 0) ex_); rw [Nat.zero_add]) ?_
        exact ih2 (i + 1) (by omega) (by omega)
  refine g_mem (M2 := cp M 207 (M 239) 67 0 (0 : Int).toNat) (cp_0.symm) ?_
  refine g_sub (L' := [(0, gR 200), (1, gR 207), (2, gI 67), (3, gI 0), (4, gI 0)]) [0, 1, 2, 3, 4] rfl ?_
  exact lp3 _ 0 (by omega) (Nat.lt_succ_self _)
set_option maxHeartbeats 4000000 in
set_option maxRecDepth 100000 in
theorem d_mvk_208 {l : Launch} {M : Mem} {Pq : Option gV → Mem → Prop}  (hQ : Pq (some (gI 127)) (cp M 239 (M 208) 0 97 30)) : gCtr l my_X12_move mb_X12_move 5 ((some .int)) 1 [gR 200, gR 208, gI 97, gI 1] M Pq := by
  refine g_intro (by decide) (Nat.le_of_ble_eq_true rfl) ?_
  intro p e s m args below meth c D cy q A hK hr hlocks hw
  refine g_sub (L' := [(0, gR 200), (1, gR 208), (2, gI 97), (3, gI 1)]) [0, 1, 2, 3] rfl ?_
  refine g_iconst (pc := 0) (x := 0) hK dd_X12_move_0 (by decide) ?_
  refine g_istore (pc := 1) (i := 4) (L' := [(0, gR 200), (1, gR 208), (2, gI 97), (3, gI 1), (4, gI 0)]) hK dd_X12_move_1 (by decide) rfl ?_
  have lp3 : ∀ (n1 : Nat) (i : Int), (0 ≤ i ∧ i ≤ 30) → (30 - i).toNat < n1 → G p l e (rmD 1) s m args below meth c D cy q A 0 0 5 (MQ below (gQc D cy q A Pq) args s 0 0 A) 3 [(0, gR 200), (1, gR 208), (2, gI 97), (3, gI 1), (4, gI i)] [] (cp M 239 (M 208) 0 97 i.toNat) := by
    intro n1
    induction n1 with
    | zero => intro i iv4 hm5; exact absurd hm5 (Nat.not_lt_zero _)
    | succ n1 ih2 =>
      intro i iv4 hm5
      refine g_iload (pc := 3) (i := 4) (x := i) hK dd_X12_move_3 rfl ?_
      refine g_aloadn (pc := 5) (i := 1) (x := 208) hK dd_X12_move_5 rfl rfl ?_
      refine g_alen (pc := 6) hK (kdm kd_208) rfl dd_X12_move_6 ?_
      refine g_topv (v := gI 30) rfl ?_
      refine g_icmp_ge (pc := 7) (tgt := 49) hK dd_X12_move_7 (by decide) ⟨by omega, by omega⟩ (by decide) (fun c6 => ?_) (fun c6 => ?_)
      · refine g_iloadn (pc := 49) (i := 2) (x := 97) hK dd_X12_move_49 rfl rfl ?_
        refine g_aloadn (pc := 50) (i := 1) (x := 208) hK dd_X12_move_50 rfl rfl ?_
        refine g_alen (pc := 51) hK (kdm kd_208) rfl dd_X12_move_51 ?_
        refine g_topv (v := gI 30) rfl ?_
        refine g_iadd (pc := 52) (z := 127) hK dd_X12_move_52 rfl ?_
        refine g_iret (pc := 53) hK hr hlocks dd_X12_move_53 rfl ?_
        exact g_fin hQ (by first | rfl | omega | (subst_vars; first | rfl | omega)) (by rw [show i = 30 by omega]; rfl)
      · refine g_iloadn (pc := 10) (i := 3) (x := 1) hK dd_X12_move_10 rfl rfl ?_
        refine g_if_eq (pc := 11) (tgt := 30) hK dd_X12_move_11 (by decide) (by decide) (fun c7 => absurd c7 (by decide)) (fun _ => ?_)
        refine g_aloadn (pc := 14) (i := 0) (x := 200) hK dd_X12_move_14 rfl rfl ?_
        refine g_getv (pc := 15) (f := (1, 39)) (j := 38) (v := gR 239) hK (kdm kd_200) rfl ef_12 (by decide) rfl kk_1139 dd_X12_move_15 rfl ?_
        refine g_iloadn (pc := 18) (i := 2) (x := 97) hK dd_X12_move_18 rfl rfl ?_
        refine g_iload (pc := 19) (i := 4) (x := i) hK dd_X12_move_19 rfl ?_
        refine g_iadd (pc := 21) (z := 97 + i) hK dd_X12_move_21 rfl ?_
        refine g_aloadn (pc := 22) (i := 1) (x := 208) hK dd_X12_move_22 rfl rfl ?_
        refine g_iload (pc := 23) (i := 4) (x := i) hK dd_X12_move_23 rfl ?_
        refine g_iald (pc := 25) hK (kdm kd_208) nl_208 (by decide) dd_X12_move_25 (by omega) (by omega) (fun x8 ex8 rx8 => ?_)
        replace ex8 : x8 = M 208 i.toNat := ex8
        have ex_ : x8 = M 208 i.toNat := ex8
        refine g_iast (pc := 26) hK (kdm kd_239) nl_239 (by decide) (by decide) dd_X12_move_26 (by omega) (by omega) rx8 ?_
        refine g_goto (pc := 27) (tgt := 43) hK dd_X12_move_27 (by decide) ?_
        refine g_iinc (pc := 43) (i := 4) (y := i + 1) (L' := [(0, gR 200), (1, gR 208), (2, gI 97), (3, gI 1), (4, gI (i + 1))]) hK dd_X12_move_43 rfl rfl (by decide) rfl ?_
        refine g_goto (pc := 46) (tgt := 3) hK dd_X12_move_46 (by decide) ?_
        refine g_sub (L' := [(0, gR 200), (1, gR 208), (2, gI 97), (3, gI 1), (4, gI (i + 1))]) [0, 1, 2, 3, 4] rfl ?_
        refine g_mem (M2 := cp M 239 (M 208) 0 97 (i + 1).toNat) (by rw [tn1 (by omega), show (97 + i).toNat = 97 + i.toNat by omega]; exact cp_as (by rw [Nat.zero_add]; exact ex_)) ?_
        exact ih2 (i + 1) (by omega) (by omega)
  refine g_mem (M2 := cp M 239 (M 208) 0 97 (0 : Int).toNat) (cp_0.symm) ?_
  refine g_sub (L' := [(0, gR 200), (1, gR 208), (2, gI 97), (3, gI 1), (4, gI 0)]) [0, 1, 2, 3, 4] rfl ?_
  exact lp3 _ 0 (by omega) (Nat.lt_succ_self _)
set_option maxHeartbeats 4000000 in
set_option maxRecDepth 100000 in
theorem d_mvb_208 {l : Launch} {M : Mem} {Pq : Option gV → Mem → Prop}  (hQ : Pq (some (gI 127)) (cp M 208 (M 239) 97 0 30)) : gCtr l my_X12_move mb_X12_move 5 ((some .int)) 1 [gR 200, gR 208, gI 97, gI 0] M Pq := by
  refine g_intro (by decide) (Nat.le_of_ble_eq_true rfl) ?_
  intro p e s m args below meth c D cy q A hK hr hlocks hw
  refine g_sub (L' := [(0, gR 200), (1, gR 208), (2, gI 97), (3, gI 0)]) [0, 1, 2, 3] rfl ?_
  refine g_iconst (pc := 0) (x := 0) hK dd_X12_move_0 (by decide) ?_
  refine g_istore (pc := 1) (i := 4) (L' := [(0, gR 200), (1, gR 208), (2, gI 97), (3, gI 0), (4, gI 0)]) hK dd_X12_move_1 (by decide) rfl ?_
  have lp3 : ∀ (n1 : Nat) (i : Int), (0 ≤ i ∧ i ≤ 30) → (30 - i).toNat < n1 → G p l e (rmD 1) s m args below meth c D cy q A 0 0 5 (MQ below (gQc D cy q A Pq) args s 0 0 A) 3 [(0, gR 200), (1, gR 208), (2, gI 97), (3, gI 0), (4, gI i)] [] (cp M 208 (M 239) 97 0 i.toNat) := by
    intro n1
    induction n1 with
    | zero => intro i iv4 hm5; exact absurd hm5 (Nat.not_lt_zero _)
    | succ n1 ih2 =>
      intro i iv4 hm5
      refine g_iload (pc := 3) (i := 4) (x := i) hK dd_X12_move_3 rfl ?_
      refine g_aloadn (pc := 5) (i := 1) (x := 208) hK dd_X12_move_5 rfl rfl ?_
      refine g_alen (pc := 6) hK (kdm kd_208) rfl dd_X12_move_6 ?_
      refine g_topv (v := gI 30) rfl ?_
      refine g_icmp_ge (pc := 7) (tgt := 49) hK dd_X12_move_7 (by decide) ⟨by omega, by omega⟩ (by decide) (fun c6 => ?_) (fun c6 => ?_)
      · refine g_iloadn (pc := 49) (i := 2) (x := 97) hK dd_X12_move_49 rfl rfl ?_
        refine g_aloadn (pc := 50) (i := 1) (x := 208) hK dd_X12_move_50 rfl rfl ?_
        refine g_alen (pc := 51) hK (kdm kd_208) rfl dd_X12_move_51 ?_
        refine g_topv (v := gI 30) rfl ?_
        refine g_iadd (pc := 52) (z := 127) hK dd_X12_move_52 rfl ?_
        refine g_iret (pc := 53) hK hr hlocks dd_X12_move_53 rfl ?_
        exact g_fin hQ (by first | rfl | omega | (subst_vars; first | rfl | omega)) (by rw [show i = 30 by omega]; rfl)
      · refine g_iloadn (pc := 10) (i := 3) (x := 0) hK dd_X12_move_10 rfl rfl ?_
        refine g_if_eq (pc := 11) (tgt := 30) hK dd_X12_move_11 (by decide) (by decide) (fun _ => ?_) (fun c7 => absurd (by decide) c7)
        refine g_aloadn (pc := 30) (i := 1) (x := 208) hK dd_X12_move_30 rfl rfl ?_
        refine g_iload (pc := 31) (i := 4) (x := i) hK dd_X12_move_31 rfl ?_
        refine g_aloadn (pc := 33) (i := 0) (x := 200) hK dd_X12_move_33 rfl rfl ?_
        refine g_getv (pc := 34) (f := (1, 39)) (j := 38) (v := gR 239) hK (kdm kd_200) rfl ef_12 (by decide) rfl kk_1139 dd_X12_move_34 rfl ?_
        refine g_iloadn (pc := 37) (i := 2) (x := 97) hK dd_X12_move_37 rfl rfl ?_
        refine g_iload (pc := 38) (i := 4) (x := i) hK dd_X12_move_38 rfl ?_
        refine g_iadd (pc := 40) (z := 97 + i) hK dd_X12_move_40 rfl ?_
        refine g_iald (pc := 41) hK (kdm kd_239) nl_239 (by decide) dd_X12_move_41 (by omega) (by omega) (fun x8 ex8 rx8 => ?_)
        replace ex8 : x8 = M 239 ((97 + i).toNat) := ex8
        have ex_ : x8 = M 239 (97 + i.toNat) := by rw [ex8, show (97 + i).toNat = 97 + i.toNat by omega]
        refine g_iast (pc := 42) hK (kdm kd_208) nl_208 (by decide) (by decide) dd_X12_move_42 (by omega) (by omega) rx8 ?_
        refine g_iinc (pc := 43) (i := 4) (y := i + 1) (L' := [(0, gR 200), (1, gR 208), (2, gI 97), (3, gI 0), (4, gI (i + 1))]) hK dd_X12_move_43 rfl rfl (by decide) rfl ?_
        refine g_goto (pc := 46) (tgt := 3) hK dd_X12_move_46 (by decide) ?_
        refine g_sub (L' := [(0, gR 200), (1, gR 208), (2, gI 97), (3, gI 0), (4, gI (i + 1))]) [0, 1, 2, 3, 4] rfl ?_
        refine g_mem (M2 := cp M 208 (M 239) 97 0 (i + 1).toNat) (by rw [tn1 (by omega)]; refine Eq.trans ?_ (cp_as (dp := 0) ex_); rw [Nat.zero_add]) ?_
        exact ih2 (i + 1) (by omega) (by omega)
  refine g_mem (M2 := cp M 208 (M 239) 97 0 (0 : Int).toNat) (cp_0.symm) ?_
  refine g_sub (L' := [(0, gR 200), (1, gR 208), (2, gI 97), (3, gI 0), (4, gI 0)]) [0, 1, 2, 3, 4] rfl ?_
  exact lp3 _ 0 (by omega) (Nat.lt_succ_self _)
set_option maxHeartbeats 4000000 in
set_option maxRecDepth 100000 in
theorem d_mvk_209 {l : Launch} {M : Mem} {Pq : Option gV → Mem → Prop}  (hQ : Pq (some (gI 157)) (cp M 239 (M 209) 0 127 30)) : gCtr l my_X12_move mb_X12_move 5 ((some .int)) 1 [gR 200, gR 209, gI 127, gI 1] M Pq := by
  refine g_intro (by decide) (Nat.le_of_ble_eq_true rfl) ?_
  intro p e s m args below meth c D cy q A hK hr hlocks hw
  refine g_sub (L' := [(0, gR 200), (1, gR 209), (2, gI 127), (3, gI 1)]) [0, 1, 2, 3] rfl ?_
  refine g_iconst (pc := 0) (x := 0) hK dd_X12_move_0 (by decide) ?_
  refine g_istore (pc := 1) (i := 4) (L' := [(0, gR 200), (1, gR 209), (2, gI 127), (3, gI 1), (4, gI 0)]) hK dd_X12_move_1 (by decide) rfl ?_
  have lp3 : ∀ (n1 : Nat) (i : Int), (0 ≤ i ∧ i ≤ 30) → (30 - i).toNat < n1 → G p l e (rmD 1) s m args below meth c D cy q A 0 0 5 (MQ below (gQc D cy q A Pq) args s 0 0 A) 3 [(0, gR 200), (1, gR 209), (2, gI 127), (3, gI 1), (4, gI i)] [] (cp M 239 (M 209) 0 127 i.toNat) := by
    intro n1
    induction n1 with
    | zero => intro i iv4 hm5; exact absurd hm5 (Nat.not_lt_zero _)
    | succ n1 ih2 =>
      intro i iv4 hm5
      refine g_iload (pc := 3) (i := 4) (x := i) hK dd_X12_move_3 rfl ?_
      refine g_aloadn (pc := 5) (i := 1) (x := 209) hK dd_X12_move_5 rfl rfl ?_
      refine g_alen (pc := 6) hK (kdm kd_209) rfl dd_X12_move_6 ?_
      refine g_topv (v := gI 30) rfl ?_
      refine g_icmp_ge (pc := 7) (tgt := 49) hK dd_X12_move_7 (by decide) ⟨by omega, by omega⟩ (by decide) (fun c6 => ?_) (fun c6 => ?_)
      · refine g_iloadn (pc := 49) (i := 2) (x := 127) hK dd_X12_move_49 rfl rfl ?_
        refine g_aloadn (pc := 50) (i := 1) (x := 209) hK dd_X12_move_50 rfl rfl ?_
        refine g_alen (pc := 51) hK (kdm kd_209) rfl dd_X12_move_51 ?_
        refine g_topv (v := gI 30) rfl ?_
        refine g_iadd (pc := 52) (z := 157) hK dd_X12_move_52 rfl ?_
        refine g_iret (pc := 53) hK hr hlocks dd_X12_move_53 rfl ?_
        exact g_fin hQ (by first | rfl | omega | (subst_vars; first | rfl | omega)) (by rw [show i = 30 by omega]; rfl)
      · refine g_iloadn (pc := 10) (i := 3) (x := 1) hK dd_X12_move_10 rfl rfl ?_
        refine g_if_eq (pc := 11) (tgt := 30) hK dd_X12_move_11 (by decide) (by decide) (fun c7 => absurd c7 (by decide)) (fun _ => ?_)
        refine g_aloadn (pc := 14) (i := 0) (x := 200) hK dd_X12_move_14 rfl rfl ?_
        refine g_getv (pc := 15) (f := (1, 39)) (j := 38) (v := gR 239) hK (kdm kd_200) rfl ef_12 (by decide) rfl kk_1139 dd_X12_move_15 rfl ?_
        refine g_iloadn (pc := 18) (i := 2) (x := 127) hK dd_X12_move_18 rfl rfl ?_
        refine g_iload (pc := 19) (i := 4) (x := i) hK dd_X12_move_19 rfl ?_
        refine g_iadd (pc := 21) (z := 127 + i) hK dd_X12_move_21 rfl ?_
        refine g_aloadn (pc := 22) (i := 1) (x := 209) hK dd_X12_move_22 rfl rfl ?_
        refine g_iload (pc := 23) (i := 4) (x := i) hK dd_X12_move_23 rfl ?_
        refine g_iald (pc := 25) hK (kdm kd_209) nl_209 (by decide) dd_X12_move_25 (by omega) (by omega) (fun x8 ex8 rx8 => ?_)
        replace ex8 : x8 = M 209 i.toNat := ex8
        have ex_ : x8 = M 209 i.toNat := ex8
        refine g_iast (pc := 26) hK (kdm kd_239) nl_239 (by decide) (by decide) dd_X12_move_26 (by omega) (by omega) rx8 ?_
        refine g_goto (pc := 27) (tgt := 43) hK dd_X12_move_27 (by decide) ?_
        refine g_iinc (pc := 43) (i := 4) (y := i + 1) (L' := [(0, gR 200), (1, gR 209), (2, gI 127), (3, gI 1), (4, gI (i + 1))]) hK dd_X12_move_43 rfl rfl (by decide) rfl ?_
        refine g_goto (pc := 46) (tgt := 3) hK dd_X12_move_46 (by decide) ?_
        refine g_sub (L' := [(0, gR 200), (1, gR 209), (2, gI 127), (3, gI 1), (4, gI (i + 1))]) [0, 1, 2, 3, 4] rfl ?_
        refine g_mem (M2 := cp M 239 (M 209) 0 127 (i + 1).toNat) (by rw [tn1 (by omega), show (127 + i).toNat = 127 + i.toNat by omega]; exact cp_as (by rw [Nat.zero_add]; exact ex_)) ?_
        exact ih2 (i + 1) (by omega) (by omega)
  refine g_mem (M2 := cp M 239 (M 209) 0 127 (0 : Int).toNat) (cp_0.symm) ?_
  refine g_sub (L' := [(0, gR 200), (1, gR 209), (2, gI 127), (3, gI 1), (4, gI 0)]) [0, 1, 2, 3, 4] rfl ?_
  exact lp3 _ 0 (by omega) (Nat.lt_succ_self _)
set_option maxHeartbeats 4000000 in
set_option maxRecDepth 100000 in
theorem d_mvb_209 {l : Launch} {M : Mem} {Pq : Option gV → Mem → Prop}  (hQ : Pq (some (gI 157)) (cp M 209 (M 239) 127 0 30)) : gCtr l my_X12_move mb_X12_move 5 ((some .int)) 1 [gR 200, gR 209, gI 127, gI 0] M Pq := by
  refine g_intro (by decide) (Nat.le_of_ble_eq_true rfl) ?_
  intro p e s m args below meth c D cy q A hK hr hlocks hw
  refine g_sub (L' := [(0, gR 200), (1, gR 209), (2, gI 127), (3, gI 0)]) [0, 1, 2, 3] rfl ?_
  refine g_iconst (pc := 0) (x := 0) hK dd_X12_move_0 (by decide) ?_
  refine g_istore (pc := 1) (i := 4) (L' := [(0, gR 200), (1, gR 209), (2, gI 127), (3, gI 0), (4, gI 0)]) hK dd_X12_move_1 (by decide) rfl ?_
  have lp3 : ∀ (n1 : Nat) (i : Int), (0 ≤ i ∧ i ≤ 30) → (30 - i).toNat < n1 → G p l e (rmD 1) s m args below meth c D cy q A 0 0 5 (MQ below (gQc D cy q A Pq) args s 0 0 A) 3 [(0, gR 200), (1, gR 209), (2, gI 127), (3, gI 0), (4, gI i)] [] (cp M 209 (M 239) 127 0 i.toNat) := by
    intro n1
    induction n1 with
    | zero => intro i iv4 hm5; exact absurd hm5 (Nat.not_lt_zero _)
    | succ n1 ih2 =>
      intro i iv4 hm5
      refine g_iload (pc := 3) (i := 4) (x := i) hK dd_X12_move_3 rfl ?_
      refine g_aloadn (pc := 5) (i := 1) (x := 209) hK dd_X12_move_5 rfl rfl ?_
      refine g_alen (pc := 6) hK (kdm kd_209) rfl dd_X12_move_6 ?_
      refine g_topv (v := gI 30) rfl ?_
      refine g_icmp_ge (pc := 7) (tgt := 49) hK dd_X12_move_7 (by decide) ⟨by omega, by omega⟩ (by decide) (fun c6 => ?_) (fun c6 => ?_)
      · refine g_iloadn (pc := 49) (i := 2) (x := 127) hK dd_X12_move_49 rfl rfl ?_
        refine g_aloadn (pc := 50) (i := 1) (x := 209) hK dd_X12_move_50 rfl rfl ?_
        refine g_alen (pc := 51) hK (kdm kd_209) rfl dd_X12_move_51 ?_
        refine g_topv (v := gI 30) rfl ?_
        refine g_iadd (pc := 52) (z := 157) hK dd_X12_move_52 rfl ?_
        refine g_iret (pc := 53) hK hr hlocks dd_X12_move_53 rfl ?_
        exact g_fin hQ (by first | rfl | omega | (subst_vars; first | rfl | omega)) (by rw [show i = 30 by omega]; rfl)
      · refine g_iloadn (pc := 10) (i := 3) (x := 0) hK dd_X12_move_10 rfl rfl ?_
        refine g_if_eq (pc := 11) (tgt := 30) hK dd_X12_move_11 (by decide) (by decide) (fun _ => ?_) (fun c7 => absurd (by decide) c7)
        refine g_aloadn (pc := 30) (i := 1) (x := 209) hK dd_X12_move_30 rfl rfl ?_
        refine g_iload (pc := 31) (i := 4) (x := i) hK dd_X12_move_31 rfl ?_
        refine g_aloadn (pc := 33) (i := 0) (x := 200) hK dd_X12_move_33 rfl rfl ?_
        refine g_getv (pc := 34) (f := (1, 39)) (j := 38) (v := gR 239) hK (kdm kd_200) rfl ef_12 (by decide) rfl kk_1139 dd_X12_move_34 rfl ?_
        refine g_iloadn (pc := 37) (i := 2) (x := 127) hK dd_X12_move_37 rfl rfl ?_
        refine g_iload (pc := 38) (i := 4) (x := i) hK dd_X12_move_38 rfl ?_
        refine g_iadd (pc := 40) (z := 127 + i) hK dd_X12_move_40 rfl ?_
        refine g_iald (pc := 41) hK (kdm kd_239) nl_239 (by decide) dd_X12_move_41 (by omega) (by omega) (fun x8 ex8 rx8 => ?_)
        replace ex8 : x8 = M 239 ((127 + i).toNat) := ex8
        have ex_ : x8 = M 239 (127 + i.toNat) := by rw [ex8, show (127 + i).toNat = 127 + i.toNat by omega]
        refine g_iast (pc := 42) hK (kdm kd_209) nl_209 (by decide) (by decide) dd_X12_move_42 (by omega) (by omega) rx8 ?_
        refine g_iinc (pc := 43) (i := 4) (y := i + 1) (L' := [(0, gR 200), (1, gR 209), (2, gI 127), (3, gI 0), (4, gI (i + 1))]) hK dd_X12_move_43 rfl rfl (by decide) rfl ?_
        refine g_goto (pc := 46) (tgt := 3) hK dd_X12_move_46 (by decide) ?_
        refine g_sub (L' := [(0, gR 200), (1, gR 209), (2, gI 127), (3, gI 0), (4, gI (i + 1))]) [0, 1, 2, 3, 4] rfl ?_
        refine g_mem (M2 := cp M 209 (M 239) 127 0 (i + 1).toNat) (by rw [tn1 (by omega)]; refine Eq.trans ?_ (cp_as (dp := 0) ex_); rw [Nat.zero_add]) ?_
        exact ih2 (i + 1) (by omega) (by omega)
  refine g_mem (M2 := cp M 209 (M 239) 127 0 (0 : Int).toNat) (cp_0.symm) ?_
  refine g_sub (L' := [(0, gR 200), (1, gR 209), (2, gI 127), (3, gI 0), (4, gI 0)]) [0, 1, 2, 3, 4] rfl ?_
  exact lp3 _ 0 (by omega) (Nat.lt_succ_self _)
set_option maxHeartbeats 4000000 in
set_option maxRecDepth 100000 in
theorem d_mvk_210 {l : Launch} {M : Mem} {Pq : Option gV → Mem → Prop}  (hQ : Pq (some (gI 187)) (cp M 239 (M 210) 0 157 30)) : gCtr l my_X12_move mb_X12_move 5 ((some .int)) 1 [gR 200, gR 210, gI 157, gI 1] M Pq := by
  refine g_intro (by decide) (Nat.le_of_ble_eq_true rfl) ?_
  intro p e s m args below meth c D cy q A hK hr hlocks hw
  refine g_sub (L' := [(0, gR 200), (1, gR 210), (2, gI 157), (3, gI 1)]) [0, 1, 2, 3] rfl ?_
  refine g_iconst (pc := 0) (x := 0) hK dd_X12_move_0 (by decide) ?_
  refine g_istore (pc := 1) (i := 4) (L' := [(0, gR 200), (1, gR 210), (2, gI 157), (3, gI 1), (4, gI 0)]) hK dd_X12_move_1 (by decide) rfl ?_
  have lp3 : ∀ (n1 : Nat) (i : Int), (0 ≤ i ∧ i ≤ 30) → (30 - i).toNat < n1 → G p l e (rmD 1) s m args below meth c D cy q A 0 0 5 (MQ below (gQc D cy q A Pq) args s 0 0 A) 3 [(0, gR 200), (1, gR 210), (2, gI 157), (3, gI 1), (4, gI i)] [] (cp M 239 (M 210) 0 157 i.toNat) := by
    intro n1
    induction n1 with
    | zero => intro i iv4 hm5; exact absurd hm5 (Nat.not_lt_zero _)
    | succ n1 ih2 =>
      intro i iv4 hm5
      refine g_iload (pc := 3) (i := 4) (x := i) hK dd_X12_move_3 rfl ?_
      refine g_aloadn (pc := 5) (i := 1) (x := 210) hK dd_X12_move_5 rfl rfl ?_
      refine g_alen (pc := 6) hK (kdm kd_210) rfl dd_X12_move_6 ?_
      refine g_topv (v := gI 30) rfl ?_
      refine g_icmp_ge (pc := 7) (tgt := 49) hK dd_X12_move_7 (by decide) ⟨by omega, by omega⟩ (by decide) (fun c6 => ?_) (fun c6 => ?_)
      · refine g_iloadn (pc := 49) (i := 2) (x := 157) hK dd_X12_move_49 rfl rfl ?_
        refine g_aloadn (pc := 50) (i := 1) (x := 210) hK dd_X12_move_50 rfl rfl ?_
        refine g_alen (pc := 51) hK (kdm kd_210) rfl dd_X12_move_51 ?_
        refine g_topv (v := gI 30) rfl ?_
        refine g_iadd (pc := 52) (z := 187) hK dd_X12_move_52 rfl ?_
        refine g_iret (pc := 53) hK hr hlocks dd_X12_move_53 rfl ?_
        exact g_fin hQ (by first | rfl | omega | (subst_vars; first | rfl | omega)) (by rw [show i = 30 by omega]; rfl)
      · refine g_iloadn (pc := 10) (i := 3) (x := 1) hK dd_X12_move_10 rfl rfl ?_
        refine g_if_eq (pc := 11) (tgt := 30) hK dd_X12_move_11 (by decide) (by decide) (fun c7 => absurd c7 (by decide)) (fun _ => ?_)
        refine g_aloadn (pc := 14) (i := 0) (x := 200) hK dd_X12_move_14 rfl rfl ?_
        refine g_getv (pc := 15) (f := (1, 39)) (j := 38) (v := gR 239) hK (kdm kd_200) rfl ef_12 (by decide) rfl kk_1139 dd_X12_move_15 rfl ?_
        refine g_iloadn (pc := 18) (i := 2) (x := 157) hK dd_X12_move_18 rfl rfl ?_
        refine g_iload (pc := 19) (i := 4) (x := i) hK dd_X12_move_19 rfl ?_
        refine g_iadd (pc := 21) (z := 157 + i) hK dd_X12_move_21 rfl ?_
        refine g_aloadn (pc := 22) (i := 1) (x := 210) hK dd_X12_move_22 rfl rfl ?_
        refine g_iload (pc := 23) (i := 4) (x := i) hK dd_X12_move_23 rfl ?_
        refine g_iald (pc := 25) hK (kdm kd_210) nl_210 (by decide) dd_X12_move_25 (by omega) (by omega) (fun x8 ex8 rx8 => ?_)
        replace ex8 : x8 = M 210 i.toNat := ex8
        have ex_ : x8 = M 210 i.toNat := ex8
        refine g_iast (pc := 26) hK (kdm kd_239) nl_239 (by decide) (by decide) dd_X12_move_26 (by omega) (by omega) rx8 ?_
        refine g_goto (pc := 27) (tgt := 43) hK dd_X12_move_27 (by decide) ?_
        refine g_iinc (pc := 43) (i := 4) (y := i + 1) (L' := [(0, gR 200), (1, gR 210), (2, gI 157), (3, gI 1), (4, gI (i + 1))]) hK dd_X12_move_43 rfl rfl (by decide) rfl ?_
        refine g_goto (pc := 46) (tgt := 3) hK dd_X12_move_46 (by decide) ?_
        refine g_sub (L' := [(0, gR 200), (1, gR 210), (2, gI 157), (3, gI 1), (4, gI (i + 1))]) [0, 1, 2, 3, 4] rfl ?_
        refine g_mem (M2 := cp M 239 (M 210) 0 157 (i + 1).toNat) (by rw [tn1 (by omega), show (157 + i).toNat = 157 + i.toNat by omega]; exact cp_as (by rw [Nat.zero_add]; exact ex_)) ?_
        exact ih2 (i + 1) (by omega) (by omega)
  refine g_mem (M2 := cp M 239 (M 210) 0 157 (0 : Int).toNat) (cp_0.symm) ?_
  refine g_sub (L' := [(0, gR 200), (1, gR 210), (2, gI 157), (3, gI 1), (4, gI 0)]) [0, 1, 2, 3, 4] rfl ?_
  exact lp3 _ 0 (by omega) (Nat.lt_succ_self _)
set_option maxHeartbeats 4000000 in
set_option maxRecDepth 100000 in
theorem d_mvb_210 {l : Launch} {M : Mem} {Pq : Option gV → Mem → Prop}  (hQ : Pq (some (gI 187)) (cp M 210 (M 239) 157 0 30)) : gCtr l my_X12_move mb_X12_move 5 ((some .int)) 1 [gR 200, gR 210, gI 157, gI 0] M Pq := by
  refine g_intro (by decide) (Nat.le_of_ble_eq_true rfl) ?_
  intro p e s m args below meth c D cy q A hK hr hlocks hw
  refine g_sub (L' := [(0, gR 200), (1, gR 210), (2, gI 157), (3, gI 0)]) [0, 1, 2, 3] rfl ?_
  refine g_iconst (pc := 0) (x := 0) hK dd_X12_move_0 (by decide) ?_
  refine g_istore (pc := 1) (i := 4) (L' := [(0, gR 200), (1, gR 210), (2, gI 157), (3, gI 0), (4, gI 0)]) hK dd_X12_move_1 (by decide) rfl ?_
  have lp3 : ∀ (n1 : Nat) (i : Int), (0 ≤ i ∧ i ≤ 30) → (30 - i).toNat < n1 → G p l e (rmD 1) s m args below meth c D cy q A 0 0 5 (MQ below (gQc D cy q A Pq) args s 0 0 A) 3 [(0, gR 200), (1, gR 210), (2, gI 157), (3, gI 0), (4, gI i)] [] (cp M 210 (M 239) 157 0 i.toNat) := by
    intro n1
    induction n1 with
    | zero => intro i iv4 hm5; exact absurd hm5 (Nat.not_lt_zero _)
    | succ n1 ih2 =>
      intro i iv4 hm5
      refine g_iload (pc := 3) (i := 4) (x := i) hK dd_X12_move_3 rfl ?_
      refine g_aloadn (pc := 5) (i := 1) (x := 210) hK dd_X12_move_5 rfl rfl ?_
      refine g_alen (pc := 6) hK (kdm kd_210) rfl dd_X12_move_6 ?_
      refine g_topv (v := gI 30) rfl ?_
      refine g_icmp_ge (pc := 7) (tgt := 49) hK dd_X12_move_7 (by decide) ⟨by omega, by omega⟩ (by decide) (fun c6 => ?_) (fun c6 => ?_)
      · refine g_iloadn (pc := 49) (i := 2) (x := 157) hK dd_X12_move_49 rfl rfl ?_
        refine g_aloadn (pc := 50) (i := 1) (x := 210) hK dd_X12_move_50 rfl rfl ?_
        refine g_alen (pc := 51) hK (kdm kd_210) rfl dd_X12_move_51 ?_
        refine g_topv (v := gI 30) rfl ?_
        refine g_iadd (pc := 52) (z := 187) hK dd_X12_move_52 rfl ?_
        refine g_iret (pc := 53) hK hr hlocks dd_X12_move_53 rfl ?_
        exact g_fin hQ (by first | rfl | omega | (subst_vars; first | rfl | omega)) (by rw [show i = 30 by omega]; rfl)
      · refine g_iloadn (pc := 10) (i := 3) (x := 0) hK dd_X12_move_10 rfl rfl ?_
        refine g_if_eq (pc := 11) (tgt := 30) hK dd_X12_move_11 (by decide) (by decide) (fun _ => ?_) (fun c7 => absurd (by decide) c7)
        refine g_aloadn (pc := 30) (i := 1) (x := 210) hK dd_X12_move_30 rfl rfl ?_
        refine g_iload (pc := 31) (i := 4) (x := i) hK dd_X12_move_31 rfl ?_
        refine g_aloadn (pc := 33) (i := 0) (x := 200) hK dd_X12_move_33 rfl rfl ?_
        refine g_getv (pc := 34) (f := (1, 39)) (j := 38) (v := gR 239) hK (kdm kd_200) rfl ef_12 (by decide) rfl kk_1139 dd_X12_move_34 rfl ?_
        refine g_iloadn (pc := 37) (i := 2) (x := 157) hK dd_X12_move_37 rfl rfl ?_
        refine g_iload (pc := 38) (i := 4) (x := i) hK dd_X12_move_38 rfl ?_
        refine g_iadd (pc := 40) (z := 157 + i) hK dd_X12_move_40 rfl ?_
        refine g_iald (pc := 41) hK (kdm kd_239) nl_239 (by decide) dd_X12_move_41 (by omega) (by omega) (fun x8 ex8 rx8 => ?_)
        replace ex8 : x8 = M 239 ((157 + i).toNat) := ex8
        have ex_ : x8 = M 239 (157 + i.toNat) := by rw [ex8, show (157 + i).toNat = 157 + i.toNat by omega]
        refine g_iast (pc := 42) hK (kdm kd_210) nl_210 (by decide) (by decide) dd_X12_move_42 (by omega) (by omega) rx8 ?_
        refine g_iinc (pc := 43) (i := 4) (y := i + 1) (L' := [(0, gR 200), (1, gR 210), (2, gI 157), (3, gI 0), (4, gI (i + 1))]) hK dd_X12_move_43 rfl rfl (by decide) rfl ?_
        refine g_goto (pc := 46) (tgt := 3) hK dd_X12_move_46 (by decide) ?_
        refine g_sub (L' := [(0, gR 200), (1, gR 210), (2, gI 157), (3, gI 0), (4, gI (i + 1))]) [0, 1, 2, 3, 4] rfl ?_
        refine g_mem (M2 := cp M 210 (M 239) 157 0 (i + 1).toNat) (by rw [tn1 (by omega)]; refine Eq.trans ?_ (cp_as (dp := 0) ex_); rw [Nat.zero_add]) ?_
        exact ih2 (i + 1) (by omega) (by omega)
  refine g_mem (M2 := cp M 210 (M 239) 157 0 (0 : Int).toNat) (cp_0.symm) ?_
  refine g_sub (L' := [(0, gR 200), (1, gR 210), (2, gI 157), (3, gI 0), (4, gI 0)]) [0, 1, 2, 3, 4] rfl ?_
  exact lp3 _ 0 (by omega) (Nat.lt_succ_self _)
set_option maxHeartbeats 4000000 in
set_option maxRecDepth 100000 in
theorem d_mvk_212 {l : Launch} {M : Mem} {Pq : Option gV → Mem → Prop}  (hQ : Pq (some (gI 192)) (cp M 239 (M 212) 0 187 5)) : gCtr l my_X12_move mb_X12_move 5 ((some .int)) 1 [gR 200, gR 212, gI 187, gI 1] M Pq := by
  refine g_intro (by decide) (Nat.le_of_ble_eq_true rfl) ?_
  intro p e s m args below meth c D cy q A hK hr hlocks hw
  refine g_sub (L' := [(0, gR 200), (1, gR 212), (2, gI 187), (3, gI 1)]) [0, 1, 2, 3] rfl ?_
  refine g_iconst (pc := 0) (x := 0) hK dd_X12_move_0 (by decide) ?_
  refine g_istore (pc := 1) (i := 4) (L' := [(0, gR 200), (1, gR 212), (2, gI 187), (3, gI 1), (4, gI 0)]) hK dd_X12_move_1 (by decide) rfl ?_
  have lp3 : ∀ (n1 : Nat) (i : Int), (0 ≤ i ∧ i ≤ 5) → (5 - i).toNat < n1 → G p l e (rmD 1) s m args below meth c D cy q A 0 0 5 (MQ below (gQc D cy q A Pq) args s 0 0 A) 3 [(0, gR 200), (1, gR 212), (2, gI 187), (3, gI 1), (4, gI i)] [] (cp M 239 (M 212) 0 187 i.toNat) := by
    intro n1
    induction n1 with
    | zero => intro i iv4 hm5; exact absurd hm5 (Nat.not_lt_zero _)
    | succ n1 ih2 =>
      intro i iv4 hm5
      refine g_iload (pc := 3) (i := 4) (x := i) hK dd_X12_move_3 rfl ?_
      refine g_aloadn (pc := 5) (i := 1) (x := 212) hK dd_X12_move_5 rfl rfl ?_
      refine g_alen (pc := 6) hK (kdm kd_212) rfl dd_X12_move_6 ?_
      refine g_topv (v := gI 5) rfl ?_
      refine g_icmp_ge (pc := 7) (tgt := 49) hK dd_X12_move_7 (by decide) ⟨by omega, by omega⟩ (by decide) (fun c6 => ?_) (fun c6 => ?_)
      · refine g_iloadn (pc := 49) (i := 2) (x := 187) hK dd_X12_move_49 rfl rfl ?_
        refine g_aloadn (pc := 50) (i := 1) (x := 212) hK dd_X12_move_50 rfl rfl ?_
        refine g_alen (pc := 51) hK (kdm kd_212) rfl dd_X12_move_51 ?_
        refine g_topv (v := gI 5) rfl ?_
        refine g_iadd (pc := 52) (z := 192) hK dd_X12_move_52 rfl ?_
        refine g_iret (pc := 53) hK hr hlocks dd_X12_move_53 rfl ?_
        exact g_fin hQ (by first | rfl | omega | (subst_vars; first | rfl | omega)) (by rw [show i = 5 by omega]; rfl)
      · refine g_iloadn (pc := 10) (i := 3) (x := 1) hK dd_X12_move_10 rfl rfl ?_
        refine g_if_eq (pc := 11) (tgt := 30) hK dd_X12_move_11 (by decide) (by decide) (fun c7 => absurd c7 (by decide)) (fun _ => ?_)
        refine g_aloadn (pc := 14) (i := 0) (x := 200) hK dd_X12_move_14 rfl rfl ?_
        refine g_getv (pc := 15) (f := (1, 39)) (j := 38) (v := gR 239) hK (kdm kd_200) rfl ef_12 (by decide) rfl kk_1139 dd_X12_move_15 rfl ?_
        refine g_iloadn (pc := 18) (i := 2) (x := 187) hK dd_X12_move_18 rfl rfl ?_
        refine g_iload (pc := 19) (i := 4) (x := i) hK dd_X12_move_19 rfl ?_
        refine g_iadd (pc := 21) (z := 187 + i) hK dd_X12_move_21 rfl ?_
        refine g_aloadn (pc := 22) (i := 1) (x := 212) hK dd_X12_move_22 rfl rfl ?_
        refine g_iload (pc := 23) (i := 4) (x := i) hK dd_X12_move_23 rfl ?_
        refine g_iald (pc := 25) hK (kdm kd_212) nl_212 (by decide) dd_X12_move_25 (by omega) (by omega) (fun x8 ex8 rx8 => ?_)
        replace ex8 : x8 = M 212 i.toNat := ex8
        have ex_ : x8 = M 212 i.toNat := ex8
        refine g_iast (pc := 26) hK (kdm kd_239) nl_239 (by decide) (by decide) dd_X12_move_26 (by omega) (by omega) rx8 ?_
        refine g_goto (pc := 27) (tgt := 43) hK dd_X12_move_27 (by decide) ?_
        refine g_iinc (pc := 43) (i := 4) (y := i + 1) (L' := [(0, gR 200), (1, gR 212), (2, gI 187), (3, gI 1), (4, gI (i + 1))]) hK dd_X12_move_43 rfl rfl (by decide) rfl ?_
        refine g_goto (pc := 46) (tgt := 3) hK dd_X12_move_46 (by decide) ?_
        refine g_sub (L' := [(0, gR 200), (1, gR 212), (2, gI 187), (3, gI 1), (4, gI (i + 1))]) [0, 1, 2, 3, 4] rfl ?_
        refine g_mem (M2 := cp M 239 (M 212) 0 187 (i + 1).toNat) (by rw [tn1 (by omega), show (187 + i).toNat = 187 + i.toNat by omega]; exact cp_as (by rw [Nat.zero_add]; exact ex_)) ?_
        exact ih2 (i + 1) (by omega) (by omega)
  refine g_mem (M2 := cp M 239 (M 212) 0 187 (0 : Int).toNat) (cp_0.symm) ?_
  refine g_sub (L' := [(0, gR 200), (1, gR 212), (2, gI 187), (3, gI 1), (4, gI 0)]) [0, 1, 2, 3, 4] rfl ?_
  exact lp3 _ 0 (by omega) (Nat.lt_succ_self _)
set_option maxHeartbeats 4000000 in
set_option maxRecDepth 100000 in
theorem d_mvb_212 {l : Launch} {M : Mem} {Pq : Option gV → Mem → Prop}  (hQ : Pq (some (gI 192)) (cp M 212 (M 239) 187 0 5)) : gCtr l my_X12_move mb_X12_move 5 ((some .int)) 1 [gR 200, gR 212, gI 187, gI 0] M Pq := by
  refine g_intro (by decide) (Nat.le_of_ble_eq_true rfl) ?_
  intro p e s m args below meth c D cy q A hK hr hlocks hw
  refine g_sub (L' := [(0, gR 200), (1, gR 212), (2, gI 187), (3, gI 0)]) [0, 1, 2, 3] rfl ?_
  refine g_iconst (pc := 0) (x := 0) hK dd_X12_move_0 (by decide) ?_
  refine g_istore (pc := 1) (i := 4) (L' := [(0, gR 200), (1, gR 212), (2, gI 187), (3, gI 0), (4, gI 0)]) hK dd_X12_move_1 (by decide) rfl ?_
  have lp3 : ∀ (n1 : Nat) (i : Int), (0 ≤ i ∧ i ≤ 5) → (5 - i).toNat < n1 → G p l e (rmD 1) s m args below meth c D cy q A 0 0 5 (MQ below (gQc D cy q A Pq) args s 0 0 A) 3 [(0, gR 200), (1, gR 212), (2, gI 187), (3, gI 0), (4, gI i)] [] (cp M 212 (M 239) 187 0 i.toNat) := by
    intro n1
    induction n1 with
    | zero => intro i iv4 hm5; exact absurd hm5 (Nat.not_lt_zero _)
    | succ n1 ih2 =>
      intro i iv4 hm5
      refine g_iload (pc := 3) (i := 4) (x := i) hK dd_X12_move_3 rfl ?_
      refine g_aloadn (pc := 5) (i := 1) (x := 212) hK dd_X12_move_5 rfl rfl ?_
      refine g_alen (pc := 6) hK (kdm kd_212) rfl dd_X12_move_6 ?_
      refine g_topv (v := gI 5) rfl ?_
      refine g_icmp_ge (pc := 7) (tgt := 49) hK dd_X12_move_7 (by decide) ⟨by omega, by omega⟩ (by decide) (fun c6 => ?_) (fun c6 => ?_)
      · refine g_iloadn (pc := 49) (i := 2) (x := 187) hK dd_X12_move_49 rfl rfl ?_
        refine g_aloadn (pc := 50) (i := 1) (x := 212) hK dd_X12_move_50 rfl rfl ?_
        refine g_alen (pc := 51) hK (kdm kd_212) rfl dd_X12_move_51 ?_
        refine g_topv (v := gI 5) rfl ?_
        refine g_iadd (pc := 52) (z := 192) hK dd_X12_move_52 rfl ?_
        refine g_iret (pc := 53) hK hr hlocks dd_X12_move_53 rfl ?_
        exact g_fin hQ (by first | rfl | omega | (subst_vars; first | rfl | omega)) (by rw [show i = 5 by omega]; rfl)
      · refine g_iloadn (pc := 10) (i := 3) (x := 0) hK dd_X12_move_10 rfl rfl ?_
        refine g_if_eq (pc := 11) (tgt := 30) hK dd_X12_move_11 (by decide) (by decide) (fun _ => ?_) (fun c7 => absurd (by decide) c7)
        refine g_aloadn (pc := 30) (i := 1) (x := 212) hK dd_X12_move_30 rfl rfl ?_
        refine g_iload (pc := 31) (i := 4) (x := i) hK dd_X12_move_31 rfl ?_
        refine g_aloadn (pc := 33) (i := 0) (x := 200) hK dd_X12_move_33 rfl rfl ?_
        refine g_getv (pc := 34) (f := (1, 39)) (j := 38) (v := gR 239) hK (kdm kd_200) rfl ef_12 (by decide) rfl kk_1139 dd_X12_move_34 rfl ?_
        refine g_iloadn (pc := 37) (i := 2) (x := 187) hK dd_X12_move_37 rfl rfl ?_
        refine g_iload (pc := 38) (i := 4) (x := i) hK dd_X12_move_38 rfl ?_
        refine g_iadd (pc := 40) (z := 187 + i) hK dd_X12_move_40 rfl ?_
        refine g_iald (pc := 41) hK (kdm kd_239) nl_239 (by decide) dd_X12_move_41 (by omega) (by omega) (fun x8 ex8 rx8 => ?_)
        replace ex8 : x8 = M 239 ((187 + i).toNat) := ex8
        have ex_ : x8 = M 239 (187 + i.toNat) := by rw [ex8, show (187 + i).toNat = 187 + i.toNat by omega]
        refine g_iast (pc := 42) hK (kdm kd_212) nl_212 (by decide) (by decide) dd_X12_move_42 (by omega) (by omega) rx8 ?_
        refine g_iinc (pc := 43) (i := 4) (y := i + 1) (L' := [(0, gR 200), (1, gR 212), (2, gI 187), (3, gI 0), (4, gI (i + 1))]) hK dd_X12_move_43 rfl rfl (by decide) rfl ?_
        refine g_goto (pc := 46) (tgt := 3) hK dd_X12_move_46 (by decide) ?_
        refine g_sub (L' := [(0, gR 200), (1, gR 212), (2, gI 187), (3, gI 0), (4, gI (i + 1))]) [0, 1, 2, 3, 4] rfl ?_
        refine g_mem (M2 := cp M 212 (M 239) 187 0 (i + 1).toNat) (by rw [tn1 (by omega)]; refine Eq.trans ?_ (cp_as (dp := 0) ex_); rw [Nat.zero_add]) ?_
        exact ih2 (i + 1) (by omega) (by omega)
  refine g_mem (M2 := cp M 212 (M 239) 187 0 (0 : Int).toNat) (cp_0.symm) ?_
  refine g_sub (L' := [(0, gR 200), (1, gR 212), (2, gI 187), (3, gI 0), (4, gI 0)]) [0, 1, 2, 3, 4] rfl ?_
  exact lp3 _ 0 (by omega) (Nat.lt_succ_self _)
set_option maxHeartbeats 4000000 in
set_option maxRecDepth 100000 in
theorem d_mvk_213 {l : Launch} {M : Mem} {Pq : Option gV → Mem → Prop}  (hQ : Pq (some (gI 197)) (cp M 239 (M 213) 0 192 5)) : gCtr l my_X12_move mb_X12_move 5 ((some .int)) 1 [gR 200, gR 213, gI 192, gI 1] M Pq := by
  refine g_intro (by decide) (Nat.le_of_ble_eq_true rfl) ?_
  intro p e s m args below meth c D cy q A hK hr hlocks hw
  refine g_sub (L' := [(0, gR 200), (1, gR 213), (2, gI 192), (3, gI 1)]) [0, 1, 2, 3] rfl ?_
  refine g_iconst (pc := 0) (x := 0) hK dd_X12_move_0 (by decide) ?_
  refine g_istore (pc := 1) (i := 4) (L' := [(0, gR 200), (1, gR 213), (2, gI 192), (3, gI 1), (4, gI 0)]) hK dd_X12_move_1 (by decide) rfl ?_
  have lp3 : ∀ (n1 : Nat) (i : Int), (0 ≤ i ∧ i ≤ 5) → (5 - i).toNat < n1 → G p l e (rmD 1) s m args below meth c D cy q A 0 0 5 (MQ below (gQc D cy q A Pq) args s 0 0 A) 3 [(0, gR 200), (1, gR 213), (2, gI 192), (3, gI 1), (4, gI i)] [] (cp M 239 (M 213) 0 192 i.toNat) := by
    intro n1
    induction n1 with
    | zero => intro i iv4 hm5; exact absurd hm5 (Nat.not_lt_zero _)
    | succ n1 ih2 =>
      intro i iv4 hm5
      refine g_iload (pc := 3) (i := 4) (x := i) hK dd_X12_move_3 rfl ?_
      refine g_aloadn (pc := 5) (i := 1) (x := 213) hK dd_X12_move_5 rfl rfl ?_
      refine g_alen (pc := 6) hK (kdm kd_213) rfl dd_X12_move_6 ?_
      refine g_topv (v := gI 5) rfl ?_
      refine g_icmp_ge (pc := 7) (tgt := 49) hK dd_X12_move_7 (by decide) ⟨by omega, by omega⟩ (by decide) (fun c6 => ?_) (fun c6 => ?_)
      · refine g_iloadn (pc := 49) (i := 2) (x := 192) hK dd_X12_move_49 rfl rfl ?_
        refine g_aloadn (pc := 50) (i := 1) (x := 213) hK dd_X12_move_50 rfl rfl ?_
        refine g_alen (pc := 51) hK (kdm kd_213) rfl dd_X12_move_51 ?_
        refine g_topv (v := gI 5) rfl ?_
        refine g_iadd (pc := 52) (z := 197) hK dd_X12_move_52 rfl ?_
        refine g_iret (pc := 53) hK hr hlocks dd_X12_move_53 rfl ?_
        exact g_fin hQ (by first | rfl | omega | (subst_vars; first | rfl | omega)) (by rw [show i = 5 by omega]; rfl)
      · refine g_iloadn (pc := 10) (i := 3) (x := 1) hK dd_X12_move_10 rfl rfl ?_
        refine g_if_eq (pc := 11) (tgt := 30) hK dd_X12_move_11 (by decide) (by decide) (fun c7 => absurd c7 (by decide)) (fun _ => ?_)
        refine g_aloadn (pc := 14) (i := 0) (x := 200) hK dd_X12_move_14 rfl rfl ?_
        refine g_getv (pc := 15) (f := (1, 39)) (j := 38) (v := gR 239) hK (kdm kd_200) rfl ef_12 (by decide) rfl kk_1139 dd_X12_move_15 rfl ?_
        refine g_iloadn (pc := 18) (i := 2) (x := 192) hK dd_X12_move_18 rfl rfl ?_
        refine g_iload (pc := 19) (i := 4) (x := i) hK dd_X12_move_19 rfl ?_
        refine g_iadd (pc := 21) (z := 192 + i) hK dd_X12_move_21 rfl ?_
        refine g_aloadn (pc := 22) (i := 1) (x := 213) hK dd_X12_move_22 rfl rfl ?_
        refine g_iload (pc := 23) (i := 4) (x := i) hK dd_X12_move_23 rfl ?_
        refine g_iald (pc := 25) hK (kdm kd_213) nl_213 (by decide) dd_X12_move_25 (by omega) (by omega) (fun x8 ex8 rx8 => ?_)
        replace ex8 : x8 = M 213 i.toNat := ex8
        have ex_ : x8 = M 213 i.toNat := ex8
        refine g_iast (pc := 26) hK (kdm kd_239) nl_239 (by decide) (by decide) dd_X12_move_26 (by omega) (by omega) rx8 ?_
        refine g_goto (pc := 27) (tgt := 43) hK dd_X12_move_27 (by decide) ?_
        refine g_iinc (pc := 43) (i := 4) (y := i + 1) (L' := [(0, gR 200), (1, gR 213), (2, gI 192), (3, gI 1), (4, gI (i + 1))]) hK dd_X12_move_43 rfl rfl (by decide) rfl ?_
        refine g_goto (pc := 46) (tgt := 3) hK dd_X12_move_46 (by decide) ?_
        refine g_sub (L' := [(0, gR 200), (1, gR 213), (2, gI 192), (3, gI 1), (4, gI (i + 1))]) [0, 1, 2, 3, 4] rfl ?_
        refine g_mem (M2 := cp M 239 (M 213) 0 192 (i + 1).toNat) (by rw [tn1 (by omega), show (192 + i).toNat = 192 + i.toNat by omega]; exact cp_as (by rw [Nat.zero_add]; exact ex_)) ?_
        exact ih2 (i + 1) (by omega) (by omega)
  refine g_mem (M2 := cp M 239 (M 213) 0 192 (0 : Int).toNat) (cp_0.symm) ?_
  refine g_sub (L' := [(0, gR 200), (1, gR 213), (2, gI 192), (3, gI 1), (4, gI 0)]) [0, 1, 2, 3, 4] rfl ?_
  exact lp3 _ 0 (by omega) (Nat.lt_succ_self _)
set_option maxHeartbeats 4000000 in
set_option maxRecDepth 100000 in
theorem d_mvb_213 {l : Launch} {M : Mem} {Pq : Option gV → Mem → Prop}  (hQ : Pq (some (gI 197)) (cp M 213 (M 239) 192 0 5)) : gCtr l my_X12_move mb_X12_move 5 ((some .int)) 1 [gR 200, gR 213, gI 192, gI 0] M Pq := by
  refine g_intro (by decide) (Nat.le_of_ble_eq_true rfl) ?_
  intro p e s m args below meth c D cy q A hK hr hlocks hw
  refine g_sub (L' := [(0, gR 200), (1, gR 213), (2, gI 192), (3, gI 0)]) [0, 1, 2, 3] rfl ?_
  refine g_iconst (pc := 0) (x := 0) hK dd_X12_move_0 (by decide) ?_
  refine g_istore (pc := 1) (i := 4) (L' := [(0, gR 200), (1, gR 213), (2, gI 192), (3, gI 0), (4, gI 0)]) hK dd_X12_move_1 (by decide) rfl ?_
  have lp3 : ∀ (n1 : Nat) (i : Int), (0 ≤ i ∧ i ≤ 5) → (5 - i).toNat < n1 → G p l e (rmD 1) s m args below meth c D cy q A 0 0 5 (MQ below (gQc D cy q A Pq) args s 0 0 A) 3 [(0, gR 200), (1, gR 213), (2, gI 192), (3, gI 0), (4, gI i)] [] (cp M 213 (M 239) 192 0 i.toNat) := by
    intro n1
    induction n1 with
    | zero => intro i iv4 hm5; exact absurd hm5 (Nat.not_lt_zero _)
    | succ n1 ih2 =>
      intro i iv4 hm5
      refine g_iload (pc := 3) (i := 4) (x := i) hK dd_X12_move_3 rfl ?_
      refine g_aloadn (pc := 5) (i := 1) (x := 213) hK dd_X12_move_5 rfl rfl ?_
      refine g_alen (pc := 6) hK (kdm kd_213) rfl dd_X12_move_6 ?_
      refine g_topv (v := gI 5) rfl ?_
      refine g_icmp_ge (pc := 7) (tgt := 49) hK dd_X12_move_7 (by decide) ⟨by omega, by omega⟩ (by decide) (fun c6 => ?_) (fun c6 => ?_)
      · refine g_iloadn (pc := 49) (i := 2) (x := 192) hK dd_X12_move_49 rfl rfl ?_
        refine g_aloadn (pc := 50) (i := 1) (x := 213) hK dd_X12_move_50 rfl rfl ?_
        refine g_alen (pc := 51) hK (kdm kd_213) rfl dd_X12_move_51 ?_
        refine g_topv (v := gI 5) rfl ?_
        refine g_iadd (pc := 52) (z := 197) hK dd_X12_move_52 rfl ?_
        refine g_iret (pc := 53) hK hr hlocks dd_X12_move_53 rfl ?_
        exact g_fin hQ (by first | rfl | omega | (subst_vars; first | rfl | omega)) (by rw [show i = 5 by omega]; rfl)
      · refine g_iloadn (pc := 10) (i := 3) (x := 0) hK dd_X12_move_10 rfl rfl ?_
        refine g_if_eq (pc := 11) (tgt := 30) hK dd_X12_move_11 (by decide) (by decide) (fun _ => ?_) (fun c7 => absurd (by decide) c7)
        refine g_aloadn (pc := 30) (i := 1) (x := 213) hK dd_X12_move_30 rfl rfl ?_
        refine g_iload (pc := 31) (i := 4) (x := i) hK dd_X12_move_31 rfl ?_
        refine g_aloadn (pc := 33) (i := 0) (x := 200) hK dd_X12_move_33 rfl rfl ?_
        refine g_getv (pc := 34) (f := (1, 39)) (j := 38) (v := gR 239) hK (kdm kd_200) rfl ef_12 (by decide) rfl kk_1139 dd_X12_move_34 rfl ?_
        refine g_iloadn (pc := 37) (i := 2) (x := 192) hK dd_X12_move_37 rfl rfl ?_
        refine g_iload (pc := 38) (i := 4) (x := i) hK dd_X12_move_38 rfl ?_
        refine g_iadd (pc := 40) (z := 192 + i) hK dd_X12_move_40 rfl ?_
        refine g_iald (pc := 41) hK (kdm kd_239) nl_239 (by decide) dd_X12_move_41 (by omega) (by omega) (fun x8 ex8 rx8 => ?_)
        replace ex8 : x8 = M 239 ((192 + i).toNat) := ex8
        have ex_ : x8 = M 239 (192 + i.toNat) := by rw [ex8, show (192 + i).toNat = 192 + i.toNat by omega]
        refine g_iast (pc := 42) hK (kdm kd_213) nl_213 (by decide) (by decide) dd_X12_move_42 (by omega) (by omega) rx8 ?_
        refine g_iinc (pc := 43) (i := 4) (y := i + 1) (L' := [(0, gR 200), (1, gR 213), (2, gI 192), (3, gI 0), (4, gI (i + 1))]) hK dd_X12_move_43 rfl rfl (by decide) rfl ?_
        refine g_goto (pc := 46) (tgt := 3) hK dd_X12_move_46 (by decide) ?_
        refine g_sub (L' := [(0, gR 200), (1, gR 213), (2, gI 192), (3, gI 0), (4, gI (i + 1))]) [0, 1, 2, 3, 4] rfl ?_
        refine g_mem (M2 := cp M 213 (M 239) 192 0 (i + 1).toNat) (by rw [tn1 (by omega)]; refine Eq.trans ?_ (cp_as (dp := 0) ex_); rw [Nat.zero_add]) ?_
        exact ih2 (i + 1) (by omega) (by omega)
  refine g_mem (M2 := cp M 213 (M 239) 192 0 (0 : Int).toNat) (cp_0.symm) ?_
  refine g_sub (L' := [(0, gR 200), (1, gR 213), (2, gI 192), (3, gI 0), (4, gI 0)]) [0, 1, 2, 3, 4] rfl ?_
  exact lp3 _ 0 (by omega) (Nat.lt_succ_self _)
set_option maxHeartbeats 4000000 in
set_option maxRecDepth 100000 in
theorem d_mvk_214 {l : Launch} {M : Mem} {Pq : Option gV → Mem → Prop}  (hQ : Pq (some (gI 202)) (cp M 239 (M 214) 0 197 5)) : gCtr l my_X12_move mb_X12_move 5 ((some .int)) 1 [gR 200, gR 214, gI 197, gI 1] M Pq := by
  refine g_intro (by decide) (Nat.le_of_ble_eq_true rfl) ?_
  intro p e s m args below meth c D cy q A hK hr hlocks hw
  refine g_sub (L' := [(0, gR 200), (1, gR 214), (2, gI 197), (3, gI 1)]) [0, 1, 2, 3] rfl ?_
  refine g_iconst (pc := 0) (x := 0) hK dd_X12_move_0 (by decide) ?_
  refine g_istore (pc := 1) (i := 4) (L' := [(0, gR 200), (1, gR 214), (2, gI 197), (3, gI 1), (4, gI 0)]) hK dd_X12_move_1 (by decide) rfl ?_
  have lp3 : ∀ (n1 : Nat) (i : Int), (0 ≤ i ∧ i ≤ 5) → (5 - i).toNat < n1 → G p l e (rmD 1) s m args below meth c D cy q A 0 0 5 (MQ below (gQc D cy q A Pq) args s 0 0 A) 3 [(0, gR 200), (1, gR 214), (2, gI 197), (3, gI 1), (4, gI i)] [] (cp M 239 (M 214) 0 197 i.toNat) := by
    intro n1
    induction n1 with
    | zero => intro i iv4 hm5; exact absurd hm5 (Nat.not_lt_zero _)
    | succ n1 ih2 =>
      intro i iv4 hm5
      refine g_iload (pc := 3) (i := 4) (x := i) hK dd_X12_move_3 rfl ?_
      refine g_aloadn (pc := 5) (i := 1) (x := 214) hK dd_X12_move_5 rfl rfl ?_
      refine g_alen (pc := 6) hK (kdm kd_214) rfl dd_X12_move_6 ?_
      refine g_topv (v := gI 5) rfl ?_
      refine g_icmp_ge (pc := 7) (tgt := 49) hK dd_X12_move_7 (by decide) ⟨by omega, by omega⟩ (by decide) (fun c6 => ?_) (fun c6 => ?_)
      · refine g_iloadn (pc := 49) (i := 2) (x := 197) hK dd_X12_move_49 rfl rfl ?_
        refine g_aloadn (pc := 50) (i := 1) (x := 214) hK dd_X12_move_50 rfl rfl ?_
        refine g_alen (pc := 51) hK (kdm kd_214) rfl dd_X12_move_51 ?_
        refine g_topv (v := gI 5) rfl ?_
        refine g_iadd (pc := 52) (z := 202) hK dd_X12_move_52 rfl ?_
        refine g_iret (pc := 53) hK hr hlocks dd_X12_move_53 rfl ?_
        exact g_fin hQ (by first | rfl | omega | (subst_vars; first | rfl | omega)) (by rw [show i = 5 by omega]; rfl)
      · refine g_iloadn (pc := 10) (i := 3) (x := 1) hK dd_X12_move_10 rfl rfl ?_
        refine g_if_eq (pc := 11) (tgt := 30) hK dd_X12_move_11 (by decide) (by decide) (fun c7 => absurd c7 (by decide)) (fun _ => ?_)
        refine g_aloadn (pc := 14) (i := 0) (x := 200) hK dd_X12_move_14 rfl rfl ?_
        refine g_getv (pc := 15) (f := (1, 39)) (j := 38) (v := gR 239) hK (kdm kd_200) rfl ef_12 (by decide) rfl kk_1139 dd_X12_move_15 rfl ?_
        refine g_iloadn (pc := 18) (i := 2) (x := 197) hK dd_X12_move_18 rfl rfl ?_
        refine g_iload (pc := 19) (i := 4) (x := i) hK dd_X12_move_19 rfl ?_
        refine g_iadd (pc := 21) (z := 197 + i) hK dd_X12_move_21 rfl ?_
        refine g_aloadn (pc := 22) (i := 1) (x := 214) hK dd_X12_move_22 rfl rfl ?_
        refine g_iload (pc := 23) (i := 4) (x := i) hK dd_X12_move_23 rfl ?_
        refine g_iald (pc := 25) hK (kdm kd_214) nl_214 (by decide) dd_X12_move_25 (by omega) (by omega) (fun x8 ex8 rx8 => ?_)
        replace ex8 : x8 = M 214 i.toNat := ex8
        have ex_ : x8 = M 214 i.toNat := ex8
        refine g_iast (pc := 26) hK (kdm kd_239) nl_239 (by decide) (by decide) dd_X12_move_26 (by omega) (by omega) rx8 ?_
        refine g_goto (pc := 27) (tgt := 43) hK dd_X12_move_27 (by decide) ?_
        refine g_iinc (pc := 43) (i := 4) (y := i + 1) (L' := [(0, gR 200), (1, gR 214), (2, gI 197), (3, gI 1), (4, gI (i + 1))]) hK dd_X12_move_43 rfl rfl (by decide) rfl ?_
        refine g_goto (pc := 46) (tgt := 3) hK dd_X12_move_46 (by decide) ?_
        refine g_sub (L' := [(0, gR 200), (1, gR 214), (2, gI 197), (3, gI 1), (4, gI (i + 1))]) [0, 1, 2, 3, 4] rfl ?_
        refine g_mem (M2 := cp M 239 (M 214) 0 197 (i + 1).toNat) (by rw [tn1 (by omega), show (197 + i).toNat = 197 + i.toNat by omega]; exact cp_as (by rw [Nat.zero_add]; exact ex_)) ?_
        exact ih2 (i + 1) (by omega) (by omega)
  refine g_mem (M2 := cp M 239 (M 214) 0 197 (0 : Int).toNat) (cp_0.symm) ?_
  refine g_sub (L' := [(0, gR 200), (1, gR 214), (2, gI 197), (3, gI 1), (4, gI 0)]) [0, 1, 2, 3, 4] rfl ?_
  exact lp3 _ 0 (by omega) (Nat.lt_succ_self _)
set_option maxHeartbeats 4000000 in
set_option maxRecDepth 100000 in
theorem d_mvb_214 {l : Launch} {M : Mem} {Pq : Option gV → Mem → Prop}  (hQ : Pq (some (gI 202)) (cp M 214 (M 239) 197 0 5)) : gCtr l my_X12_move mb_X12_move 5 ((some .int)) 1 [gR 200, gR 214, gI 197, gI 0] M Pq := by
  refine g_intro (by decide) (Nat.le_of_ble_eq_true rfl) ?_
  intro p e s m args below meth c D cy q A hK hr hlocks hw
  refine g_sub (L' := [(0, gR 200), (1, gR 214), (2, gI 197), (3, gI 0)]) [0, 1, 2, 3] rfl ?_
  refine g_iconst (pc := 0) (x := 0) hK dd_X12_move_0 (by decide) ?_
  refine g_istore (pc := 1) (i := 4) (L' := [(0, gR 200), (1, gR 214), (2, gI 197), (3, gI 0), (4, gI 0)]) hK dd_X12_move_1 (by decide) rfl ?_
  have lp3 : ∀ (n1 : Nat) (i : Int), (0 ≤ i ∧ i ≤ 5) → (5 - i).toNat < n1 → G p l e (rmD 1) s m args below meth c D cy q A 0 0 5 (MQ below (gQc D cy q A Pq) args s 0 0 A) 3 [(0, gR 200), (1, gR 214), (2, gI 197), (3, gI 0), (4, gI i)] [] (cp M 214 (M 239) 197 0 i.toNat) := by
    intro n1
    induction n1 with
    | zero => intro i iv4 hm5; exact absurd hm5 (Nat.not_lt_zero _)
    | succ n1 ih2 =>
      intro i iv4 hm5
      refine g_iload (pc := 3) (i := 4) (x := i) hK dd_X12_move_3 rfl ?_
      refine g_aloadn (pc := 5) (i := 1) (x := 214) hK dd_X12_move_5 rfl rfl ?_
      refine g_alen (pc := 6) hK (kdm kd_214) rfl dd_X12_move_6 ?_
      refine g_topv (v := gI 5) rfl ?_
      refine g_icmp_ge (pc := 7) (tgt := 49) hK dd_X12_move_7 (by decide) ⟨by omega, by omega⟩ (by decide) (fun c6 => ?_) (fun c6 => ?_)
      · refine g_iloadn (pc := 49) (i := 2) (x := 197) hK dd_X12_move_49 rfl rfl ?_
        refine g_aloadn (pc := 50) (i := 1) (x := 214) hK dd_X12_move_50 rfl rfl ?_
        refine g_alen (pc := 51) hK (kdm kd_214) rfl dd_X12_move_51 ?_
        refine g_topv (v := gI 5) rfl ?_
        refine g_iadd (pc := 52) (z := 202) hK dd_X12_move_52 rfl ?_
        refine g_iret (pc := 53) hK hr hlocks dd_X12_move_53 rfl ?_
        exact g_fin hQ (by first | rfl | omega | (subst_vars; first | rfl | omega)) (by rw [show i = 5 by omega]; rfl)
      · refine g_iloadn (pc := 10) (i := 3) (x := 0) hK dd_X12_move_10 rfl rfl ?_
        refine g_if_eq (pc := 11) (tgt := 30) hK dd_X12_move_11 (by decide) (by decide) (fun _ => ?_) (fun c7 => absurd (by decide) c7)
        refine g_aloadn (pc := 30) (i := 1) (x := 214) hK dd_X12_move_30 rfl rfl ?_
        refine g_iload (pc := 31) (i := 4) (x := i) hK dd_X12_move_31 rfl ?_
        refine g_aloadn (pc := 33) (i := 0) (x := 200) hK dd_X12_move_33 rfl rfl ?_
        refine g_getv (pc := 34) (f := (1, 39)) (j := 38) (v := gR 239) hK (kdm kd_200) rfl ef_12 (by decide) rfl kk_1139 dd_X12_move_34 rfl ?_
        refine g_iloadn (pc := 37) (i := 2) (x := 197) hK dd_X12_move_37 rfl rfl ?_
        refine g_iload (pc := 38) (i := 4) (x := i) hK dd_X12_move_38 rfl ?_
        refine g_iadd (pc := 40) (z := 197 + i) hK dd_X12_move_40 rfl ?_
        refine g_iald (pc := 41) hK (kdm kd_239) nl_239 (by decide) dd_X12_move_41 (by omega) (by omega) (fun x8 ex8 rx8 => ?_)
        replace ex8 : x8 = M 239 ((197 + i).toNat) := ex8
        have ex_ : x8 = M 239 (197 + i.toNat) := by rw [ex8, show (197 + i).toNat = 197 + i.toNat by omega]
        refine g_iast (pc := 42) hK (kdm kd_214) nl_214 (by decide) (by decide) dd_X12_move_42 (by omega) (by omega) rx8 ?_
        refine g_iinc (pc := 43) (i := 4) (y := i + 1) (L' := [(0, gR 200), (1, gR 214), (2, gI 197), (3, gI 0), (4, gI (i + 1))]) hK dd_X12_move_43 rfl rfl (by decide) rfl ?_
        refine g_goto (pc := 46) (tgt := 3) hK dd_X12_move_46 (by decide) ?_
        refine g_sub (L' := [(0, gR 200), (1, gR 214), (2, gI 197), (3, gI 0), (4, gI (i + 1))]) [0, 1, 2, 3, 4] rfl ?_
        refine g_mem (M2 := cp M 214 (M 239) 197 0 (i + 1).toNat) (by rw [tn1 (by omega)]; refine Eq.trans ?_ (cp_as (dp := 0) ex_); rw [Nat.zero_add]) ?_
        exact ih2 (i + 1) (by omega) (by omega)
  refine g_mem (M2 := cp M 214 (M 239) 197 0 (0 : Int).toNat) (cp_0.symm) ?_
  refine g_sub (L' := [(0, gR 200), (1, gR 214), (2, gI 197), (3, gI 0), (4, gI 0)]) [0, 1, 2, 3, 4] rfl ?_
  exact lp3 _ 0 (by omega) (Nat.lt_succ_self _)
set_option maxHeartbeats 4000000 in
set_option maxRecDepth 100000 in
theorem d_mvk_216 {l : Launch} {M : Mem} {Pq : Option gV → Mem → Prop}  (hQ : Pq (some (gI 232)) (cp M 239 (M 216) 0 202 30)) : gCtr l my_X12_move mb_X12_move 5 ((some .int)) 1 [gR 200, gR 216, gI 202, gI 1] M Pq := by
  refine g_intro (by decide) (Nat.le_of_ble_eq_true rfl) ?_
  intro p e s m args below meth c D cy q A hK hr hlocks hw
  refine g_sub (L' := [(0, gR 200), (1, gR 216), (2, gI 202), (3, gI 1)]) [0, 1, 2, 3] rfl ?_
  refine g_iconst (pc := 0) (x := 0) hK dd_X12_move_0 (by decide) ?_
  refine g_istore (pc := 1) (i := 4) (L' := [(0, gR 200), (1, gR 216), (2, gI 202), (3, gI 1), (4, gI 0)]) hK dd_X12_move_1 (by decide) rfl ?_
  have lp3 : ∀ (n1 : Nat) (i : Int), (0 ≤ i ∧ i ≤ 30) → (30 - i).toNat < n1 → G p l e (rmD 1) s m args below meth c D cy q A 0 0 5 (MQ below (gQc D cy q A Pq) args s 0 0 A) 3 [(0, gR 200), (1, gR 216), (2, gI 202), (3, gI 1), (4, gI i)] [] (cp M 239 (M 216) 0 202 i.toNat) := by
    intro n1
    induction n1 with
    | zero => intro i iv4 hm5; exact absurd hm5 (Nat.not_lt_zero _)
    | succ n1 ih2 =>
      intro i iv4 hm5
      refine g_iload (pc := 3) (i := 4) (x := i) hK dd_X12_move_3 rfl ?_
      refine g_aloadn (pc := 5) (i := 1) (x := 216) hK dd_X12_move_5 rfl rfl ?_
      refine g_alen (pc := 6) hK (kdm kd_216) rfl dd_X12_move_6 ?_
      refine g_topv (v := gI 30) rfl ?_
      refine g_icmp_ge (pc := 7) (tgt := 49) hK dd_X12_move_7 (by decide) ⟨by omega, by omega⟩ (by decide) (fun c6 => ?_) (fun c6 => ?_)
      · refine g_iloadn (pc := 49) (i := 2) (x := 202) hK dd_X12_move_49 rfl rfl ?_
        refine g_aloadn (pc := 50) (i := 1) (x := 216) hK dd_X12_move_50 rfl rfl ?_
        refine g_alen (pc := 51) hK (kdm kd_216) rfl dd_X12_move_51 ?_
        refine g_topv (v := gI 30) rfl ?_
        refine g_iadd (pc := 52) (z := 232) hK dd_X12_move_52 rfl ?_
        refine g_iret (pc := 53) hK hr hlocks dd_X12_move_53 rfl ?_
        exact g_fin hQ (by first | rfl | omega | (subst_vars; first | rfl | omega)) (by rw [show i = 30 by omega]; rfl)
      · refine g_iloadn (pc := 10) (i := 3) (x := 1) hK dd_X12_move_10 rfl rfl ?_
        refine g_if_eq (pc := 11) (tgt := 30) hK dd_X12_move_11 (by decide) (by decide) (fun c7 => absurd c7 (by decide)) (fun _ => ?_)
        refine g_aloadn (pc := 14) (i := 0) (x := 200) hK dd_X12_move_14 rfl rfl ?_
        refine g_getv (pc := 15) (f := (1, 39)) (j := 38) (v := gR 239) hK (kdm kd_200) rfl ef_12 (by decide) rfl kk_1139 dd_X12_move_15 rfl ?_
        refine g_iloadn (pc := 18) (i := 2) (x := 202) hK dd_X12_move_18 rfl rfl ?_
        refine g_iload (pc := 19) (i := 4) (x := i) hK dd_X12_move_19 rfl ?_
        refine g_iadd (pc := 21) (z := 202 + i) hK dd_X12_move_21 rfl ?_
        refine g_aloadn (pc := 22) (i := 1) (x := 216) hK dd_X12_move_22 rfl rfl ?_
        refine g_iload (pc := 23) (i := 4) (x := i) hK dd_X12_move_23 rfl ?_
        refine g_iald (pc := 25) hK (kdm kd_216) nl_216 (by decide) dd_X12_move_25 (by omega) (by omega) (fun x8 ex8 rx8 => ?_)
        replace ex8 : x8 = M 216 i.toNat := ex8
        have ex_ : x8 = M 216 i.toNat := ex8
        refine g_iast (pc := 26) hK (kdm kd_239) nl_239 (by decide) (by decide) dd_X12_move_26 (by omega) (by omega) rx8 ?_
        refine g_goto (pc := 27) (tgt := 43) hK dd_X12_move_27 (by decide) ?_
        refine g_iinc (pc := 43) (i := 4) (y := i + 1) (L' := [(0, gR 200), (1, gR 216), (2, gI 202), (3, gI 1), (4, gI (i + 1))]) hK dd_X12_move_43 rfl rfl (by decide) rfl ?_
        refine g_goto (pc := 46) (tgt := 3) hK dd_X12_move_46 (by decide) ?_
        refine g_sub (L' := [(0, gR 200), (1, gR 216), (2, gI 202), (3, gI 1), (4, gI (i + 1))]) [0, 1, 2, 3, 4] rfl ?_
        refine g_mem (M2 := cp M 239 (M 216) 0 202 (i + 1).toNat) (by rw [tn1 (by omega), show (202 + i).toNat = 202 + i.toNat by omega]; exact cp_as (by rw [Nat.zero_add]; exact ex_)) ?_
        exact ih2 (i + 1) (by omega) (by omega)
  refine g_mem (M2 := cp M 239 (M 216) 0 202 (0 : Int).toNat) (cp_0.symm) ?_
  refine g_sub (L' := [(0, gR 200), (1, gR 216), (2, gI 202), (3, gI 1), (4, gI 0)]) [0, 1, 2, 3, 4] rfl ?_
  exact lp3 _ 0 (by omega) (Nat.lt_succ_self _)
set_option maxHeartbeats 4000000 in
set_option maxRecDepth 100000 in
theorem d_mvb_216 {l : Launch} {M : Mem} {Pq : Option gV → Mem → Prop}  (hQ : Pq (some (gI 232)) (cp M 216 (M 239) 202 0 30)) : gCtr l my_X12_move mb_X12_move 5 ((some .int)) 1 [gR 200, gR 216, gI 202, gI 0] M Pq := by
  refine g_intro (by decide) (Nat.le_of_ble_eq_true rfl) ?_
  intro p e s m args below meth c D cy q A hK hr hlocks hw
  refine g_sub (L' := [(0, gR 200), (1, gR 216), (2, gI 202), (3, gI 0)]) [0, 1, 2, 3] rfl ?_
  refine g_iconst (pc := 0) (x := 0) hK dd_X12_move_0 (by decide) ?_
  refine g_istore (pc := 1) (i := 4) (L' := [(0, gR 200), (1, gR 216), (2, gI 202), (3, gI 0), (4, gI 0)]) hK dd_X12_move_1 (by decide) rfl ?_
  have lp3 : ∀ (n1 : Nat) (i : Int), (0 ≤ i ∧ i ≤ 30) → (30 - i).toNat < n1 → G p l e (rmD 1) s m args below meth c D cy q A 0 0 5 (MQ below (gQc D cy q A Pq) args s 0 0 A) 3 [(0, gR 200), (1, gR 216), (2, gI 202), (3, gI 0), (4, gI i)] [] (cp M 216 (M 239) 202 0 i.toNat) := by
    intro n1
    induction n1 with
    | zero => intro i iv4 hm5; exact absurd hm5 (Nat.not_lt_zero _)
    | succ n1 ih2 =>
      intro i iv4 hm5
      refine g_iload (pc := 3) (i := 4) (x := i) hK dd_X12_move_3 rfl ?_
      refine g_aloadn (pc := 5) (i := 1) (x := 216) hK dd_X12_move_5 rfl rfl ?_
      refine g_alen (pc := 6) hK (kdm kd_216) rfl dd_X12_move_6 ?_
      refine g_topv (v := gI 30) rfl ?_
      refine g_icmp_ge (pc := 7) (tgt := 49) hK dd_X12_move_7 (by decide) ⟨by omega, by omega⟩ (by decide) (fun c6 => ?_) (fun c6 => ?_)
      · refine g_iloadn (pc := 49) (i := 2) (x := 202) hK dd_X12_move_49 rfl rfl ?_
        refine g_aloadn (pc := 50) (i := 1) (x := 216) hK dd_X12_move_50 rfl rfl ?_
        refine g_alen (pc := 51) hK (kdm kd_216) rfl dd_X12_move_51 ?_
        refine g_topv (v := gI 30) rfl ?_
        refine g_iadd (pc := 52) (z := 232) hK dd_X12_move_52 rfl ?_
        refine g_iret (pc := 53) hK hr hlocks dd_X12_move_53 rfl ?_
        exact g_fin hQ (by first | rfl | omega | (subst_vars; first | rfl | omega)) (by rw [show i = 30 by omega]; rfl)
      · refine g_iloadn (pc := 10) (i := 3) (x := 0) hK dd_X12_move_10 rfl rfl ?_
        refine g_if_eq (pc := 11) (tgt := 30) hK dd_X12_move_11 (by decide) (by decide) (fun _ => ?_) (fun c7 => absurd (by decide) c7)
        refine g_aloadn (pc := 30) (i := 1) (x := 216) hK dd_X12_move_30 rfl rfl ?_
        refine g_iload (pc := 31) (i := 4) (x := i) hK dd_X12_move_31 rfl ?_
        refine g_aloadn (pc := 33) (i := 0) (x := 200) hK dd_X12_move_33 rfl rfl ?_
        refine g_getv (pc := 34) (f := (1, 39)) (j := 38) (v := gR 239) hK (kdm kd_200) rfl ef_12 (by decide) rfl kk_1139 dd_X12_move_34 rfl ?_
        refine g_iloadn (pc := 37) (i := 2) (x := 202) hK dd_X12_move_37 rfl rfl ?_
        refine g_iload (pc := 38) (i := 4) (x := i) hK dd_X12_move_38 rfl ?_
        refine g_iadd (pc := 40) (z := 202 + i) hK dd_X12_move_40 rfl ?_
        refine g_iald (pc := 41) hK (kdm kd_239) nl_239 (by decide) dd_X12_move_41 (by omega) (by omega) (fun x8 ex8 rx8 => ?_)
        replace ex8 : x8 = M 239 ((202 + i).toNat) := ex8
        have ex_ : x8 = M 239 (202 + i.toNat) := by rw [ex8, show (202 + i).toNat = 202 + i.toNat by omega]
        refine g_iast (pc := 42) hK (kdm kd_216) nl_216 (by decide) (by decide) dd_X12_move_42 (by omega) (by omega) rx8 ?_
        refine g_iinc (pc := 43) (i := 4) (y := i + 1) (L' := [(0, gR 200), (1, gR 216), (2, gI 202), (3, gI 0), (4, gI (i + 1))]) hK dd_X12_move_43 rfl rfl (by decide) rfl ?_
        refine g_goto (pc := 46) (tgt := 3) hK dd_X12_move_46 (by decide) ?_
        refine g_sub (L' := [(0, gR 200), (1, gR 216), (2, gI 202), (3, gI 0), (4, gI (i + 1))]) [0, 1, 2, 3, 4] rfl ?_
        refine g_mem (M2 := cp M 216 (M 239) 202 0 (i + 1).toNat) (by rw [tn1 (by omega)]; refine Eq.trans ?_ (cp_as (dp := 0) ex_); rw [Nat.zero_add]) ?_
        exact ih2 (i + 1) (by omega) (by omega)
  refine g_mem (M2 := cp M 216 (M 239) 202 0 (0 : Int).toNat) (cp_0.symm) ?_
  refine g_sub (L' := [(0, gR 200), (1, gR 216), (2, gI 202), (3, gI 0), (4, gI 0)]) [0, 1, 2, 3, 4] rfl ?_
  exact lp3 _ 0 (by omega) (Nat.lt_succ_self _)
set_option maxHeartbeats 4000000 in
set_option maxRecDepth 100000 in
theorem d_mvk_220 {l : Launch} {M : Mem} {Pq : Option gV → Mem → Prop}  (hQ : Pq (some (gI 244)) (cp M 239 (M 220) 0 232 12)) : gCtr l my_X12_move mb_X12_move 5 ((some .int)) 1 [gR 200, gR 220, gI 232, gI 1] M Pq := by
  refine g_intro (by decide) (Nat.le_of_ble_eq_true rfl) ?_
  intro p e s m args below meth c D cy q A hK hr hlocks hw
  refine g_sub (L' := [(0, gR 200), (1, gR 220), (2, gI 232), (3, gI 1)]) [0, 1, 2, 3] rfl ?_
  refine g_iconst (pc := 0) (x := 0) hK dd_X12_move_0 (by decide) ?_
  refine g_istore (pc := 1) (i := 4) (L' := [(0, gR 200), (1, gR 220), (2, gI 232), (3, gI 1), (4, gI 0)]) hK dd_X12_move_1 (by decide) rfl ?_
  have lp3 : ∀ (n1 : Nat) (i : Int), (0 ≤ i ∧ i ≤ 12) → (12 - i).toNat < n1 → G p l e (rmD 1) s m args below meth c D cy q A 0 0 5 (MQ below (gQc D cy q A Pq) args s 0 0 A) 3 [(0, gR 200), (1, gR 220), (2, gI 232), (3, gI 1), (4, gI i)] [] (cp M 239 (M 220) 0 232 i.toNat) := by
    intro n1
    induction n1 with
    | zero => intro i iv4 hm5; exact absurd hm5 (Nat.not_lt_zero _)
    | succ n1 ih2 =>
      intro i iv4 hm5
      refine g_iload (pc := 3) (i := 4) (x := i) hK dd_X12_move_3 rfl ?_
      refine g_aloadn (pc := 5) (i := 1) (x := 220) hK dd_X12_move_5 rfl rfl ?_
      refine g_alen (pc := 6) hK (kdm kd_220) rfl dd_X12_move_6 ?_
      refine g_topv (v := gI 12) rfl ?_
      refine g_icmp_ge (pc := 7) (tgt := 49) hK dd_X12_move_7 (by decide) ⟨by omega, by omega⟩ (by decide) (fun c6 => ?_) (fun c6 => ?_)
      · refine g_iloadn (pc := 49) (i := 2) (x := 232) hK dd_X12_move_49 rfl rfl ?_
        refine g_aloadn (pc := 50) (i := 1) (x := 220) hK dd_X12_move_50 rfl rfl ?_
        refine g_alen (pc := 51) hK (kdm kd_220) rfl dd_X12_move_51 ?_
        refine g_topv (v := gI 12) rfl ?_
        refine g_iadd (pc := 52) (z := 244) hK dd_X12_move_52 rfl ?_
        refine g_iret (pc := 53) hK hr hlocks dd_X12_move_53 rfl ?_
        exact g_fin hQ (by first | rfl | omega | (subst_vars; first | rfl | omega)) (by rw [show i = 12 by omega]; rfl)
      · refine g_iloadn (pc := 10) (i := 3) (x := 1) hK dd_X12_move_10 rfl rfl ?_
        refine g_if_eq (pc := 11) (tgt := 30) hK dd_X12_move_11 (by decide) (by decide) (fun c7 => absurd c7 (by decide)) (fun _ => ?_)
        refine g_aloadn (pc := 14) (i := 0) (x := 200) hK dd_X12_move_14 rfl rfl ?_
        refine g_getv (pc := 15) (f := (1, 39)) (j := 38) (v := gR 239) hK (kdm kd_200) rfl ef_12 (by decide) rfl kk_1139 dd_X12_move_15 rfl ?_
        refine g_iloadn (pc := 18) (i := 2) (x := 232) hK dd_X12_move_18 rfl rfl ?_
        refine g_iload (pc := 19) (i := 4) (x := i) hK dd_X12_move_19 rfl ?_
        refine g_iadd (pc := 21) (z := 232 + i) hK dd_X12_move_21 rfl ?_
        refine g_aloadn (pc := 22) (i := 1) (x := 220) hK dd_X12_move_22 rfl rfl ?_
        refine g_iload (pc := 23) (i := 4) (x := i) hK dd_X12_move_23 rfl ?_
        refine g_iald (pc := 25) hK (kdm kd_220) nl_220 (by decide) dd_X12_move_25 (by omega) (by omega) (fun x8 ex8 rx8 => ?_)
        replace ex8 : x8 = M 220 i.toNat := ex8
        have ex_ : x8 = M 220 i.toNat := ex8
        refine g_iast (pc := 26) hK (kdm kd_239) nl_239 (by decide) (by decide) dd_X12_move_26 (by omega) (by omega) rx8 ?_
        refine g_goto (pc := 27) (tgt := 43) hK dd_X12_move_27 (by decide) ?_
        refine g_iinc (pc := 43) (i := 4) (y := i + 1) (L' := [(0, gR 200), (1, gR 220), (2, gI 232), (3, gI 1), (4, gI (i + 1))]) hK dd_X12_move_43 rfl rfl (by decide) rfl ?_
        refine g_goto (pc := 46) (tgt := 3) hK dd_X12_move_46 (by decide) ?_
        refine g_sub (L' := [(0, gR 200), (1, gR 220), (2, gI 232), (3, gI 1), (4, gI (i + 1))]) [0, 1, 2, 3, 4] rfl ?_
        refine g_mem (M2 := cp M 239 (M 220) 0 232 (i + 1).toNat) (by rw [tn1 (by omega), show (232 + i).toNat = 232 + i.toNat by omega]; exact cp_as (by rw [Nat.zero_add]; exact ex_)) ?_
        exact ih2 (i + 1) (by omega) (by omega)
  refine g_mem (M2 := cp M 239 (M 220) 0 232 (0 : Int).toNat) (cp_0.symm) ?_
  refine g_sub (L' := [(0, gR 200), (1, gR 220), (2, gI 232), (3, gI 1), (4, gI 0)]) [0, 1, 2, 3, 4] rfl ?_
  exact lp3 _ 0 (by omega) (Nat.lt_succ_self _)
set_option maxHeartbeats 4000000 in
set_option maxRecDepth 100000 in
theorem d_mvb_220 {l : Launch} {M : Mem} {Pq : Option gV → Mem → Prop}  (hQ : Pq (some (gI 244)) (cp M 220 (M 239) 232 0 12)) : gCtr l my_X12_move mb_X12_move 5 ((some .int)) 1 [gR 200, gR 220, gI 232, gI 0] M Pq := by
  refine g_intro (by decide) (Nat.le_of_ble_eq_true rfl) ?_
  intro p e s m args below meth c D cy q A hK hr hlocks hw
  refine g_sub (L' := [(0, gR 200), (1, gR 220), (2, gI 232), (3, gI 0)]) [0, 1, 2, 3] rfl ?_
  refine g_iconst (pc := 0) (x := 0) hK dd_X12_move_0 (by decide) ?_
  refine g_istore (pc := 1) (i := 4) (L' := [(0, gR 200), (1, gR 220), (2, gI 232), (3, gI 0), (4, gI 0)]) hK dd_X12_move_1 (by decide) rfl ?_
  have lp3 : ∀ (n1 : Nat) (i : Int), (0 ≤ i ∧ i ≤ 12) → (12 - i).toNat < n1 → G p l e (rmD 1) s m args below meth c D cy q A 0 0 5 (MQ below (gQc D cy q A Pq) args s 0 0 A) 3 [(0, gR 200), (1, gR 220), (2, gI 232), (3, gI 0), (4, gI i)] [] (cp M 220 (M 239) 232 0 i.toNat) := by
    intro n1
    induction n1 with
    | zero => intro i iv4 hm5; exact absurd hm5 (Nat.not_lt_zero _)
    | succ n1 ih2 =>
      intro i iv4 hm5
      refine g_iload (pc := 3) (i := 4) (x := i) hK dd_X12_move_3 rfl ?_
      refine g_aloadn (pc := 5) (i := 1) (x := 220) hK dd_X12_move_5 rfl rfl ?_
      refine g_alen (pc := 6) hK (kdm kd_220) rfl dd_X12_move_6 ?_
      refine g_topv (v := gI 12) rfl ?_
      refine g_icmp_ge (pc := 7) (tgt := 49) hK dd_X12_move_7 (by decide) ⟨by omega, by omega⟩ (by decide) (fun c6 => ?_) (fun c6 => ?_)
      · refine g_iloadn (pc := 49) (i := 2) (x := 232) hK dd_X12_move_49 rfl rfl ?_
        refine g_aloadn (pc := 50) (i := 1) (x := 220) hK dd_X12_move_50 rfl rfl ?_
        refine g_alen (pc := 51) hK (kdm kd_220) rfl dd_X12_move_51 ?_
        refine g_topv (v := gI 12) rfl ?_
        refine g_iadd (pc := 52) (z := 244) hK dd_X12_move_52 rfl ?_
        refine g_iret (pc := 53) hK hr hlocks dd_X12_move_53 rfl ?_
        exact g_fin hQ (by first | rfl | omega | (subst_vars; first | rfl | omega)) (by rw [show i = 12 by omega]; rfl)
      · refine g_iloadn (pc := 10) (i := 3) (x := 0) hK dd_X12_move_10 rfl rfl ?_
        refine g_if_eq (pc := 11) (tgt := 30) hK dd_X12_move_11 (by decide) (by decide) (fun _ => ?_) (fun c7 => absurd (by decide) c7)
        refine g_aloadn (pc := 30) (i := 1) (x := 220) hK dd_X12_move_30 rfl rfl ?_
        refine g_iload (pc := 31) (i := 4) (x := i) hK dd_X12_move_31 rfl ?_
        refine g_aloadn (pc := 33) (i := 0) (x := 200) hK dd_X12_move_33 rfl rfl ?_
        refine g_getv (pc := 34) (f := (1, 39)) (j := 38) (v := gR 239) hK (kdm kd_200) rfl ef_12 (by decide) rfl kk_1139 dd_X12_move_34 rfl ?_
        refine g_iloadn (pc := 37) (i := 2) (x := 232) hK dd_X12_move_37 rfl rfl ?_
        refine g_iload (pc := 38) (i := 4) (x := i) hK dd_X12_move_38 rfl ?_
        refine g_iadd (pc := 40) (z := 232 + i) hK dd_X12_move_40 rfl ?_
        refine g_iald (pc := 41) hK (kdm kd_239) nl_239 (by decide) dd_X12_move_41 (by omega) (by omega) (fun x8 ex8 rx8 => ?_)
        replace ex8 : x8 = M 239 ((232 + i).toNat) := ex8
        have ex_ : x8 = M 239 (232 + i.toNat) := by rw [ex8, show (232 + i).toNat = 232 + i.toNat by omega]
        refine g_iast (pc := 42) hK (kdm kd_220) nl_220 (by decide) (by decide) dd_X12_move_42 (by omega) (by omega) rx8 ?_
        refine g_iinc (pc := 43) (i := 4) (y := i + 1) (L' := [(0, gR 200), (1, gR 220), (2, gI 232), (3, gI 0), (4, gI (i + 1))]) hK dd_X12_move_43 rfl rfl (by decide) rfl ?_
        refine g_goto (pc := 46) (tgt := 3) hK dd_X12_move_46 (by decide) ?_
        refine g_sub (L' := [(0, gR 200), (1, gR 220), (2, gI 232), (3, gI 0), (4, gI (i + 1))]) [0, 1, 2, 3, 4] rfl ?_
        refine g_mem (M2 := cp M 220 (M 239) 232 0 (i + 1).toNat) (by rw [tn1 (by omega)]; refine Eq.trans ?_ (cp_as (dp := 0) ex_); rw [Nat.zero_add]) ?_
        exact ih2 (i + 1) (by omega) (by omega)
  refine g_mem (M2 := cp M 220 (M 239) 232 0 (0 : Int).toNat) (cp_0.symm) ?_
  refine g_sub (L' := [(0, gR 200), (1, gR 220), (2, gI 232), (3, gI 0), (4, gI 0)]) [0, 1, 2, 3, 4] rfl ?_
  exact lp3 _ 0 (by omega) (Nat.lt_succ_self _)
set_option maxHeartbeats 4000000 in
set_option maxRecDepth 100000 in
theorem d_mvk_221 {l : Launch} {M : Mem} {Pq : Option gV → Mem → Prop}  (hQ : Pq (some (gI 256)) (cp M 239 (M 221) 0 244 12)) : gCtr l my_X12_move mb_X12_move 5 ((some .int)) 1 [gR 200, gR 221, gI 244, gI 1] M Pq := by
  refine g_intro (by decide) (Nat.le_of_ble_eq_true rfl) ?_
  intro p e s m args below meth c D cy q A hK hr hlocks hw
  refine g_sub (L' := [(0, gR 200), (1, gR 221), (2, gI 244), (3, gI 1)]) [0, 1, 2, 3] rfl ?_
  refine g_iconst (pc := 0) (x := 0) hK dd_X12_move_0 (by decide) ?_
  refine g_istore (pc := 1) (i := 4) (L' := [(0, gR 200), (1, gR 221), (2, gI 244), (3, gI 1), (4, gI 0)]) hK dd_X12_move_1 (by decide) rfl ?_
  have lp3 : ∀ (n1 : Nat) (i : Int), (0 ≤ i ∧ i ≤ 12) → (12 - i).toNat < n1 → G p l e (rmD 1) s m args below meth c D cy q A 0 0 5 (MQ below (gQc D cy q A Pq) args s 0 0 A) 3 [(0, gR 200), (1, gR 221), (2, gI 244), (3, gI 1), (4, gI i)] [] (cp M 239 (M 221) 0 244 i.toNat) := by
    intro n1
    induction n1 with
    | zero => intro i iv4 hm5; exact absurd hm5 (Nat.not_lt_zero _)
    | succ n1 ih2 =>
      intro i iv4 hm5
      refine g_iload (pc := 3) (i := 4) (x := i) hK dd_X12_move_3 rfl ?_
      refine g_aloadn (pc := 5) (i := 1) (x := 221) hK dd_X12_move_5 rfl rfl ?_
      refine g_alen (pc := 6) hK (kdm kd_221) rfl dd_X12_move_6 ?_
      refine g_topv (v := gI 12) rfl ?_
      refine g_icmp_ge (pc := 7) (tgt := 49) hK dd_X12_move_7 (by decide) ⟨by omega, by omega⟩ (by decide) (fun c6 => ?_) (fun c6 => ?_)
      · refine g_iloadn (pc := 49) (i := 2) (x := 244) hK dd_X12_move_49 rfl rfl ?_
        refine g_aloadn (pc := 50) (i := 1) (x := 221) hK dd_X12_move_50 rfl rfl ?_
        refine g_alen (pc := 51) hK (kdm kd_221) rfl dd_X12_move_51 ?_
        refine g_topv (v := gI 12) rfl ?_
        refine g_iadd (pc := 52) (z := 256) hK dd_X12_move_52 rfl ?_
        refine g_iret (pc := 53) hK hr hlocks dd_X12_move_53 rfl ?_
        exact g_fin hQ (by first | rfl | omega | (subst_vars; first | rfl | omega)) (by rw [show i = 12 by omega]; rfl)
      · refine g_iloadn (pc := 10) (i := 3) (x := 1) hK dd_X12_move_10 rfl rfl ?_
        refine g_if_eq (pc := 11) (tgt := 30) hK dd_X12_move_11 (by decide) (by decide) (fun c7 => absurd c7 (by decide)) (fun _ => ?_)
        refine g_aloadn (pc := 14) (i := 0) (x := 200) hK dd_X12_move_14 rfl rfl ?_
        refine g_getv (pc := 15) (f := (1, 39)) (j := 38) (v := gR 239) hK (kdm kd_200) rfl ef_12 (by decide) rfl kk_1139 dd_X12_move_15 rfl ?_
        refine g_iloadn (pc := 18) (i := 2) (x := 244) hK dd_X12_move_18 rfl rfl ?_
        refine g_iload (pc := 19) (i := 4) (x := i) hK dd_X12_move_19 rfl ?_
        refine g_iadd (pc := 21) (z := 244 + i) hK dd_X12_move_21 rfl ?_
        refine g_aloadn (pc := 22) (i := 1) (x := 221) hK dd_X12_move_22 rfl rfl ?_
        refine g_iload (pc := 23) (i := 4) (x := i) hK dd_X12_move_23 rfl ?_
        refine g_iald (pc := 25) hK (kdm kd_221) nl_221 (by decide) dd_X12_move_25 (by omega) (by omega) (fun x8 ex8 rx8 => ?_)
        replace ex8 : x8 = M 221 i.toNat := ex8
        have ex_ : x8 = M 221 i.toNat := ex8
        refine g_iast (pc := 26) hK (kdm kd_239) nl_239 (by decide) (by decide) dd_X12_move_26 (by omega) (by omega) rx8 ?_
        refine g_goto (pc := 27) (tgt := 43) hK dd_X12_move_27 (by decide) ?_
        refine g_iinc (pc := 43) (i := 4) (y := i + 1) (L' := [(0, gR 200), (1, gR 221), (2, gI 244), (3, gI 1), (4, gI (i + 1))]) hK dd_X12_move_43 rfl rfl (by decide) rfl ?_
        refine g_goto (pc := 46) (tgt := 3) hK dd_X12_move_46 (by decide) ?_
        refine g_sub (L' := [(0, gR 200), (1, gR 221), (2, gI 244), (3, gI 1), (4, gI (i + 1))]) [0, 1, 2, 3, 4] rfl ?_
        refine g_mem (M2 := cp M 239 (M 221) 0 244 (i + 1).toNat) (by rw [tn1 (by omega), show (244 + i).toNat = 244 + i.toNat by omega]; exact cp_as (by rw [Nat.zero_add]; exact ex_)) ?_
        exact ih2 (i + 1) (by omega) (by omega)
  refine g_mem (M2 := cp M 239 (M 221) 0 244 (0 : Int).toNat) (cp_0.symm) ?_
  refine g_sub (L' := [(0, gR 200), (1, gR 221), (2, gI 244), (3, gI 1), (4, gI 0)]) [0, 1, 2, 3, 4] rfl ?_
  exact lp3 _ 0 (by omega) (Nat.lt_succ_self _)
set_option maxHeartbeats 4000000 in
set_option maxRecDepth 100000 in
theorem d_mvb_221 {l : Launch} {M : Mem} {Pq : Option gV → Mem → Prop}  (hQ : Pq (some (gI 256)) (cp M 221 (M 239) 244 0 12)) : gCtr l my_X12_move mb_X12_move 5 ((some .int)) 1 [gR 200, gR 221, gI 244, gI 0] M Pq := by
  refine g_intro (by decide) (Nat.le_of_ble_eq_true rfl) ?_
  intro p e s m args below meth c D cy q A hK hr hlocks hw
  refine g_sub (L' := [(0, gR 200), (1, gR 221), (2, gI 244), (3, gI 0)]) [0, 1, 2, 3] rfl ?_
  refine g_iconst (pc := 0) (x := 0) hK dd_X12_move_0 (by decide) ?_
  refine g_istore (pc := 1) (i := 4) (L' := [(0, gR 200), (1, gR 221), (2, gI 244), (3, gI 0), (4, gI 0)]) hK dd_X12_move_1 (by decide) rfl ?_
  have lp3 : ∀ (n1 : Nat) (i : Int), (0 ≤ i ∧ i ≤ 12) → (12 - i).toNat < n1 → G p l e (rmD 1) s m args below meth c D cy q A 0 0 5 (MQ below (gQc D cy q A Pq) args s 0 0 A) 3 [(0, gR 200), (1, gR 221), (2, gI 244), (3, gI 0), (4, gI i)] [] (cp M 221 (M 239) 244 0 i.toNat) := by
    intro n1
    induction n1 with
    | zero => intro i iv4 hm5; exact absurd hm5 (Nat.not_lt_zero _)
    | succ n1 ih2 =>
      intro i iv4 hm5
      refine g_iload (pc := 3) (i := 4) (x := i) hK dd_X12_move_3 rfl ?_
      refine g_aloadn (pc := 5) (i := 1) (x := 221) hK dd_X12_move_5 rfl rfl ?_
      refine g_alen (pc := 6) hK (kdm kd_221) rfl dd_X12_move_6 ?_
      refine g_topv (v := gI 12) rfl ?_
      refine g_icmp_ge (pc := 7) (tgt := 49) hK dd_X12_move_7 (by decide) ⟨by omega, by omega⟩ (by decide) (fun c6 => ?_) (fun c6 => ?_)
      · refine g_iloadn (pc := 49) (i := 2) (x := 244) hK dd_X12_move_49 rfl rfl ?_
        refine g_aloadn (pc := 50) (i := 1) (x := 221) hK dd_X12_move_50 rfl rfl ?_
        refine g_alen (pc := 51) hK (kdm kd_221) rfl dd_X12_move_51 ?_
        refine g_topv (v := gI 12) rfl ?_
        refine g_iadd (pc := 52) (z := 256) hK dd_X12_move_52 rfl ?_
        refine g_iret (pc := 53) hK hr hlocks dd_X12_move_53 rfl ?_
        exact g_fin hQ (by first | rfl | omega | (subst_vars; first | rfl | omega)) (by rw [show i = 12 by omega]; rfl)
      · refine g_iloadn (pc := 10) (i := 3) (x := 0) hK dd_X12_move_10 rfl rfl ?_
        refine g_if_eq (pc := 11) (tgt := 30) hK dd_X12_move_11 (by decide) (by decide) (fun _ => ?_) (fun c7 => absurd (by decide) c7)
        refine g_aloadn (pc := 30) (i := 1) (x := 221) hK dd_X12_move_30 rfl rfl ?_
        refine g_iload (pc := 31) (i := 4) (x := i) hK dd_X12_move_31 rfl ?_
        refine g_aloadn (pc := 33) (i := 0) (x := 200) hK dd_X12_move_33 rfl rfl ?_
        refine g_getv (pc := 34) (f := (1, 39)) (j := 38) (v := gR 239) hK (kdm kd_200) rfl ef_12 (by decide) rfl kk_1139 dd_X12_move_34 rfl ?_
        refine g_iloadn (pc := 37) (i := 2) (x := 244) hK dd_X12_move_37 rfl rfl ?_
        refine g_iload (pc := 38) (i := 4) (x := i) hK dd_X12_move_38 rfl ?_
        refine g_iadd (pc := 40) (z := 244 + i) hK dd_X12_move_40 rfl ?_
        refine g_iald (pc := 41) hK (kdm kd_239) nl_239 (by decide) dd_X12_move_41 (by omega) (by omega) (fun x8 ex8 rx8 => ?_)
        replace ex8 : x8 = M 239 ((244 + i).toNat) := ex8
        have ex_ : x8 = M 239 (244 + i.toNat) := by rw [ex8, show (244 + i).toNat = 244 + i.toNat by omega]
        refine g_iast (pc := 42) hK (kdm kd_221) nl_221 (by decide) (by decide) dd_X12_move_42 (by omega) (by omega) rx8 ?_
        refine g_iinc (pc := 43) (i := 4) (y := i + 1) (L' := [(0, gR 200), (1, gR 221), (2, gI 244), (3, gI 0), (4, gI (i + 1))]) hK dd_X12_move_43 rfl rfl (by decide) rfl ?_
        refine g_goto (pc := 46) (tgt := 3) hK dd_X12_move_46 (by decide) ?_
        refine g_sub (L' := [(0, gR 200), (1, gR 221), (2, gI 244), (3, gI 0), (4, gI (i + 1))]) [0, 1, 2, 3, 4] rfl ?_
        refine g_mem (M2 := cp M 221 (M 239) 244 0 (i + 1).toNat) (by rw [tn1 (by omega)]; refine Eq.trans ?_ (cp_as (dp := 0) ex_); rw [Nat.zero_add]) ?_
        exact ih2 (i + 1) (by omega) (by omega)
  refine g_mem (M2 := cp M 221 (M 239) 244 0 (0 : Int).toNat) (cp_0.symm) ?_
  refine g_sub (L' := [(0, gR 200), (1, gR 221), (2, gI 244), (3, gI 0), (4, gI 0)]) [0, 1, 2, 3, 4] rfl ?_
  exact lp3 _ 0 (by omega) (Nat.lt_succ_self _)
set_option maxHeartbeats 4000000 in
set_option maxRecDepth 100000 in
theorem d_mvk_222 {l : Launch} {M : Mem} {Pq : Option gV → Mem → Prop}  (hQ : Pq (some (gI 268)) (cp M 239 (M 222) 0 256 12)) : gCtr l my_X12_move mb_X12_move 5 ((some .int)) 1 [gR 200, gR 222, gI 256, gI 1] M Pq := by
  refine g_intro (by decide) (Nat.le_of_ble_eq_true rfl) ?_
  intro p e s m args below meth c D cy q A hK hr hlocks hw
  refine g_sub (L' := [(0, gR 200), (1, gR 222), (2, gI 256), (3, gI 1)]) [0, 1, 2, 3] rfl ?_
  refine g_iconst (pc := 0) (x := 0) hK dd_X12_move_0 (by decide) ?_
  refine g_istore (pc := 1) (i := 4) (L' := [(0, gR 200), (1, gR 222), (2, gI 256), (3, gI 1), (4, gI 0)]) hK dd_X12_move_1 (by decide) rfl ?_
  have lp3 : ∀ (n1 : Nat) (i : Int), (0 ≤ i ∧ i ≤ 12) → (12 - i).toNat < n1 → G p l e (rmD 1) s m args below meth c D cy q A 0 0 5 (MQ below (gQc D cy q A Pq) args s 0 0 A) 3 [(0, gR 200), (1, gR 222), (2, gI 256), (3, gI 1), (4, gI i)] [] (cp M 239 (M 222) 0 256 i.toNat) := by
    intro n1
    induction n1 with
    | zero => intro i iv4 hm5; exact absurd hm5 (Nat.not_lt_zero _)
    | succ n1 ih2 =>
      intro i iv4 hm5
      refine g_iload (pc := 3) (i := 4) (x := i) hK dd_X12_move_3 rfl ?_
      refine g_aloadn (pc := 5) (i := 1) (x := 222) hK dd_X12_move_5 rfl rfl ?_
      refine g_alen (pc := 6) hK (kdm kd_222) rfl dd_X12_move_6 ?_
      refine g_topv (v := gI 12) rfl ?_
      refine g_icmp_ge (pc := 7) (tgt := 49) hK dd_X12_move_7 (by decide) ⟨by omega, by omega⟩ (by decide) (fun c6 => ?_) (fun c6 => ?_)
      · refine g_iloadn (pc := 49) (i := 2) (x := 256) hK dd_X12_move_49 rfl rfl ?_
        refine g_aloadn (pc := 50) (i := 1) (x := 222) hK dd_X12_move_50 rfl rfl ?_
        refine g_alen (pc := 51) hK (kdm kd_222) rfl dd_X12_move_51 ?_
        refine g_topv (v := gI 12) rfl ?_
        refine g_iadd (pc := 52) (z := 268) hK dd_X12_move_52 rfl ?_
        refine g_iret (pc := 53) hK hr hlocks dd_X12_move_53 rfl ?_
        exact g_fin hQ (by first | rfl | omega | (subst_vars; first | rfl | omega)) (by rw [show i = 12 by omega]; rfl)
      · refine g_iloadn (pc := 10) (i := 3) (x := 1) hK dd_X12_move_10 rfl rfl ?_
        refine g_if_eq (pc := 11) (tgt := 30) hK dd_X12_move_11 (by decide) (by decide) (fun c7 => absurd c7 (by decide)) (fun _ => ?_)
        refine g_aloadn (pc := 14) (i := 0) (x := 200) hK dd_X12_move_14 rfl rfl ?_
        refine g_getv (pc := 15) (f := (1, 39)) (j := 38) (v := gR 239) hK (kdm kd_200) rfl ef_12 (by decide) rfl kk_1139 dd_X12_move_15 rfl ?_
        refine g_iloadn (pc := 18) (i := 2) (x := 256) hK dd_X12_move_18 rfl rfl ?_
        refine g_iload (pc := 19) (i := 4) (x := i) hK dd_X12_move_19 rfl ?_
        refine g_iadd (pc := 21) (z := 256 + i) hK dd_X12_move_21 rfl ?_
        refine g_aloadn (pc := 22) (i := 1) (x := 222) hK dd_X12_move_22 rfl rfl ?_
        refine g_iload (pc := 23) (i := 4) (x := i) hK dd_X12_move_23 rfl ?_
        refine g_iald (pc := 25) hK (kdm kd_222) nl_222 (by decide) dd_X12_move_25 (by omega) (by omega) (fun x8 ex8 rx8 => ?_)
        replace ex8 : x8 = M 222 i.toNat := ex8
        have ex_ : x8 = M 222 i.toNat := ex8
        refine g_iast (pc := 26) hK (kdm kd_239) nl_239 (by decide) (by decide) dd_X12_move_26 (by omega) (by omega) rx8 ?_
        refine g_goto (pc := 27) (tgt := 43) hK dd_X12_move_27 (by decide) ?_
        refine g_iinc (pc := 43) (i := 4) (y := i + 1) (L' := [(0, gR 200), (1, gR 222), (2, gI 256), (3, gI 1), (4, gI (i + 1))]) hK dd_X12_move_43 rfl rfl (by decide) rfl ?_
        refine g_goto (pc := 46) (tgt := 3) hK dd_X12_move_46 (by decide) ?_
        refine g_sub (L' := [(0, gR 200), (1, gR 222), (2, gI 256), (3, gI 1), (4, gI (i + 1))]) [0, 1, 2, 3, 4] rfl ?_
        refine g_mem (M2 := cp M 239 (M 222) 0 256 (i + 1).toNat) (by rw [tn1 (by omega), show (256 + i).toNat = 256 + i.toNat by omega]; exact cp_as (by rw [Nat.zero_add]; exact ex_)) ?_
        exact ih2 (i + 1) (by omega) (by omega)
  refine g_mem (M2 := cp M 239 (M 222) 0 256 (0 : Int).toNat) (cp_0.symm) ?_
  refine g_sub (L' := [(0, gR 200), (1, gR 222), (2, gI 256), (3, gI 1), (4, gI 0)]) [0, 1, 2, 3, 4] rfl ?_
  exact lp3 _ 0 (by omega) (Nat.lt_succ_self _)
set_option maxHeartbeats 4000000 in
set_option maxRecDepth 100000 in
theorem d_mvb_222 {l : Launch} {M : Mem} {Pq : Option gV → Mem → Prop}  (hQ : Pq (some (gI 268)) (cp M 222 (M 239) 256 0 12)) : gCtr l my_X12_move mb_X12_move 5 ((some .int)) 1 [gR 200, gR 222, gI 256, gI 0] M Pq := by
  refine g_intro (by decide) (Nat.le_of_ble_eq_true rfl) ?_
  intro p e s m args below meth c D cy q A hK hr hlocks hw
  refine g_sub (L' := [(0, gR 200), (1, gR 222), (2, gI 256), (3, gI 0)]) [0, 1, 2, 3] rfl ?_
  refine g_iconst (pc := 0) (x := 0) hK dd_X12_move_0 (by decide) ?_
  refine g_istore (pc := 1) (i := 4) (L' := [(0, gR 200), (1, gR 222), (2, gI 256), (3, gI 0), (4, gI 0)]) hK dd_X12_move_1 (by decide) rfl ?_
  have lp3 : ∀ (n1 : Nat) (i : Int), (0 ≤ i ∧ i ≤ 12) → (12 - i).toNat < n1 → G p l e (rmD 1) s m args below meth c D cy q A 0 0 5 (MQ below (gQc D cy q A Pq) args s 0 0 A) 3 [(0, gR 200), (1, gR 222), (2, gI 256), (3, gI 0), (4, gI i)] [] (cp M 222 (M 239) 256 0 i.toNat) := by
    intro n1
    induction n1 with
    | zero => intro i iv4 hm5; exact absurd hm5 (Nat.not_lt_zero _)
    | succ n1 ih2 =>
      intro i iv4 hm5
      refine g_iload (pc := 3) (i := 4) (x := i) hK dd_X12_move_3 rfl ?_
      refine g_aloadn (pc := 5) (i := 1) (x := 222) hK dd_X12_move_5 rfl rfl ?_
      refine g_alen (pc := 6) hK (kdm kd_222) rfl dd_X12_move_6 ?_
      refine g_topv (v := gI 12) rfl ?_
      refine g_icmp_ge (pc := 7) (tgt := 49) hK dd_X12_move_7 (by decide) ⟨by omega, by omega⟩ (by decide) (fun c6 => ?_) (fun c6 => ?_)
      · refine g_iloadn (pc := 49) (i := 2) (x := 256) hK dd_X12_move_49 rfl rfl ?_
        refine g_aloadn (pc := 50) (i := 1) (x := 222) hK dd_X12_move_50 rfl rfl ?_
        refine g_alen (pc := 51) hK (kdm kd_222) rfl dd_X12_move_51 ?_
        refine g_topv (v := gI 12) rfl ?_
        refine g_iadd (pc := 52) (z := 268) hK dd_X12_move_52 rfl ?_
        refine g_iret (pc := 53) hK hr hlocks dd_X12_move_53 rfl ?_
        exact g_fin hQ (by first | rfl | omega | (subst_vars; first | rfl | omega)) (by rw [show i = 12 by omega]; rfl)
      · refine g_iloadn (pc := 10) (i := 3) (x := 0) hK dd_X12_move_10 rfl rfl ?_
        refine g_if_eq (pc := 11) (tgt := 30) hK dd_X12_move_11 (by decide) (by decide) (fun _ => ?_) (fun c7 => absurd (by decide) c7)
        refine g_aloadn (pc := 30) (i := 1) (x := 222) hK dd_X12_move_30 rfl rfl ?_
        refine g_iload (pc := 31) (i := 4) (x := i) hK dd_X12_move_31 rfl ?_
        refine g_aloadn (pc := 33) (i := 0) (x := 200) hK dd_X12_move_33 rfl rfl ?_
        refine g_getv (pc := 34) (f := (1, 39)) (j := 38) (v := gR 239) hK (kdm kd_200) rfl ef_12 (by decide) rfl kk_1139 dd_X12_move_34 rfl ?_
        refine g_iloadn (pc := 37) (i := 2) (x := 256) hK dd_X12_move_37 rfl rfl ?_
        refine g_iload (pc := 38) (i := 4) (x := i) hK dd_X12_move_38 rfl ?_
        refine g_iadd (pc := 40) (z := 256 + i) hK dd_X12_move_40 rfl ?_
        refine g_iald (pc := 41) hK (kdm kd_239) nl_239 (by decide) dd_X12_move_41 (by omega) (by omega) (fun x8 ex8 rx8 => ?_)
        replace ex8 : x8 = M 239 ((256 + i).toNat) := ex8
        have ex_ : x8 = M 239 (256 + i.toNat) := by rw [ex8, show (256 + i).toNat = 256 + i.toNat by omega]
        refine g_iast (pc := 42) hK (kdm kd_222) nl_222 (by decide) (by decide) dd_X12_move_42 (by omega) (by omega) rx8 ?_
        refine g_iinc (pc := 43) (i := 4) (y := i + 1) (L' := [(0, gR 200), (1, gR 222), (2, gI 256), (3, gI 0), (4, gI (i + 1))]) hK dd_X12_move_43 rfl rfl (by decide) rfl ?_
        refine g_goto (pc := 46) (tgt := 3) hK dd_X12_move_46 (by decide) ?_
        refine g_sub (L' := [(0, gR 200), (1, gR 222), (2, gI 256), (3, gI 0), (4, gI (i + 1))]) [0, 1, 2, 3, 4] rfl ?_
        refine g_mem (M2 := cp M 222 (M 239) 256 0 (i + 1).toNat) (by rw [tn1 (by omega)]; refine Eq.trans ?_ (cp_as (dp := 0) ex_); rw [Nat.zero_add]) ?_
        exact ih2 (i + 1) (by omega) (by omega)
  refine g_mem (M2 := cp M 222 (M 239) 256 0 (0 : Int).toNat) (cp_0.symm) ?_
  refine g_sub (L' := [(0, gR 200), (1, gR 222), (2, gI 256), (3, gI 0), (4, gI 0)]) [0, 1, 2, 3, 4] rfl ?_
  exact lp3 _ 0 (by omega) (Nat.lt_succ_self _)
set_option maxHeartbeats 4000000 in
set_option maxRecDepth 100000 in
theorem d_mvk_223 {l : Launch} {M : Mem} {Pq : Option gV → Mem → Prop}  (hQ : Pq (some (gI 280)) (cp M 239 (M 223) 0 268 12)) : gCtr l my_X12_move mb_X12_move 5 ((some .int)) 1 [gR 200, gR 223, gI 268, gI 1] M Pq := by
  refine g_intro (by decide) (Nat.le_of_ble_eq_true rfl) ?_
  intro p e s m args below meth c D cy q A hK hr hlocks hw
  refine g_sub (L' := [(0, gR 200), (1, gR 223), (2, gI 268), (3, gI 1)]) [0, 1, 2, 3] rfl ?_
  refine g_iconst (pc := 0) (x := 0) hK dd_X12_move_0 (by decide) ?_
  refine g_istore (pc := 1) (i := 4) (L' := [(0, gR 200), (1, gR 223), (2, gI 268), (3, gI 1), (4, gI 0)]) hK dd_X12_move_1 (by decide) rfl ?_
  have lp3 : ∀ (n1 : Nat) (i : Int), (0 ≤ i ∧ i ≤ 12) → (12 - i).toNat < n1 → G p l e (rmD 1) s m args below meth c D cy q A 0 0 5 (MQ below (gQc D cy q A Pq) args s 0 0 A) 3 [(0, gR 200), (1, gR 223), (2, gI 268), (3, gI 1), (4, gI i)] [] (cp M 239 (M 223) 0 268 i.toNat) := by
    intro n1
    induction n1 with
    | zero => intro i iv4 hm5; exact absurd hm5 (Nat.not_lt_zero _)
    | succ n1 ih2 =>
      intro i iv4 hm5
      refine g_iload (pc := 3) (i := 4) (x := i) hK dd_X12_move_3 rfl ?_
      refine g_aloadn (pc := 5) (i := 1) (x := 223) hK dd_X12_move_5 rfl rfl ?_
      refine g_alen (pc := 6) hK (kdm kd_223) rfl dd_X12_move_6 ?_
      refine g_topv (v := gI 12) rfl ?_
      refine g_icmp_ge (pc := 7) (tgt := 49) hK dd_X12_move_7 (by decide) ⟨by omega, by omega⟩ (by decide) (fun c6 => ?_) (fun c6 => ?_)
      · refine g_iloadn (pc := 49) (i := 2) (x := 268) hK dd_X12_move_49 rfl rfl ?_
        refine g_aloadn (pc := 50) (i := 1) (x := 223) hK dd_X12_move_50 rfl rfl ?_
        refine g_alen (pc := 51) hK (kdm kd_223) rfl dd_X12_move_51 ?_
        refine g_topv (v := gI 12) rfl ?_
        refine g_iadd (pc := 52) (z := 280) hK dd_X12_move_52 rfl ?_
        refine g_iret (pc := 53) hK hr hlocks dd_X12_move_53 rfl ?_
        exact g_fin hQ (by first | rfl | omega | (subst_vars; first | rfl | omega)) (by rw [show i = 12 by omega]; rfl)
      · refine g_iloadn (pc := 10) (i := 3) (x := 1) hK dd_X12_move_10 rfl rfl ?_
        refine g_if_eq (pc := 11) (tgt := 30) hK dd_X12_move_11 (by decide) (by decide) (fun c7 => absurd c7 (by decide)) (fun _ => ?_)
        refine g_aloadn (pc := 14) (i := 0) (x := 200) hK dd_X12_move_14 rfl rfl ?_
        refine g_getv (pc := 15) (f := (1, 39)) (j := 38) (v := gR 239) hK (kdm kd_200) rfl ef_12 (by decide) rfl kk_1139 dd_X12_move_15 rfl ?_
        refine g_iloadn (pc := 18) (i := 2) (x := 268) hK dd_X12_move_18 rfl rfl ?_
        refine g_iload (pc := 19) (i := 4) (x := i) hK dd_X12_move_19 rfl ?_
        refine g_iadd (pc := 21) (z := 268 + i) hK dd_X12_move_21 rfl ?_
        refine g_aloadn (pc := 22) (i := 1) (x := 223) hK dd_X12_move_22 rfl rfl ?_
        refine g_iload (pc := 23) (i := 4) (x := i) hK dd_X12_move_23 rfl ?_
        refine g_iald (pc := 25) hK (kdm kd_223) nl_223 (by decide) dd_X12_move_25 (by omega) (by omega) (fun x8 ex8 rx8 => ?_)
        replace ex8 : x8 = M 223 i.toNat := ex8
        have ex_ : x8 = M 223 i.toNat := ex8
        refine g_iast (pc := 26) hK (kdm kd_239) nl_239 (by decide) (by decide) dd_X12_move_26 (by omega) (by omega) rx8 ?_
        refine g_goto (pc := 27) (tgt := 43) hK dd_X12_move_27 (by decide) ?_
        refine g_iinc (pc := 43) (i := 4) (y := i + 1) (L' := [(0, gR 200), (1, gR 223), (2, gI 268), (3, gI 1), (4, gI (i + 1))]) hK dd_X12_move_43 rfl rfl (by decide) rfl ?_
        refine g_goto (pc := 46) (tgt := 3) hK dd_X12_move_46 (by decide) ?_
        refine g_sub (L' := [(0, gR 200), (1, gR 223), (2, gI 268), (3, gI 1), (4, gI (i + 1))]) [0, 1, 2, 3, 4] rfl ?_
        refine g_mem (M2 := cp M 239 (M 223) 0 268 (i + 1).toNat) (by rw [tn1 (by omega), show (268 + i).toNat = 268 + i.toNat by omega]; exact cp_as (by rw [Nat.zero_add]; exact ex_)) ?_
        exact ih2 (i + 1) (by omega) (by omega)
  refine g_mem (M2 := cp M 239 (M 223) 0 268 (0 : Int).toNat) (cp_0.symm) ?_
  refine g_sub (L' := [(0, gR 200), (1, gR 223), (2, gI 268), (3, gI 1), (4, gI 0)]) [0, 1, 2, 3, 4] rfl ?_
  exact lp3 _ 0 (by omega) (Nat.lt_succ_self _)
set_option maxHeartbeats 4000000 in
set_option maxRecDepth 100000 in
theorem d_mvb_223 {l : Launch} {M : Mem} {Pq : Option gV → Mem → Prop}  (hQ : Pq (some (gI 280)) (cp M 223 (M 239) 268 0 12)) : gCtr l my_X12_move mb_X12_move 5 ((some .int)) 1 [gR 200, gR 223, gI 268, gI 0] M Pq := by
  refine g_intro (by decide) (Nat.le_of_ble_eq_true rfl) ?_
  intro p e s m args below meth c D cy q A hK hr hlocks hw
  refine g_sub (L' := [(0, gR 200), (1, gR 223), (2, gI 268), (3, gI 0)]) [0, 1, 2, 3] rfl ?_
  refine g_iconst (pc := 0) (x := 0) hK dd_X12_move_0 (by decide) ?_
  refine g_istore (pc := 1) (i := 4) (L' := [(0, gR 200), (1, gR 223), (2, gI 268), (3, gI 0), (4, gI 0)]) hK dd_X12_move_1 (by decide) rfl ?_
  have lp3 : ∀ (n1 : Nat) (i : Int), (0 ≤ i ∧ i ≤ 12) → (12 - i).toNat < n1 → G p l e (rmD 1) s m args below meth c D cy q A 0 0 5 (MQ below (gQc D cy q A Pq) args s 0 0 A) 3 [(0, gR 200), (1, gR 223), (2, gI 268), (3, gI 0), (4, gI i)] [] (cp M 223 (M 239) 268 0 i.toNat) := by
    intro n1
    induction n1 with
    | zero => intro i iv4 hm5; exact absurd hm5 (Nat.not_lt_zero _)
    | succ n1 ih2 =>
      intro i iv4 hm5
      refine g_iload (pc := 3) (i := 4) (x := i) hK dd_X12_move_3 rfl ?_
      refine g_aloadn (pc := 5) (i := 1) (x := 223) hK dd_X12_move_5 rfl rfl ?_
      refine g_alen (pc := 6) hK (kdm kd_223) rfl dd_X12_move_6 ?_
      refine g_topv (v := gI 12) rfl ?_
      refine g_icmp_ge (pc := 7) (tgt := 49) hK dd_X12_move_7 (by decide) ⟨by omega, by omega⟩ (by decide) (fun c6 => ?_) (fun c6 => ?_)
      · refine g_iloadn (pc := 49) (i := 2) (x := 268) hK dd_X12_move_49 rfl rfl ?_
        refine g_aloadn (pc := 50) (i := 1) (x := 223) hK dd_X12_move_50 rfl rfl ?_
        refine g_alen (pc := 51) hK (kdm kd_223) rfl dd_X12_move_51 ?_
        refine g_topv (v := gI 12) rfl ?_
        refine g_iadd (pc := 52) (z := 280) hK dd_X12_move_52 rfl ?_
        refine g_iret (pc := 53) hK hr hlocks dd_X12_move_53 rfl ?_
        exact g_fin hQ (by first | rfl | omega | (subst_vars; first | rfl | omega)) (by rw [show i = 12 by omega]; rfl)
      · refine g_iloadn (pc := 10) (i := 3) (x := 0) hK dd_X12_move_10 rfl rfl ?_
        refine g_if_eq (pc := 11) (tgt := 30) hK dd_X12_move_11 (by decide) (by decide) (fun _ => ?_) (fun c7 => absurd (by decide) c7)
        refine g_aloadn (pc := 30) (i := 1) (x := 223) hK dd_X12_move_30 rfl rfl ?_
        refine g_iload (pc := 31) (i := 4) (x := i) hK dd_X12_move_31 rfl ?_
        refine g_aloadn (pc := 33) (i := 0) (x := 200) hK dd_X12_move_33 rfl rfl ?_
        refine g_getv (pc := 34) (f := (1, 39)) (j := 38) (v := gR 239) hK (kdm kd_200) rfl ef_12 (by decide) rfl kk_1139 dd_X12_move_34 rfl ?_
        refine g_iloadn (pc := 37) (i := 2) (x := 268) hK dd_X12_move_37 rfl rfl ?_
        refine g_iload (pc := 38) (i := 4) (x := i) hK dd_X12_move_38 rfl ?_
        refine g_iadd (pc := 40) (z := 268 + i) hK dd_X12_move_40 rfl ?_
        refine g_iald (pc := 41) hK (kdm kd_239) nl_239 (by decide) dd_X12_move_41 (by omega) (by omega) (fun x8 ex8 rx8 => ?_)
        replace ex8 : x8 = M 239 ((268 + i).toNat) := ex8
        have ex_ : x8 = M 239 (268 + i.toNat) := by rw [ex8, show (268 + i).toNat = 268 + i.toNat by omega]
        refine g_iast (pc := 42) hK (kdm kd_223) nl_223 (by decide) (by decide) dd_X12_move_42 (by omega) (by omega) rx8 ?_
        refine g_iinc (pc := 43) (i := 4) (y := i + 1) (L' := [(0, gR 200), (1, gR 223), (2, gI 268), (3, gI 0), (4, gI (i + 1))]) hK dd_X12_move_43 rfl rfl (by decide) rfl ?_
        refine g_goto (pc := 46) (tgt := 3) hK dd_X12_move_46 (by decide) ?_
        refine g_sub (L' := [(0, gR 200), (1, gR 223), (2, gI 268), (3, gI 0), (4, gI (i + 1))]) [0, 1, 2, 3, 4] rfl ?_
        refine g_mem (M2 := cp M 223 (M 239) 268 0 (i + 1).toNat) (by rw [tn1 (by omega)]; refine Eq.trans ?_ (cp_as (dp := 0) ex_); rw [Nat.zero_add]) ?_
        exact ih2 (i + 1) (by omega) (by omega)
  refine g_mem (M2 := cp M 223 (M 239) 268 0 (0 : Int).toNat) (cp_0.symm) ?_
  refine g_sub (L' := [(0, gR 200), (1, gR 223), (2, gI 268), (3, gI 0), (4, gI 0)]) [0, 1, 2, 3, 4] rfl ?_
  exact lp3 _ 0 (by omega) (Nat.lt_succ_self _)
set_option maxHeartbeats 4000000 in
set_option maxRecDepth 100000 in
theorem d_mvk_224 {l : Launch} {M : Mem} {Pq : Option gV → Mem → Prop}  (hQ : Pq (some (gI 292)) (cp M 239 (M 224) 0 280 12)) : gCtr l my_X12_move mb_X12_move 5 ((some .int)) 1 [gR 200, gR 224, gI 280, gI 1] M Pq := by
  refine g_intro (by decide) (Nat.le_of_ble_eq_true rfl) ?_
  intro p e s m args below meth c D cy q A hK hr hlocks hw
  refine g_sub (L' := [(0, gR 200), (1, gR 224), (2, gI 280), (3, gI 1)]) [0, 1, 2, 3] rfl ?_
  refine g_iconst (pc := 0) (x := 0) hK dd_X12_move_0 (by decide) ?_
  refine g_istore (pc := 1) (i := 4) (L' := [(0, gR 200), (1, gR 224), (2, gI 280), (3, gI 1), (4, gI 0)]) hK dd_X12_move_1 (by decide) rfl ?_
  have lp3 : ∀ (n1 : Nat) (i : Int), (0 ≤ i ∧ i ≤ 12) → (12 - i).toNat < n1 → G p l e (rmD 1) s m args below meth c D cy q A 0 0 5 (MQ below (gQc D cy q A Pq) args s 0 0 A) 3 [(0, gR 200), (1, gR 224), (2, gI 280), (3, gI 1), (4, gI i)] [] (cp M 239 (M 224) 0 280 i.toNat) := by
    intro n1
    induction n1 with
    | zero => intro i iv4 hm5; exact absurd hm5 (Nat.not_lt_zero _)
    | succ n1 ih2 =>
      intro i iv4 hm5
      refine g_iload (pc := 3) (i := 4) (x := i) hK dd_X12_move_3 rfl ?_
      refine g_aloadn (pc := 5) (i := 1) (x := 224) hK dd_X12_move_5 rfl rfl ?_
      refine g_alen (pc := 6) hK (kdm kd_224) rfl dd_X12_move_6 ?_
      refine g_topv (v := gI 12) rfl ?_
      refine g_icmp_ge (pc := 7) (tgt := 49) hK dd_X12_move_7 (by decide) ⟨by omega, by omega⟩ (by decide) (fun c6 => ?_) (fun c6 => ?_)
      · refine g_iloadn (pc := 49) (i := 2) (x := 280) hK dd_X12_move_49 rfl rfl ?_
        refine g_aloadn (pc := 50) (i := 1) (x := 224) hK dd_X12_move_50 rfl rfl ?_
        refine g_alen (pc := 51) hK (kdm kd_224) rfl dd_X12_move_51 ?_
        refine g_topv (v := gI 12) rfl ?_
        refine g_iadd (pc := 52) (z := 292) hK dd_X12_move_52 rfl ?_
        refine g_iret (pc := 53) hK hr hlocks dd_X12_move_53 rfl ?_
        exact g_fin hQ (by first | rfl | omega | (subst_vars; first | rfl | omega)) (by rw [show i = 12 by omega]; rfl)
      · refine g_iloadn (pc := 10) (i := 3) (x := 1) hK dd_X12_move_10 rfl rfl ?_
        refine g_if_eq (pc := 11) (tgt := 30) hK dd_X12_move_11 (by decide) (by decide) (fun c7 => absurd c7 (by decide)) (fun _ => ?_)
        refine g_aloadn (pc := 14) (i := 0) (x := 200) hK dd_X12_move_14 rfl rfl ?_
        refine g_getv (pc := 15) (f := (1, 39)) (j := 38) (v := gR 239) hK (kdm kd_200) rfl ef_12 (by decide) rfl kk_1139 dd_X12_move_15 rfl ?_
        refine g_iloadn (pc := 18) (i := 2) (x := 280) hK dd_X12_move_18 rfl rfl ?_
        refine g_iload (pc := 19) (i := 4) (x := i) hK dd_X12_move_19 rfl ?_
        refine g_iadd (pc := 21) (z := 280 + i) hK dd_X12_move_21 rfl ?_
        refine g_aloadn (pc := 22) (i := 1) (x := 224) hK dd_X12_move_22 rfl rfl ?_
        refine g_iload (pc := 23) (i := 4) (x := i) hK dd_X12_move_23 rfl ?_
        refine g_iald (pc := 25) hK (kdm kd_224) nl_224 (by decide) dd_X12_move_25 (by omega) (by omega) (fun x8 ex8 rx8 => ?_)
        replace ex8 : x8 = M 224 i.toNat := ex8
        have ex_ : x8 = M 224 i.toNat := ex8
        refine g_iast (pc := 26) hK (kdm kd_239) nl_239 (by decide) (by decide) dd_X12_move_26 (by omega) (by omega) rx8 ?_
        refine g_goto (pc := 27) (tgt := 43) hK dd_X12_move_27 (by decide) ?_
        refine g_iinc (pc := 43) (i := 4) (y := i + 1) (L' := [(0, gR 200), (1, gR 224), (2, gI 280), (3, gI 1), (4, gI (i + 1))]) hK dd_X12_move_43 rfl rfl (by decide) rfl ?_
        refine g_goto (pc := 46) (tgt := 3) hK dd_X12_move_46 (by decide) ?_
        refine g_sub (L' := [(0, gR 200), (1, gR 224), (2, gI 280), (3, gI 1), (4, gI (i + 1))]) [0, 1, 2, 3, 4] rfl ?_
        refine g_mem (M2 := cp M 239 (M 224) 0 280 (i + 1).toNat) (by rw [tn1 (by omega), show (280 + i).toNat = 280 + i.toNat by omega]; exact cp_as (by rw [Nat.zero_add]; exact ex_)) ?_
        exact ih2 (i + 1) (by omega) (by omega)
  refine g_mem (M2 := cp M 239 (M 224) 0 280 (0 : Int).toNat) (cp_0.symm) ?_
  refine g_sub (L' := [(0, gR 200), (1, gR 224), (2, gI 280), (3, gI 1), (4, gI 0)]) [0, 1, 2, 3, 4] rfl ?_
  exact lp3 _ 0 (by omega) (Nat.lt_succ_self _)
set_option maxHeartbeats 4000000 in
set_option maxRecDepth 100000 in
theorem d_mvb_224 {l : Launch} {M : Mem} {Pq : Option gV → Mem → Prop}  (hQ : Pq (some (gI 292)) (cp M 224 (M 239) 280 0 12)) : gCtr l my_X12_move mb_X12_move 5 ((some .int)) 1 [gR 200, gR 224, gI 280, gI 0] M Pq := by
  refine g_intro (by decide) (Nat.le_of_ble_eq_true rfl) ?_
  intro p e s m args below meth c D cy q A hK hr hlocks hw
  refine g_sub (L' := [(0, gR 200), (1, gR 224), (2, gI 280), (3, gI 0)]) [0, 1, 2, 3] rfl ?_
  refine g_iconst (pc := 0) (x := 0) hK dd_X12_move_0 (by decide) ?_
  refine g_istore (pc := 1) (i := 4) (L' := [(0, gR 200), (1, gR 224), (2, gI 280), (3, gI 0), (4, gI 0)]) hK dd_X12_move_1 (by decide) rfl ?_
  have lp3 : ∀ (n1 : Nat) (i : Int), (0 ≤ i ∧ i ≤ 12) → (12 - i).toNat < n1 → G p l e (rmD 1) s m args below meth c D cy q A 0 0 5 (MQ below (gQc D cy q A Pq) args s 0 0 A) 3 [(0, gR 200), (1, gR 224), (2, gI 280), (3, gI 0), (4, gI i)] [] (cp M 224 (M 239) 280 0 i.toNat) := by
    intro n1
    induction n1 with
    | zero => intro i iv4 hm5; exact absurd hm5 (Nat.not_lt_zero _)
    | succ n1 ih2 =>
      intro i iv4 hm5
      refine g_iload (pc := 3) (i := 4) (x := i) hK dd_X12_move_3 rfl ?_
      refine g_aloadn (pc := 5) (i := 1) (x := 224) hK dd_X12_move_5 rfl rfl ?_
      refine g_alen (pc := 6) hK (kdm kd_224) rfl dd_X12_move_6 ?_
      refine g_topv (v := gI 12) rfl ?_
      refine g_icmp_ge (pc := 7) (tgt := 49) hK dd_X12_move_7 (by decide) ⟨by omega, by omega⟩ (by decide) (fun c6 => ?_) (fun c6 => ?_)
      · refine g_iloadn (pc := 49) (i := 2) (x := 280) hK dd_X12_move_49 rfl rfl ?_
        refine g_aloadn (pc := 50) (i := 1) (x := 224) hK dd_X12_move_50 rfl rfl ?_
        refine g_alen (pc := 51) hK (kdm kd_224) rfl dd_X12_move_51 ?_
        refine g_topv (v := gI 12) rfl ?_
        refine g_iadd (pc := 52) (z := 292) hK dd_X12_move_52 rfl ?_
        refine g_iret (pc := 53) hK hr hlocks dd_X12_move_53 rfl ?_
        exact g_fin hQ (by first | rfl | omega | (subst_vars; first | rfl | omega)) (by rw [show i = 12 by omega]; rfl)
      · refine g_iloadn (pc := 10) (i := 3) (x := 0) hK dd_X12_move_10 rfl rfl ?_
        refine g_if_eq (pc := 11) (tgt := 30) hK dd_X12_move_11 (by decide) (by decide) (fun _ => ?_) (fun c7 => absurd (by decide) c7)
        refine g_aloadn (pc := 30) (i := 1) (x := 224) hK dd_X12_move_30 rfl rfl ?_
        refine g_iload (pc := 31) (i := 4) (x := i) hK dd_X12_move_31 rfl ?_
        refine g_aloadn (pc := 33) (i := 0) (x := 200) hK dd_X12_move_33 rfl rfl ?_
        refine g_getv (pc := 34) (f := (1, 39)) (j := 38) (v := gR 239) hK (kdm kd_200) rfl ef_12 (by decide) rfl kk_1139 dd_X12_move_34 rfl ?_
        refine g_iloadn (pc := 37) (i := 2) (x := 280) hK dd_X12_move_37 rfl rfl ?_
        refine g_iload (pc := 38) (i := 4) (x := i) hK dd_X12_move_38 rfl ?_
        refine g_iadd (pc := 40) (z := 280 + i) hK dd_X12_move_40 rfl ?_
        refine g_iald (pc := 41) hK (kdm kd_239) nl_239 (by decide) dd_X12_move_41 (by omega) (by omega) (fun x8 ex8 rx8 => ?_)
        replace ex8 : x8 = M 239 ((280 + i).toNat) := ex8
        have ex_ : x8 = M 239 (280 + i.toNat) := by rw [ex8, show (280 + i).toNat = 280 + i.toNat by omega]
        refine g_iast (pc := 42) hK (kdm kd_224) nl_224 (by decide) (by decide) dd_X12_move_42 (by omega) (by omega) rx8 ?_
        refine g_iinc (pc := 43) (i := 4) (y := i + 1) (L' := [(0, gR 200), (1, gR 224), (2, gI 280), (3, gI 0), (4, gI (i + 1))]) hK dd_X12_move_43 rfl rfl (by decide) rfl ?_
        refine g_goto (pc := 46) (tgt := 3) hK dd_X12_move_46 (by decide) ?_
        refine g_sub (L' := [(0, gR 200), (1, gR 224), (2, gI 280), (3, gI 0), (4, gI (i + 1))]) [0, 1, 2, 3, 4] rfl ?_
        refine g_mem (M2 := cp M 224 (M 239) 280 0 (i + 1).toNat) (by rw [tn1 (by omega)]; refine Eq.trans ?_ (cp_as (dp := 0) ex_); rw [Nat.zero_add]) ?_
        exact ih2 (i + 1) (by omega) (by omega)
  refine g_mem (M2 := cp M 224 (M 239) 280 0 (0 : Int).toNat) (cp_0.symm) ?_
  refine g_sub (L' := [(0, gR 200), (1, gR 224), (2, gI 280), (3, gI 0), (4, gI 0)]) [0, 1, 2, 3, 4] rfl ?_
  exact lp3 _ 0 (by omega) (Nat.lt_succ_self _)
set_option maxHeartbeats 4000000 in
set_option maxRecDepth 100000 in
theorem d_mvk_226 {l : Launch} {M : Mem} {Pq : Option gV → Mem → Prop}  (hQ : Pq (some (gI 297)) (cp M 239 (M 226) 0 292 5)) : gCtr l my_X12_move mb_X12_move 5 ((some .int)) 1 [gR 200, gR 226, gI 292, gI 1] M Pq := by
  refine g_intro (by decide) (Nat.le_of_ble_eq_true rfl) ?_
  intro p e s m args below meth c D cy q A hK hr hlocks hw
  refine g_sub (L' := [(0, gR 200), (1, gR 226), (2, gI 292), (3, gI 1)]) [0, 1, 2, 3] rfl ?_
  refine g_iconst (pc := 0) (x := 0) hK dd_X12_move_0 (by decide) ?_
  refine g_istore (pc := 1) (i := 4) (L' := [(0, gR 200), (1, gR 226), (2, gI 292), (3, gI 1), (4, gI 0)]) hK dd_X12_move_1 (by decide) rfl ?_
  have lp3 : ∀ (n1 : Nat) (i : Int), (0 ≤ i ∧ i ≤ 5) → (5 - i).toNat < n1 → G p l e (rmD 1) s m args below meth c D cy q A 0 0 5 (MQ below (gQc D cy q A Pq) args s 0 0 A) 3 [(0, gR 200), (1, gR 226), (2, gI 292), (3, gI 1), (4, gI i)] [] (cp M 239 (M 226) 0 292 i.toNat) := by
    intro n1
    induction n1 with
    | zero => intro i iv4 hm5; exact absurd hm5 (Nat.not_lt_zero _)
    | succ n1 ih2 =>
      intro i iv4 hm5
      refine g_iload (pc := 3) (i := 4) (x := i) hK dd_X12_move_3 rfl ?_
      refine g_aloadn (pc := 5) (i := 1) (x := 226) hK dd_X12_move_5 rfl rfl ?_
      refine g_alen (pc := 6) hK (kdm kd_226) rfl dd_X12_move_6 ?_
      refine g_topv (v := gI 5) rfl ?_
      refine g_icmp_ge (pc := 7) (tgt := 49) hK dd_X12_move_7 (by decide) ⟨by omega, by omega⟩ (by decide) (fun c6 => ?_) (fun c6 => ?_)
      · refine g_iloadn (pc := 49) (i := 2) (x := 292) hK dd_X12_move_49 rfl rfl ?_
        refine g_aloadn (pc := 50) (i := 1) (x := 226) hK dd_X12_move_50 rfl rfl ?_
        refine g_alen (pc := 51) hK (kdm kd_226) rfl dd_X12_move_51 ?_
        refine g_topv (v := gI 5) rfl ?_
        refine g_iadd (pc := 52) (z := 297) hK dd_X12_move_52 rfl ?_
        refine g_iret (pc := 53) hK hr hlocks dd_X12_move_53 rfl ?_
        exact g_fin hQ (by first | rfl | omega | (subst_vars; first | rfl | omega)) (by rw [show i = 5 by omega]; rfl)
      · refine g_iloadn (pc := 10) (i := 3) (x := 1) hK dd_X12_move_10 rfl rfl ?_
        refine g_if_eq (pc := 11) (tgt := 30) hK dd_X12_move_11 (by decide) (by decide) (fun c7 => absurd c7 (by decide)) (fun _ => ?_)
        refine g_aloadn (pc := 14) (i := 0) (x := 200) hK dd_X12_move_14 rfl rfl ?_
        refine g_getv (pc := 15) (f := (1, 39)) (j := 38) (v := gR 239) hK (kdm kd_200) rfl ef_12 (by decide) rfl kk_1139 dd_X12_move_15 rfl ?_
        refine g_iloadn (pc := 18) (i := 2) (x := 292) hK dd_X12_move_18 rfl rfl ?_
        refine g_iload (pc := 19) (i := 4) (x := i) hK dd_X12_move_19 rfl ?_
        refine g_iadd (pc := 21) (z := 292 + i) hK dd_X12_move_21 rfl ?_
        refine g_aloadn (pc := 22) (i := 1) (x := 226) hK dd_X12_move_22 rfl rfl ?_
        refine g_iload (pc := 23) (i := 4) (x := i) hK dd_X12_move_23 rfl ?_
        refine g_iald (pc := 25) hK (kdm kd_226) nl_226 (by decide) dd_X12_move_25 (by omega) (by omega) (fun x8 ex8 rx8 => ?_)
        replace ex8 : x8 = M 226 i.toNat := ex8
        have ex_ : x8 = M 226 i.toNat := ex8
        refine g_iast (pc := 26) hK (kdm kd_239) nl_239 (by decide) (by decide) dd_X12_move_26 (by omega) (by omega) rx8 ?_
        refine g_goto (pc := 27) (tgt := 43) hK dd_X12_move_27 (by decide) ?_
        refine g_iinc (pc := 43) (i := 4) (y := i + 1) (L' := [(0, gR 200), (1, gR 226), (2, gI 292), (3, gI 1), (4, gI (i + 1))]) hK dd_X12_move_43 rfl rfl (by decide) rfl ?_
        refine g_goto (pc := 46) (tgt := 3) hK dd_X12_move_46 (by decide) ?_
        refine g_sub (L' := [(0, gR 200), (1, gR 226), (2, gI 292), (3, gI 1), (4, gI (i + 1))]) [0, 1, 2, 3, 4] rfl ?_
        refine g_mem (M2 := cp M 239 (M 226) 0 292 (i + 1).toNat) (by rw [tn1 (by omega), show (292 + i).toNat = 292 + i.toNat by omega]; exact cp_as (by rw [Nat.zero_add]; exact ex_)) ?_
        exact ih2 (i + 1) (by omega) (by omega)
  refine g_mem (M2 := cp M 239 (M 226) 0 292 (0 : Int).toNat) (cp_0.symm) ?_
  refine g_sub (L' := [(0, gR 200), (1, gR 226), (2, gI 292), (3, gI 1), (4, gI 0)]) [0, 1, 2, 3, 4] rfl ?_
  exact lp3 _ 0 (by omega) (Nat.lt_succ_self _)
set_option maxHeartbeats 4000000 in
set_option maxRecDepth 100000 in
theorem d_mvb_226 {l : Launch} {M : Mem} {Pq : Option gV → Mem → Prop}  (hQ : Pq (some (gI 297)) (cp M 226 (M 239) 292 0 5)) : gCtr l my_X12_move mb_X12_move 5 ((some .int)) 1 [gR 200, gR 226, gI 292, gI 0] M Pq := by
  refine g_intro (by decide) (Nat.le_of_ble_eq_true rfl) ?_
  intro p e s m args below meth c D cy q A hK hr hlocks hw
  refine g_sub (L' := [(0, gR 200), (1, gR 226), (2, gI 292), (3, gI 0)]) [0, 1, 2, 3] rfl ?_
  refine g_iconst (pc := 0) (x := 0) hK dd_X12_move_0 (by decide) ?_
  refine g_istore (pc := 1) (i := 4) (L' := [(0, gR 200), (1, gR 226), (2, gI 292), (3, gI 0), (4, gI 0)]) hK dd_X12_move_1 (by decide) rfl ?_
  have lp3 : ∀ (n1 : Nat) (i : Int), (0 ≤ i ∧ i ≤ 5) → (5 - i).toNat < n1 → G p l e (rmD 1) s m args below meth c D cy q A 0 0 5 (MQ below (gQc D cy q A Pq) args s 0 0 A) 3 [(0, gR 200), (1, gR 226), (2, gI 292), (3, gI 0), (4, gI i)] [] (cp M 226 (M 239) 292 0 i.toNat) := by
    intro n1
    induction n1 with
    | zero => intro i iv4 hm5; exact absurd hm5 (Nat.not_lt_zero _)
    | succ n1 ih2 =>
      intro i iv4 hm5
      refine g_iload (pc := 3) (i := 4) (x := i) hK dd_X12_move_3 rfl ?_
      refine g_aloadn (pc := 5) (i := 1) (x := 226) hK dd_X12_move_5 rfl rfl ?_
      refine g_alen (pc := 6) hK (kdm kd_226) rfl dd_X12_move_6 ?_
      refine g_topv (v := gI 5) rfl ?_
      refine g_icmp_ge (pc := 7) (tgt := 49) hK dd_X12_move_7 (by decide) ⟨by omega, by omega⟩ (by decide) (fun c6 => ?_) (fun c6 => ?_)
      · refine g_iloadn (pc := 49) (i := 2) (x := 292) hK dd_X12_move_49 rfl rfl ?_
        refine g_aloadn (pc := 50) (i := 1) (x := 226) hK dd_X12_move_50 rfl rfl ?_
        refine g_alen (pc := 51) hK (kdm kd_226) rfl dd_X12_move_51 ?_
        refine g_topv (v := gI 5) rfl ?_
        refine g_iadd (pc := 52) (z := 297) hK dd_X12_move_52 rfl ?_
        refine g_iret (pc := 53) hK hr hlocks dd_X12_move_53 rfl ?_
        exact g_fin hQ (by first | rfl | omega | (subst_vars; first | rfl | omega)) (by rw [show i = 5 by omega]; rfl)
      · refine g_iloadn (pc := 10) (i := 3) (x := 0) hK dd_X12_move_10 rfl rfl ?_
        refine g_if_eq (pc := 11) (tgt := 30) hK dd_X12_move_11 (by decide) (by decide) (fun _ => ?_) (fun c7 => absurd (by decide) c7)
        refine g_aloadn (pc := 30) (i := 1) (x := 226) hK dd_X12_move_30 rfl rfl ?_
        refine g_iload (pc := 31) (i := 4) (x := i) hK dd_X12_move_31 rfl ?_
        refine g_aloadn (pc := 33) (i := 0) (x := 200) hK dd_X12_move_33 rfl rfl ?_
        refine g_getv (pc := 34) (f := (1, 39)) (j := 38) (v := gR 239) hK (kdm kd_200) rfl ef_12 (by decide) rfl kk_1139 dd_X12_move_34 rfl ?_
        refine g_iloadn (pc := 37) (i := 2) (x := 292) hK dd_X12_move_37 rfl rfl ?_
        refine g_iload (pc := 38) (i := 4) (x := i) hK dd_X12_move_38 rfl ?_
        refine g_iadd (pc := 40) (z := 292 + i) hK dd_X12_move_40 rfl ?_
        refine g_iald (pc := 41) hK (kdm kd_239) nl_239 (by decide) dd_X12_move_41 (by omega) (by omega) (fun x8 ex8 rx8 => ?_)
        replace ex8 : x8 = M 239 ((292 + i).toNat) := ex8
        have ex_ : x8 = M 239 (292 + i.toNat) := by rw [ex8, show (292 + i).toNat = 292 + i.toNat by omega]
        refine g_iast (pc := 42) hK (kdm kd_226) nl_226 (by decide) (by decide) dd_X12_move_42 (by omega) (by omega) rx8 ?_
        refine g_iinc (pc := 43) (i := 4) (y := i + 1) (L' := [(0, gR 200), (1, gR 226), (2, gI 292), (3, gI 0), (4, gI (i + 1))]) hK dd_X12_move_43 rfl rfl (by decide) rfl ?_
        refine g_goto (pc := 46) (tgt := 3) hK dd_X12_move_46 (by decide) ?_
        refine g_sub (L' := [(0, gR 200), (1, gR 226), (2, gI 292), (3, gI 0), (4, gI (i + 1))]) [0, 1, 2, 3, 4] rfl ?_
        refine g_mem (M2 := cp M 226 (M 239) 292 0 (i + 1).toNat) (by rw [tn1 (by omega)]; refine Eq.trans ?_ (cp_as (dp := 0) ex_); rw [Nat.zero_add]) ?_
        exact ih2 (i + 1) (by omega) (by omega)
  refine g_mem (M2 := cp M 226 (M 239) 292 0 (0 : Int).toNat) (cp_0.symm) ?_
  refine g_sub (L' := [(0, gR 200), (1, gR 226), (2, gI 292), (3, gI 0), (4, gI 0)]) [0, 1, 2, 3, 4] rfl ?_
  exact lp3 _ 0 (by omega) (Nat.lt_succ_self _)
set_option maxHeartbeats 4000000 in
set_option maxRecDepth 100000 in
theorem d_mvk_228 {l : Launch} {M : Mem} {Pq : Option gV → Mem → Prop}  (hQ : Pq (some (gI 317)) (cp M 239 (M 228) 0 297 20)) : gCtr l my_X12_move mb_X12_move 5 ((some .int)) 1 [gR 200, gR 228, gI 297, gI 1] M Pq := by
  refine g_intro (by decide) (Nat.le_of_ble_eq_true rfl) ?_
  intro p e s m args below meth c D cy q A hK hr hlocks hw
  refine g_sub (L' := [(0, gR 200), (1, gR 228), (2, gI 297), (3, gI 1)]) [0, 1, 2, 3] rfl ?_
  refine g_iconst (pc := 0) (x := 0) hK dd_X12_move_0 (by decide) ?_
  refine g_istore (pc := 1) (i := 4) (L' := [(0, gR 200), (1, gR 228), (2, gI 297), (3, gI 1), (4, gI 0)]) hK dd_X12_move_1 (by decide) rfl ?_
  have lp3 : ∀ (n1 : Nat) (i : Int), (0 ≤ i ∧ i ≤ 20) → (20 - i).toNat < n1 → G p l e (rmD 1) s m args below meth c D cy q A 0 0 5 (MQ below (gQc D cy q A Pq) args s 0 0 A) 3 [(0, gR 200), (1, gR 228), (2, gI 297), (3, gI 1), (4, gI i)] [] (cp M 239 (M 228) 0 297 i.toNat) := by
    intro n1
    induction n1 with
    | zero => intro i iv4 hm5; exact absurd hm5 (Nat.not_lt_zero _)
    | succ n1 ih2 =>
      intro i iv4 hm5
      refine g_iload (pc := 3) (i := 4) (x := i) hK dd_X12_move_3 rfl ?_
      refine g_aloadn (pc := 5) (i := 1) (x := 228) hK dd_X12_move_5 rfl rfl ?_
      refine g_alen (pc := 6) hK (kdm kd_228) rfl dd_X12_move_6 ?_
      refine g_topv (v := gI 20) rfl ?_
      refine g_icmp_ge (pc := 7) (tgt := 49) hK dd_X12_move_7 (by decide) ⟨by omega, by omega⟩ (by decide) (fun c6 => ?_) (fun c6 => ?_)
      · refine g_iloadn (pc := 49) (i := 2) (x := 297) hK dd_X12_move_49 rfl rfl ?_
        refine g_aloadn (pc := 50) (i := 1) (x := 228) hK dd_X12_move_50 rfl rfl ?_
        refine g_alen (pc := 51) hK (kdm kd_228) rfl dd_X12_move_51 ?_
        refine g_topv (v := gI 20) rfl ?_
        refine g_iadd (pc := 52) (z := 317) hK dd_X12_move_52 rfl ?_
        refine g_iret (pc := 53) hK hr hlocks dd_X12_move_53 rfl ?_
        exact g_fin hQ (by first | rfl | omega | (subst_vars; first | rfl | omega)) (by rw [show i = 20 by omega]; rfl)
      · refine g_iloadn (pc := 10) (i := 3) (x := 1) hK dd_X12_move_10 rfl rfl ?_
        refine g_if_eq (pc := 11) (tgt := 30) hK dd_X12_move_11 (by decide) (by decide) (fun c7 => absurd c7 (by decide)) (fun _ => ?_)
        refine g_aloadn (pc := 14) (i := 0) (x := 200) hK dd_X12_move_14 rfl rfl ?_
        refine g_getv (pc := 15) (f := (1, 39)) (j := 38) (v := gR 239) hK (kdm kd_200) rfl ef_12 (by decide) rfl kk_1139 dd_X12_move_15 rfl ?_
        refine g_iloadn (pc := 18) (i := 2) (x := 297) hK dd_X12_move_18 rfl rfl ?_
        refine g_iload (pc := 19) (i := 4) (x := i) hK dd_X12_move_19 rfl ?_
        refine g_iadd (pc := 21) (z := 297 + i) hK dd_X12_move_21 rfl ?_
        refine g_aloadn (pc := 22) (i := 1) (x := 228) hK dd_X12_move_22 rfl rfl ?_
        refine g_iload (pc := 23) (i := 4) (x := i) hK dd_X12_move_23 rfl ?_
        refine g_iald (pc := 25) hK (kdm kd_228) nl_228 (by decide) dd_X12_move_25 (by omega) (by omega) (fun x8 ex8 rx8 => ?_)
        replace ex8 : x8 = M 228 i.toNat := ex8
        have ex_ : x8 = M 228 i.toNat := ex8
        refine g_iast (pc := 26) hK (kdm kd_239) nl_239 (by decide) (by decide) dd_X12_move_26 (by omega) (by omega) rx8 ?_
        refine g_goto (pc := 27) (tgt := 43) hK dd_X12_move_27 (by decide) ?_
        refine g_iinc (pc := 43) (i := 4) (y := i + 1) (L' := [(0, gR 200), (1, gR 228), (2, gI 297), (3, gI 1), (4, gI (i + 1))]) hK dd_X12_move_43 rfl rfl (by decide) rfl ?_
        refine g_goto (pc := 46) (tgt := 3) hK dd_X12_move_46 (by decide) ?_
        refine g_sub (L' := [(0, gR 200), (1, gR 228), (2, gI 297), (3, gI 1), (4, gI (i + 1))]) [0, 1, 2, 3, 4] rfl ?_
        refine g_mem (M2 := cp M 239 (M 228) 0 297 (i + 1).toNat) (by rw [tn1 (by omega), show (297 + i).toNat = 297 + i.toNat by omega]; exact cp_as (by rw [Nat.zero_add]; exact ex_)) ?_
        exact ih2 (i + 1) (by omega) (by omega)
  refine g_mem (M2 := cp M 239 (M 228) 0 297 (0 : Int).toNat) (cp_0.symm) ?_
  refine g_sub (L' := [(0, gR 200), (1, gR 228), (2, gI 297), (3, gI 1), (4, gI 0)]) [0, 1, 2, 3, 4] rfl ?_
  exact lp3 _ 0 (by omega) (Nat.lt_succ_self _)
set_option maxHeartbeats 4000000 in
set_option maxRecDepth 100000 in
theorem d_mvb_228 {l : Launch} {M : Mem} {Pq : Option gV → Mem → Prop}  (hQ : Pq (some (gI 317)) (cp M 228 (M 239) 297 0 20)) : gCtr l my_X12_move mb_X12_move 5 ((some .int)) 1 [gR 200, gR 228, gI 297, gI 0] M Pq := by
  refine g_intro (by decide) (Nat.le_of_ble_eq_true rfl) ?_
  intro p e s m args below meth c D cy q A hK hr hlocks hw
  refine g_sub (L' := [(0, gR 200), (1, gR 228), (2, gI 297), (3, gI 0)]) [0, 1, 2, 3] rfl ?_
  refine g_iconst (pc := 0) (x := 0) hK dd_X12_move_0 (by decide) ?_
  refine g_istore (pc := 1) (i := 4) (L' := [(0, gR 200), (1, gR 228), (2, gI 297), (3, gI 0), (4, gI 0)]) hK dd_X12_move_1 (by decide) rfl ?_
  have lp3 : ∀ (n1 : Nat) (i : Int), (0 ≤ i ∧ i ≤ 20) → (20 - i).toNat < n1 → G p l e (rmD 1) s m args below meth c D cy q A 0 0 5 (MQ below (gQc D cy q A Pq) args s 0 0 A) 3 [(0, gR 200), (1, gR 228), (2, gI 297), (3, gI 0), (4, gI i)] [] (cp M 228 (M 239) 297 0 i.toNat) := by
    intro n1
    induction n1 with
    | zero => intro i iv4 hm5; exact absurd hm5 (Nat.not_lt_zero _)
    | succ n1 ih2 =>
      intro i iv4 hm5
      refine g_iload (pc := 3) (i := 4) (x := i) hK dd_X12_move_3 rfl ?_
      refine g_aloadn (pc := 5) (i := 1) (x := 228) hK dd_X12_move_5 rfl rfl ?_
      refine g_alen (pc := 6) hK (kdm kd_228) rfl dd_X12_move_6 ?_
      refine g_topv (v := gI 20) rfl ?_
      refine g_icmp_ge (pc := 7) (tgt := 49) hK dd_X12_move_7 (by decide) ⟨by omega, by omega⟩ (by decide) (fun c6 => ?_) (fun c6 => ?_)
      · refine g_iloadn (pc := 49) (i := 2) (x := 297) hK dd_X12_move_49 rfl rfl ?_
        refine g_aloadn (pc := 50) (i := 1) (x := 228) hK dd_X12_move_50 rfl rfl ?_
        refine g_alen (pc := 51) hK (kdm kd_228) rfl dd_X12_move_51 ?_
        refine g_topv (v := gI 20) rfl ?_
        refine g_iadd (pc := 52) (z := 317) hK dd_X12_move_52 rfl ?_
        refine g_iret (pc := 53) hK hr hlocks dd_X12_move_53 rfl ?_
        exact g_fin hQ (by first | rfl | omega | (subst_vars; first | rfl | omega)) (by rw [show i = 20 by omega]; rfl)
      · refine g_iloadn (pc := 10) (i := 3) (x := 0) hK dd_X12_move_10 rfl rfl ?_
        refine g_if_eq (pc := 11) (tgt := 30) hK dd_X12_move_11 (by decide) (by decide) (fun _ => ?_) (fun c7 => absurd (by decide) c7)
        refine g_aloadn (pc := 30) (i := 1) (x := 228) hK dd_X12_move_30 rfl rfl ?_
        refine g_iload (pc := 31) (i := 4) (x := i) hK dd_X12_move_31 rfl ?_
        refine g_aloadn (pc := 33) (i := 0) (x := 200) hK dd_X12_move_33 rfl rfl ?_
        refine g_getv (pc := 34) (f := (1, 39)) (j := 38) (v := gR 239) hK (kdm kd_200) rfl ef_12 (by decide) rfl kk_1139 dd_X12_move_34 rfl ?_
        refine g_iloadn (pc := 37) (i := 2) (x := 297) hK dd_X12_move_37 rfl rfl ?_
        refine g_iload (pc := 38) (i := 4) (x := i) hK dd_X12_move_38 rfl ?_
        refine g_iadd (pc := 40) (z := 297 + i) hK dd_X12_move_40 rfl ?_
        refine g_iald (pc := 41) hK (kdm kd_239) nl_239 (by decide) dd_X12_move_41 (by omega) (by omega) (fun x8 ex8 rx8 => ?_)
        replace ex8 : x8 = M 239 ((297 + i).toNat) := ex8
        have ex_ : x8 = M 239 (297 + i.toNat) := by rw [ex8, show (297 + i).toNat = 297 + i.toNat by omega]
        refine g_iast (pc := 42) hK (kdm kd_228) nl_228 (by decide) (by decide) dd_X12_move_42 (by omega) (by omega) rx8 ?_
        refine g_iinc (pc := 43) (i := 4) (y := i + 1) (L' := [(0, gR 200), (1, gR 228), (2, gI 297), (3, gI 0), (4, gI (i + 1))]) hK dd_X12_move_43 rfl rfl (by decide) rfl ?_
        refine g_goto (pc := 46) (tgt := 3) hK dd_X12_move_46 (by decide) ?_
        refine g_sub (L' := [(0, gR 200), (1, gR 228), (2, gI 297), (3, gI 0), (4, gI (i + 1))]) [0, 1, 2, 3, 4] rfl ?_
        refine g_mem (M2 := cp M 228 (M 239) 297 0 (i + 1).toNat) (by rw [tn1 (by omega)]; refine Eq.trans ?_ (cp_as (dp := 0) ex_); rw [Nat.zero_add]) ?_
        exact ih2 (i + 1) (by omega) (by omega)
  refine g_mem (M2 := cp M 228 (M 239) 297 0 (0 : Int).toNat) (cp_0.symm) ?_
  refine g_sub (L' := [(0, gR 200), (1, gR 228), (2, gI 297), (3, gI 0), (4, gI 0)]) [0, 1, 2, 3, 4] rfl ?_
  exact lp3 _ 0 (by omega) (Nat.lt_succ_self _)
set_option maxHeartbeats 4000000 in
set_option maxRecDepth 100000 in
theorem d_mvk_229 {l : Launch} {M : Mem} {Pq : Option gV → Mem → Prop}  (hQ : Pq (some (gI 337)) (cp M 239 (M 229) 0 317 20)) : gCtr l my_X12_move mb_X12_move 5 ((some .int)) 1 [gR 200, gR 229, gI 317, gI 1] M Pq := by
  refine g_intro (by decide) (Nat.le_of_ble_eq_true rfl) ?_
  intro p e s m args below meth c D cy q A hK hr hlocks hw
  refine g_sub (L' := [(0, gR 200), (1, gR 229), (2, gI 317), (3, gI 1)]) [0, 1, 2, 3] rfl ?_
  refine g_iconst (pc := 0) (x := 0) hK dd_X12_move_0 (by decide) ?_
  refine g_istore (pc := 1) (i := 4) (L' := [(0, gR 200), (1, gR 229), (2, gI 317), (3, gI 1), (4, gI 0)]) hK dd_X12_move_1 (by decide) rfl ?_
  have lp3 : ∀ (n1 : Nat) (i : Int), (0 ≤ i ∧ i ≤ 20) → (20 - i).toNat < n1 → G p l e (rmD 1) s m args below meth c D cy q A 0 0 5 (MQ below (gQc D cy q A Pq) args s 0 0 A) 3 [(0, gR 200), (1, gR 229), (2, gI 317), (3, gI 1), (4, gI i)] [] (cp M 239 (M 229) 0 317 i.toNat) := by
    intro n1
    induction n1 with
    | zero => intro i iv4 hm5; exact absurd hm5 (Nat.not_lt_zero _)
    | succ n1 ih2 =>
      intro i iv4 hm5
      refine g_iload (pc := 3) (i := 4) (x := i) hK dd_X12_move_3 rfl ?_
      refine g_aloadn (pc := 5) (i := 1) (x := 229) hK dd_X12_move_5 rfl rfl ?_
      refine g_alen (pc := 6) hK (kdm kd_229) rfl dd_X12_move_6 ?_
      refine g_topv (v := gI 20) rfl ?_
      refine g_icmp_ge (pc := 7) (tgt := 49) hK dd_X12_move_7 (by decide) ⟨by omega, by omega⟩ (by decide) (fun c6 => ?_) (fun c6 => ?_)
      · refine g_iloadn (pc := 49) (i := 2) (x := 317) hK dd_X12_move_49 rfl rfl ?_
        refine g_aloadn (pc := 50) (i := 1) (x := 229) hK dd_X12_move_50 rfl rfl ?_
        refine g_alen (pc := 51) hK (kdm kd_229) rfl dd_X12_move_51 ?_
        refine g_topv (v := gI 20) rfl ?_
        refine g_iadd (pc := 52) (z := 337) hK dd_X12_move_52 rfl ?_
        refine g_iret (pc := 53) hK hr hlocks dd_X12_move_53 rfl ?_
        exact g_fin hQ (by first | rfl | omega | (subst_vars; first | rfl | omega)) (by rw [show i = 20 by omega]; rfl)
      · refine g_iloadn (pc := 10) (i := 3) (x := 1) hK dd_X12_move_10 rfl rfl ?_
        refine g_if_eq (pc := 11) (tgt := 30) hK dd_X12_move_11 (by decide) (by decide) (fun c7 => absurd c7 (by decide)) (fun _ => ?_)
        refine g_aloadn (pc := 14) (i := 0) (x := 200) hK dd_X12_move_14 rfl rfl ?_
        refine g_getv (pc := 15) (f := (1, 39)) (j := 38) (v := gR 239) hK (kdm kd_200) rfl ef_12 (by decide) rfl kk_1139 dd_X12_move_15 rfl ?_
        refine g_iloadn (pc := 18) (i := 2) (x := 317) hK dd_X12_move_18 rfl rfl ?_
        refine g_iload (pc := 19) (i := 4) (x := i) hK dd_X12_move_19 rfl ?_
        refine g_iadd (pc := 21) (z := 317 + i) hK dd_X12_move_21 rfl ?_
        refine g_aloadn (pc := 22) (i := 1) (x := 229) hK dd_X12_move_22 rfl rfl ?_
        refine g_iload (pc := 23) (i := 4) (x := i) hK dd_X12_move_23 rfl ?_
        refine g_iald (pc := 25) hK (kdm kd_229) nl_229 (by decide) dd_X12_move_25 (by omega) (by omega) (fun x8 ex8 rx8 => ?_)
        replace ex8 : x8 = M 229 i.toNat := ex8
        have ex_ : x8 = M 229 i.toNat := ex8
        refine g_iast (pc := 26) hK (kdm kd_239) nl_239 (by decide) (by decide) dd_X12_move_26 (by omega) (by omega) rx8 ?_
        refine g_goto (pc := 27) (tgt := 43) hK dd_X12_move_27 (by decide) ?_
        refine g_iinc (pc := 43) (i := 4) (y := i + 1) (L' := [(0, gR 200), (1, gR 229), (2, gI 317), (3, gI 1), (4, gI (i + 1))]) hK dd_X12_move_43 rfl rfl (by decide) rfl ?_
        refine g_goto (pc := 46) (tgt := 3) hK dd_X12_move_46 (by decide) ?_
        refine g_sub (L' := [(0, gR 200), (1, gR 229), (2, gI 317), (3, gI 1), (4, gI (i + 1))]) [0, 1, 2, 3, 4] rfl ?_
        refine g_mem (M2 := cp M 239 (M 229) 0 317 (i + 1).toNat) (by rw [tn1 (by omega), show (317 + i).toNat = 317 + i.toNat by omega]; exact cp_as (by rw [Nat.zero_add]; exact ex_)) ?_
        exact ih2 (i + 1) (by omega) (by omega)
  refine g_mem (M2 := cp M 239 (M 229) 0 317 (0 : Int).toNat) (cp_0.symm) ?_
  refine g_sub (L' := [(0, gR 200), (1, gR 229), (2, gI 317), (3, gI 1), (4, gI 0)]) [0, 1, 2, 3, 4] rfl ?_
  exact lp3 _ 0 (by omega) (Nat.lt_succ_self _)
set_option maxHeartbeats 4000000 in
set_option maxRecDepth 100000 in
theorem d_mvb_229 {l : Launch} {M : Mem} {Pq : Option gV → Mem → Prop}  (hQ : Pq (some (gI 337)) (cp M 229 (M 239) 317 0 20)) : gCtr l my_X12_move mb_X12_move 5 ((some .int)) 1 [gR 200, gR 229, gI 317, gI 0] M Pq := by
  refine g_intro (by decide) (Nat.le_of_ble_eq_true rfl) ?_
  intro p e s m args below meth c D cy q A hK hr hlocks hw
  refine g_sub (L' := [(0, gR 200), (1, gR 229), (2, gI 317), (3, gI 0)]) [0, 1, 2, 3] rfl ?_
  refine g_iconst (pc := 0) (x := 0) hK dd_X12_move_0 (by decide) ?_
  refine g_istore (pc := 1) (i := 4) (L' := [(0, gR 200), (1, gR 229), (2, gI 317), (3, gI 0), (4, gI 0)]) hK dd_X12_move_1 (by decide) rfl ?_
  have lp3 : ∀ (n1 : Nat) (i : Int), (0 ≤ i ∧ i ≤ 20) → (20 - i).toNat < n1 → G p l e (rmD 1) s m args below meth c D cy q A 0 0 5 (MQ below (gQc D cy q A Pq) args s 0 0 A) 3 [(0, gR 200), (1, gR 229), (2, gI 317), (3, gI 0), (4, gI i)] [] (cp M 229 (M 239) 317 0 i.toNat) := by
    intro n1
    induction n1 with
    | zero => intro i iv4 hm5; exact absurd hm5 (Nat.not_lt_zero _)
    | succ n1 ih2 =>
      intro i iv4 hm5
      refine g_iload (pc := 3) (i := 4) (x := i) hK dd_X12_move_3 rfl ?_
      refine g_aloadn (pc := 5) (i := 1) (x := 229) hK dd_X12_move_5 rfl rfl ?_
      refine g_alen (pc := 6) hK (kdm kd_229) rfl dd_X12_move_6 ?_
      refine g_topv (v := gI 20) rfl ?_
      refine g_icmp_ge (pc := 7) (tgt := 49) hK dd_X12_move_7 (by decide) ⟨by omega, by omega⟩ (by decide) (fun c6 => ?_) (fun c6 => ?_)
      · refine g_iloadn (pc := 49) (i := 2) (x := 317) hK dd_X12_move_49 rfl rfl ?_
        refine g_aloadn (pc := 50) (i := 1) (x := 229) hK dd_X12_move_50 rfl rfl ?_
        refine g_alen (pc := 51) hK (kdm kd_229) rfl dd_X12_move_51 ?_
        refine g_topv (v := gI 20) rfl ?_
        refine g_iadd (pc := 52) (z := 337) hK dd_X12_move_52 rfl ?_
        refine g_iret (pc := 53) hK hr hlocks dd_X12_move_53 rfl ?_
        exact g_fin hQ (by first | rfl | omega | (subst_vars; first | rfl | omega)) (by rw [show i = 20 by omega]; rfl)
      · refine g_iloadn (pc := 10) (i := 3) (x := 0) hK dd_X12_move_10 rfl rfl ?_
        refine g_if_eq (pc := 11) (tgt := 30) hK dd_X12_move_11 (by decide) (by decide) (fun _ => ?_) (fun c7 => absurd (by decide) c7)
        refine g_aloadn (pc := 30) (i := 1) (x := 229) hK dd_X12_move_30 rfl rfl ?_
        refine g_iload (pc := 31) (i := 4) (x := i) hK dd_X12_move_31 rfl ?_
        refine g_aloadn (pc := 33) (i := 0) (x := 200) hK dd_X12_move_33 rfl rfl ?_
        refine g_getv (pc := 34) (f := (1, 39)) (j := 38) (v := gR 239) hK (kdm kd_200) rfl ef_12 (by decide) rfl kk_1139 dd_X12_move_34 rfl ?_
        refine g_iloadn (pc := 37) (i := 2) (x := 317) hK dd_X12_move_37 rfl rfl ?_
        refine g_iload (pc := 38) (i := 4) (x := i) hK dd_X12_move_38 rfl ?_
        refine g_iadd (pc := 40) (z := 317 + i) hK dd_X12_move_40 rfl ?_
        refine g_iald (pc := 41) hK (kdm kd_239) nl_239 (by decide) dd_X12_move_41 (by omega) (by omega) (fun x8 ex8 rx8 => ?_)
        replace ex8 : x8 = M 239 ((317 + i).toNat) := ex8
        have ex_ : x8 = M 239 (317 + i.toNat) := by rw [ex8, show (317 + i).toNat = 317 + i.toNat by omega]
        refine g_iast (pc := 42) hK (kdm kd_229) nl_229 (by decide) (by decide) dd_X12_move_42 (by omega) (by omega) rx8 ?_
        refine g_iinc (pc := 43) (i := 4) (y := i + 1) (L' := [(0, gR 200), (1, gR 229), (2, gI 317), (3, gI 0), (4, gI (i + 1))]) hK dd_X12_move_43 rfl rfl (by decide) rfl ?_
        refine g_goto (pc := 46) (tgt := 3) hK dd_X12_move_46 (by decide) ?_
        refine g_sub (L' := [(0, gR 200), (1, gR 229), (2, gI 317), (3, gI 0), (4, gI (i + 1))]) [0, 1, 2, 3, 4] rfl ?_
        refine g_mem (M2 := cp M 229 (M 239) 317 0 (i + 1).toNat) (by rw [tn1 (by omega)]; refine Eq.trans ?_ (cp_as (dp := 0) ex_); rw [Nat.zero_add]) ?_
        exact ih2 (i + 1) (by omega) (by omega)
  refine g_mem (M2 := cp M 229 (M 239) 317 0 (0 : Int).toNat) (cp_0.symm) ?_
  refine g_sub (L' := [(0, gR 200), (1, gR 229), (2, gI 317), (3, gI 0), (4, gI 0)]) [0, 1, 2, 3, 4] rfl ?_
  exact lp3 _ 0 (by omega) (Nat.lt_succ_self _)
set_option maxHeartbeats 4000000 in
set_option maxRecDepth 100000 in
theorem d_mvk_230 {l : Launch} {M : Mem} {Pq : Option gV → Mem → Prop}  (hQ : Pq (some (gI 357)) (cp M 239 (M 230) 0 337 20)) : gCtr l my_X12_move mb_X12_move 5 ((some .int)) 1 [gR 200, gR 230, gI 337, gI 1] M Pq := by
  refine g_intro (by decide) (Nat.le_of_ble_eq_true rfl) ?_
  intro p e s m args below meth c D cy q A hK hr hlocks hw
  refine g_sub (L' := [(0, gR 200), (1, gR 230), (2, gI 337), (3, gI 1)]) [0, 1, 2, 3] rfl ?_
  refine g_iconst (pc := 0) (x := 0) hK dd_X12_move_0 (by decide) ?_
  refine g_istore (pc := 1) (i := 4) (L' := [(0, gR 200), (1, gR 230), (2, gI 337), (3, gI 1), (4, gI 0)]) hK dd_X12_move_1 (by decide) rfl ?_
  have lp3 : ∀ (n1 : Nat) (i : Int), (0 ≤ i ∧ i ≤ 20) → (20 - i).toNat < n1 → G p l e (rmD 1) s m args below meth c D cy q A 0 0 5 (MQ below (gQc D cy q A Pq) args s 0 0 A) 3 [(0, gR 200), (1, gR 230), (2, gI 337), (3, gI 1), (4, gI i)] [] (cp M 239 (M 230) 0 337 i.toNat) := by
    intro n1
    induction n1 with
    | zero => intro i iv4 hm5; exact absurd hm5 (Nat.not_lt_zero _)
    | succ n1 ih2 =>
      intro i iv4 hm5
      refine g_iload (pc := 3) (i := 4) (x := i) hK dd_X12_move_3 rfl ?_
      refine g_aloadn (pc := 5) (i := 1) (x := 230) hK dd_X12_move_5 rfl rfl ?_
      refine g_alen (pc := 6) hK (kdm kd_230) rfl dd_X12_move_6 ?_
      refine g_topv (v := gI 20) rfl ?_
      refine g_icmp_ge (pc := 7) (tgt := 49) hK dd_X12_move_7 (by decide) ⟨by omega, by omega⟩ (by decide) (fun c6 => ?_) (fun c6 => ?_)
      · refine g_iloadn (pc := 49) (i := 2) (x := 337) hK dd_X12_move_49 rfl rfl ?_
        refine g_aloadn (pc := 50) (i := 1) (x := 230) hK dd_X12_move_50 rfl rfl ?_
        refine g_alen (pc := 51) hK (kdm kd_230) rfl dd_X12_move_51 ?_
        refine g_topv (v := gI 20) rfl ?_
        refine g_iadd (pc := 52) (z := 357) hK dd_X12_move_52 rfl ?_
        refine g_iret (pc := 53) hK hr hlocks dd_X12_move_53 rfl ?_
        exact g_fin hQ (by first | rfl | omega | (subst_vars; first | rfl | omega)) (by rw [show i = 20 by omega]; rfl)
      · refine g_iloadn (pc := 10) (i := 3) (x := 1) hK dd_X12_move_10 rfl rfl ?_
        refine g_if_eq (pc := 11) (tgt := 30) hK dd_X12_move_11 (by decide) (by decide) (fun c7 => absurd c7 (by decide)) (fun _ => ?_)
        refine g_aloadn (pc := 14) (i := 0) (x := 200) hK dd_X12_move_14 rfl rfl ?_
        refine g_getv (pc := 15) (f := (1, 39)) (j := 38) (v := gR 239) hK (kdm kd_200) rfl ef_12 (by decide) rfl kk_1139 dd_X12_move_15 rfl ?_
        refine g_iloadn (pc := 18) (i := 2) (x := 337) hK dd_X12_move_18 rfl rfl ?_
        refine g_iload (pc := 19) (i := 4) (x := i) hK dd_X12_move_19 rfl ?_
        refine g_iadd (pc := 21) (z := 337 + i) hK dd_X12_move_21 rfl ?_
        refine g_aloadn (pc := 22) (i := 1) (x := 230) hK dd_X12_move_22 rfl rfl ?_
        refine g_iload (pc := 23) (i := 4) (x := i) hK dd_X12_move_23 rfl ?_
        refine g_iald (pc := 25) hK (kdm kd_230) nl_230 (by decide) dd_X12_move_25 (by omega) (by omega) (fun x8 ex8 rx8 => ?_)
        replace ex8 : x8 = M 230 i.toNat := ex8
        have ex_ : x8 = M 230 i.toNat := ex8
        refine g_iast (pc := 26) hK (kdm kd_239) nl_239 (by decide) (by decide) dd_X12_move_26 (by omega) (by omega) rx8 ?_
        refine g_goto (pc := 27) (tgt := 43) hK dd_X12_move_27 (by decide) ?_
        refine g_iinc (pc := 43) (i := 4) (y := i + 1) (L' := [(0, gR 200), (1, gR 230), (2, gI 337), (3, gI 1), (4, gI (i + 1))]) hK dd_X12_move_43 rfl rfl (by decide) rfl ?_
        refine g_goto (pc := 46) (tgt := 3) hK dd_X12_move_46 (by decide) ?_
        refine g_sub (L' := [(0, gR 200), (1, gR 230), (2, gI 337), (3, gI 1), (4, gI (i + 1))]) [0, 1, 2, 3, 4] rfl ?_
        refine g_mem (M2 := cp M 239 (M 230) 0 337 (i + 1).toNat) (by rw [tn1 (by omega), show (337 + i).toNat = 337 + i.toNat by omega]; exact cp_as (by rw [Nat.zero_add]; exact ex_)) ?_
        exact ih2 (i + 1) (by omega) (by omega)
  refine g_mem (M2 := cp M 239 (M 230) 0 337 (0 : Int).toNat) (cp_0.symm) ?_
  refine g_sub (L' := [(0, gR 200), (1, gR 230), (2, gI 337), (3, gI 1), (4, gI 0)]) [0, 1, 2, 3, 4] rfl ?_
  exact lp3 _ 0 (by omega) (Nat.lt_succ_self _)
set_option maxHeartbeats 4000000 in
set_option maxRecDepth 100000 in
theorem d_mvb_230 {l : Launch} {M : Mem} {Pq : Option gV → Mem → Prop}  (hQ : Pq (some (gI 357)) (cp M 230 (M 239) 337 0 20)) : gCtr l my_X12_move mb_X12_move 5 ((some .int)) 1 [gR 200, gR 230, gI 337, gI 0] M Pq := by
  refine g_intro (by decide) (Nat.le_of_ble_eq_true rfl) ?_
  intro p e s m args below meth c D cy q A hK hr hlocks hw
  refine g_sub (L' := [(0, gR 200), (1, gR 230), (2, gI 337), (3, gI 0)]) [0, 1, 2, 3] rfl ?_
  refine g_iconst (pc := 0) (x := 0) hK dd_X12_move_0 (by decide) ?_
  refine g_istore (pc := 1) (i := 4) (L' := [(0, gR 200), (1, gR 230), (2, gI 337), (3, gI 0), (4, gI 0)]) hK dd_X12_move_1 (by decide) rfl ?_
  have lp3 : ∀ (n1 : Nat) (i : Int), (0 ≤ i ∧ i ≤ 20) → (20 - i).toNat < n1 → G p l e (rmD 1) s m args below meth c D cy q A 0 0 5 (MQ below (gQc D cy q A Pq) args s 0 0 A) 3 [(0, gR 200), (1, gR 230), (2, gI 337), (3, gI 0), (4, gI i)] [] (cp M 230 (M 239) 337 0 i.toNat) := by
    intro n1
    induction n1 with
    | zero => intro i iv4 hm5; exact absurd hm5 (Nat.not_lt_zero _)
    | succ n1 ih2 =>
      intro i iv4 hm5
      refine g_iload (pc := 3) (i := 4) (x := i) hK dd_X12_move_3 rfl ?_
      refine g_aloadn (pc := 5) (i := 1) (x := 230) hK dd_X12_move_5 rfl rfl ?_
      refine g_alen (pc := 6) hK (kdm kd_230) rfl dd_X12_move_6 ?_
      refine g_topv (v := gI 20) rfl ?_
      refine g_icmp_ge (pc := 7) (tgt := 49) hK dd_X12_move_7 (by decide) ⟨by omega, by omega⟩ (by decide) (fun c6 => ?_) (fun c6 => ?_)
      · refine g_iloadn (pc := 49) (i := 2) (x := 337) hK dd_X12_move_49 rfl rfl ?_
        refine g_aloadn (pc := 50) (i := 1) (x := 230) hK dd_X12_move_50 rfl rfl ?_
        refine g_alen (pc := 51) hK (kdm kd_230) rfl dd_X12_move_51 ?_
        refine g_topv (v := gI 20) rfl ?_
        refine g_iadd (pc := 52) (z := 357) hK dd_X12_move_52 rfl ?_
        refine g_iret (pc := 53) hK hr hlocks dd_X12_move_53 rfl ?_
        exact g_fin hQ (by first | rfl | omega | (subst_vars; first | rfl | omega)) (by rw [show i = 20 by omega]; rfl)
      · refine g_iloadn (pc := 10) (i := 3) (x := 0) hK dd_X12_move_10 rfl rfl ?_
        refine g_if_eq (pc := 11) (tgt := 30) hK dd_X12_move_11 (by decide) (by decide) (fun _ => ?_) (fun c7 => absurd (by decide) c7)
        refine g_aloadn (pc := 30) (i := 1) (x := 230) hK dd_X12_move_30 rfl rfl ?_
        refine g_iload (pc := 31) (i := 4) (x := i) hK dd_X12_move_31 rfl ?_
        refine g_aloadn (pc := 33) (i := 0) (x := 200) hK dd_X12_move_33 rfl rfl ?_
        refine g_getv (pc := 34) (f := (1, 39)) (j := 38) (v := gR 239) hK (kdm kd_200) rfl ef_12 (by decide) rfl kk_1139 dd_X12_move_34 rfl ?_
        refine g_iloadn (pc := 37) (i := 2) (x := 337) hK dd_X12_move_37 rfl rfl ?_
        refine g_iload (pc := 38) (i := 4) (x := i) hK dd_X12_move_38 rfl ?_
        refine g_iadd (pc := 40) (z := 337 + i) hK dd_X12_move_40 rfl ?_
        refine g_iald (pc := 41) hK (kdm kd_239) nl_239 (by decide) dd_X12_move_41 (by omega) (by omega) (fun x8 ex8 rx8 => ?_)
        replace ex8 : x8 = M 239 ((337 + i).toNat) := ex8
        have ex_ : x8 = M 239 (337 + i.toNat) := by rw [ex8, show (337 + i).toNat = 337 + i.toNat by omega]
        refine g_iast (pc := 42) hK (kdm kd_230) nl_230 (by decide) (by decide) dd_X12_move_42 (by omega) (by omega) rx8 ?_
        refine g_iinc (pc := 43) (i := 4) (y := i + 1) (L' := [(0, gR 200), (1, gR 230), (2, gI 337), (3, gI 0), (4, gI (i + 1))]) hK dd_X12_move_43 rfl rfl (by decide) rfl ?_
        refine g_goto (pc := 46) (tgt := 3) hK dd_X12_move_46 (by decide) ?_
        refine g_sub (L' := [(0, gR 200), (1, gR 230), (2, gI 337), (3, gI 0), (4, gI (i + 1))]) [0, 1, 2, 3, 4] rfl ?_
        refine g_mem (M2 := cp M 230 (M 239) 337 0 (i + 1).toNat) (by rw [tn1 (by omega)]; refine Eq.trans ?_ (cp_as (dp := 0) ex_); rw [Nat.zero_add]) ?_
        exact ih2 (i + 1) (by omega) (by omega)
  refine g_mem (M2 := cp M 230 (M 239) 337 0 (0 : Int).toNat) (cp_0.symm) ?_
  refine g_sub (L' := [(0, gR 200), (1, gR 230), (2, gI 337), (3, gI 0), (4, gI 0)]) [0, 1, 2, 3, 4] rfl ?_
  exact lp3 _ 0 (by omega) (Nat.lt_succ_self _)
set_option maxHeartbeats 4000000 in
set_option maxRecDepth 100000 in
theorem d_mvk_231 {l : Launch} {M : Mem} {Pq : Option gV → Mem → Prop}  (hQ : Pq (some (gI 377)) (cp M 239 (M 231) 0 357 20)) : gCtr l my_X12_move mb_X12_move 5 ((some .int)) 1 [gR 200, gR 231, gI 357, gI 1] M Pq := by
  refine g_intro (by decide) (Nat.le_of_ble_eq_true rfl) ?_
  intro p e s m args below meth c D cy q A hK hr hlocks hw
  refine g_sub (L' := [(0, gR 200), (1, gR 231), (2, gI 357), (3, gI 1)]) [0, 1, 2, 3] rfl ?_
  refine g_iconst (pc := 0) (x := 0) hK dd_X12_move_0 (by decide) ?_
  refine g_istore (pc := 1) (i := 4) (L' := [(0, gR 200), (1, gR 231), (2, gI 357), (3, gI 1), (4, gI 0)]) hK dd_X12_move_1 (by decide) rfl ?_
  have lp3 : ∀ (n1 : Nat) (i : Int), (0 ≤ i ∧ i ≤ 20) → (20 - i).toNat < n1 → G p l e (rmD 1) s m args below meth c D cy q A 0 0 5 (MQ below (gQc D cy q A Pq) args s 0 0 A) 3 [(0, gR 200), (1, gR 231), (2, gI 357), (3, gI 1), (4, gI i)] [] (cp M 239 (M 231) 0 357 i.toNat) := by
    intro n1
    induction n1 with
    | zero => intro i iv4 hm5; exact absurd hm5 (Nat.not_lt_zero _)
    | succ n1 ih2 =>
      intro i iv4 hm5
      refine g_iload (pc := 3) (i := 4) (x := i) hK dd_X12_move_3 rfl ?_
      refine g_aloadn (pc := 5) (i := 1) (x := 231) hK dd_X12_move_5 rfl rfl ?_
      refine g_alen (pc := 6) hK (kdm kd_231) rfl dd_X12_move_6 ?_
      refine g_topv (v := gI 20) rfl ?_
      refine g_icmp_ge (pc := 7) (tgt := 49) hK dd_X12_move_7 (by decide) ⟨by omega, by omega⟩ (by decide) (fun c6 => ?_) (fun c6 => ?_)
      · refine g_iloadn (pc := 49) (i := 2) (x := 357) hK dd_X12_move_49 rfl rfl ?_
        refine g_aloadn (pc := 50) (i := 1) (x := 231) hK dd_X12_move_50 rfl rfl ?_
        refine g_alen (pc := 51) hK (kdm kd_231) rfl dd_X12_move_51 ?_
        refine g_topv (v := gI 20) rfl ?_
        refine g_iadd (pc := 52) (z := 377) hK dd_X12_move_52 rfl ?_
        refine g_iret (pc := 53) hK hr hlocks dd_X12_move_53 rfl ?_
        exact g_fin hQ (by first | rfl | omega | (subst_vars; first | rfl | omega)) (by rw [show i = 20 by omega]; rfl)
      · refine g_iloadn (pc := 10) (i := 3) (x := 1) hK dd_X12_move_10 rfl rfl ?_
        refine g_if_eq (pc := 11) (tgt := 30) hK dd_X12_move_11 (by decide) (by decide) (fun c7 => absurd c7 (by decide)) (fun _ => ?_)
        refine g_aloadn (pc := 14) (i := 0) (x := 200) hK dd_X12_move_14 rfl rfl ?_
        refine g_getv (pc := 15) (f := (1, 39)) (j := 38) (v := gR 239) hK (kdm kd_200) rfl ef_12 (by decide) rfl kk_1139 dd_X12_move_15 rfl ?_
        refine g_iloadn (pc := 18) (i := 2) (x := 357) hK dd_X12_move_18 rfl rfl ?_
        refine g_iload (pc := 19) (i := 4) (x := i) hK dd_X12_move_19 rfl ?_
        refine g_iadd (pc := 21) (z := 357 + i) hK dd_X12_move_21 rfl ?_
        refine g_aloadn (pc := 22) (i := 1) (x := 231) hK dd_X12_move_22 rfl rfl ?_
        refine g_iload (pc := 23) (i := 4) (x := i) hK dd_X12_move_23 rfl ?_
        refine g_iald (pc := 25) hK (kdm kd_231) nl_231 (by decide) dd_X12_move_25 (by omega) (by omega) (fun x8 ex8 rx8 => ?_)
        replace ex8 : x8 = M 231 i.toNat := ex8
        have ex_ : x8 = M 231 i.toNat := ex8
        refine g_iast (pc := 26) hK (kdm kd_239) nl_239 (by decide) (by decide) dd_X12_move_26 (by omega) (by omega) rx8 ?_
        refine g_goto (pc := 27) (tgt := 43) hK dd_X12_move_27 (by decide) ?_
        refine g_iinc (pc := 43) (i := 4) (y := i + 1) (L' := [(0, gR 200), (1, gR 231), (2, gI 357), (3, gI 1), (4, gI (i + 1))]) hK dd_X12_move_43 rfl rfl (by decide) rfl ?_
        refine g_goto (pc := 46) (tgt := 3) hK dd_X12_move_46 (by decide) ?_
        refine g_sub (L' := [(0, gR 200), (1, gR 231), (2, gI 357), (3, gI 1), (4, gI (i + 1))]) [0, 1, 2, 3, 4] rfl ?_
        refine g_mem (M2 := cp M 239 (M 231) 0 357 (i + 1).toNat) (by rw [tn1 (by omega), show (357 + i).toNat = 357 + i.toNat by omega]; exact cp_as (by rw [Nat.zero_add]; exact ex_)) ?_
        exact ih2 (i + 1) (by omega) (by omega)
  refine g_mem (M2 := cp M 239 (M 231) 0 357 (0 : Int).toNat) (cp_0.symm) ?_
  refine g_sub (L' := [(0, gR 200), (1, gR 231), (2, gI 357), (3, gI 1), (4, gI 0)]) [0, 1, 2, 3, 4] rfl ?_
  exact lp3 _ 0 (by omega) (Nat.lt_succ_self _)
set_option maxHeartbeats 4000000 in
set_option maxRecDepth 100000 in
theorem d_mvb_231 {l : Launch} {M : Mem} {Pq : Option gV → Mem → Prop}  (hQ : Pq (some (gI 377)) (cp M 231 (M 239) 357 0 20)) : gCtr l my_X12_move mb_X12_move 5 ((some .int)) 1 [gR 200, gR 231, gI 357, gI 0] M Pq := by
  refine g_intro (by decide) (Nat.le_of_ble_eq_true rfl) ?_
  intro p e s m args below meth c D cy q A hK hr hlocks hw
  refine g_sub (L' := [(0, gR 200), (1, gR 231), (2, gI 357), (3, gI 0)]) [0, 1, 2, 3] rfl ?_
  refine g_iconst (pc := 0) (x := 0) hK dd_X12_move_0 (by decide) ?_
  refine g_istore (pc := 1) (i := 4) (L' := [(0, gR 200), (1, gR 231), (2, gI 357), (3, gI 0), (4, gI 0)]) hK dd_X12_move_1 (by decide) rfl ?_
  have lp3 : ∀ (n1 : Nat) (i : Int), (0 ≤ i ∧ i ≤ 20) → (20 - i).toNat < n1 → G p l e (rmD 1) s m args below meth c D cy q A 0 0 5 (MQ below (gQc D cy q A Pq) args s 0 0 A) 3 [(0, gR 200), (1, gR 231), (2, gI 357), (3, gI 0), (4, gI i)] [] (cp M 231 (M 239) 357 0 i.toNat) := by
    intro n1
    induction n1 with
    | zero => intro i iv4 hm5; exact absurd hm5 (Nat.not_lt_zero _)
    | succ n1 ih2 =>
      intro i iv4 hm5
      refine g_iload (pc := 3) (i := 4) (x := i) hK dd_X12_move_3 rfl ?_
      refine g_aloadn (pc := 5) (i := 1) (x := 231) hK dd_X12_move_5 rfl rfl ?_
      refine g_alen (pc := 6) hK (kdm kd_231) rfl dd_X12_move_6 ?_
      refine g_topv (v := gI 20) rfl ?_
      refine g_icmp_ge (pc := 7) (tgt := 49) hK dd_X12_move_7 (by decide) ⟨by omega, by omega⟩ (by decide) (fun c6 => ?_) (fun c6 => ?_)
      · refine g_iloadn (pc := 49) (i := 2) (x := 357) hK dd_X12_move_49 rfl rfl ?_
        refine g_aloadn (pc := 50) (i := 1) (x := 231) hK dd_X12_move_50 rfl rfl ?_
        refine g_alen (pc := 51) hK (kdm kd_231) rfl dd_X12_move_51 ?_
        refine g_topv (v := gI 20) rfl ?_
        refine g_iadd (pc := 52) (z := 377) hK dd_X12_move_52 rfl ?_
        refine g_iret (pc := 53) hK hr hlocks dd_X12_move_53 rfl ?_
        exact g_fin hQ (by first | rfl | omega | (subst_vars; first | rfl | omega)) (by rw [show i = 20 by omega]; rfl)
      · refine g_iloadn (pc := 10) (i := 3) (x := 0) hK dd_X12_move_10 rfl rfl ?_
        refine g_if_eq (pc := 11) (tgt := 30) hK dd_X12_move_11 (by decide) (by decide) (fun _ => ?_) (fun c7 => absurd (by decide) c7)
        refine g_aloadn (pc := 30) (i := 1) (x := 231) hK dd_X12_move_30 rfl rfl ?_
        refine g_iload (pc := 31) (i := 4) (x := i) hK dd_X12_move_31 rfl ?_
        refine g_aloadn (pc := 33) (i := 0) (x := 200) hK dd_X12_move_33 rfl rfl ?_
        refine g_getv (pc := 34) (f := (1, 39)) (j := 38) (v := gR 239) hK (kdm kd_200) rfl ef_12 (by decide) rfl kk_1139 dd_X12_move_34 rfl ?_
        refine g_iloadn (pc := 37) (i := 2) (x := 357) hK dd_X12_move_37 rfl rfl ?_
        refine g_iload (pc := 38) (i := 4) (x := i) hK dd_X12_move_38 rfl ?_
        refine g_iadd (pc := 40) (z := 357 + i) hK dd_X12_move_40 rfl ?_
        refine g_iald (pc := 41) hK (kdm kd_239) nl_239 (by decide) dd_X12_move_41 (by omega) (by omega) (fun x8 ex8 rx8 => ?_)
        replace ex8 : x8 = M 239 ((357 + i).toNat) := ex8
        have ex_ : x8 = M 239 (357 + i.toNat) := by rw [ex8, show (357 + i).toNat = 357 + i.toNat by omega]
        refine g_iast (pc := 42) hK (kdm kd_231) nl_231 (by decide) (by decide) dd_X12_move_42 (by omega) (by omega) rx8 ?_
        refine g_iinc (pc := 43) (i := 4) (y := i + 1) (L' := [(0, gR 200), (1, gR 231), (2, gI 357), (3, gI 0), (4, gI (i + 1))]) hK dd_X12_move_43 rfl rfl (by decide) rfl ?_
        refine g_goto (pc := 46) (tgt := 3) hK dd_X12_move_46 (by decide) ?_
        refine g_sub (L' := [(0, gR 200), (1, gR 231), (2, gI 357), (3, gI 0), (4, gI (i + 1))]) [0, 1, 2, 3, 4] rfl ?_
        refine g_mem (M2 := cp M 231 (M 239) 357 0 (i + 1).toNat) (by rw [tn1 (by omega)]; refine Eq.trans ?_ (cp_as (dp := 0) ex_); rw [Nat.zero_add]) ?_
        exact ih2 (i + 1) (by omega) (by omega)
  refine g_mem (M2 := cp M 231 (M 239) 357 0 (0 : Int).toNat) (cp_0.symm) ?_
  refine g_sub (L' := [(0, gR 200), (1, gR 231), (2, gI 357), (3, gI 0), (4, gI 0)]) [0, 1, 2, 3, 4] rfl ?_
  exact lp3 _ 0 (by omega) (Nat.lt_succ_self _)
set_option maxHeartbeats 4000000 in
set_option maxRecDepth 100000 in
theorem d_mvk_233 {l : Launch} {M : Mem} {Pq : Option gV → Mem → Prop}  (hQ : Pq (some (gI 387)) (cp M 239 (M 233) 0 377 10)) : gCtr l my_X12_move mb_X12_move 5 ((some .int)) 1 [gR 200, gR 233, gI 377, gI 1] M Pq := by
  refine g_intro (by decide) (Nat.le_of_ble_eq_true rfl) ?_
  intro p e s m args below meth c D cy q A hK hr hlocks hw
  refine g_sub (L' := [(0, gR 200), (1, gR 233), (2, gI 377), (3, gI 1)]) [0, 1, 2, 3] rfl ?_
  refine g_iconst (pc := 0) (x := 0) hK dd_X12_move_0 (by decide) ?_
  refine g_istore (pc := 1) (i := 4) (L' := [(0, gR 200), (1, gR 233), (2, gI 377), (3, gI 1), (4, gI 0)]) hK dd_X12_move_1 (by decide) rfl ?_
  have lp3 : ∀ (n1 : Nat) (i : Int), (0 ≤ i ∧ i ≤ 10) → (10 - i).toNat < n1 → G p l e (rmD 1) s m args below meth c D cy q A 0 0 5 (MQ below (gQc D cy q A Pq) args s 0 0 A) 3 [(0, gR 200), (1, gR 233), (2, gI 377), (3, gI 1), (4, gI i)] [] (cp M 239 (M 233) 0 377 i.toNat) := by
    intro n1
    induction n1 with
    | zero => intro i iv4 hm5; exact absurd hm5 (Nat.not_lt_zero _)
    | succ n1 ih2 =>
      intro i iv4 hm5
      refine g_iload (pc := 3) (i := 4) (x := i) hK dd_X12_move_3 rfl ?_
      refine g_aloadn (pc := 5) (i := 1) (x := 233) hK dd_X12_move_5 rfl rfl ?_
      refine g_alen (pc := 6) hK (kdm kd_233) rfl dd_X12_move_6 ?_
      refine g_topv (v := gI 10) rfl ?_
      refine g_icmp_ge (pc := 7) (tgt := 49) hK dd_X12_move_7 (by decide) ⟨by omega, by omega⟩ (by decide) (fun c6 => ?_) (fun c6 => ?_)
      · refine g_iloadn (pc := 49) (i := 2) (x := 377) hK dd_X12_move_49 rfl rfl ?_
        refine g_aloadn (pc := 50) (i := 1) (x := 233) hK dd_X12_move_50 rfl rfl ?_
        refine g_alen (pc := 51) hK (kdm kd_233) rfl dd_X12_move_51 ?_
        refine g_topv (v := gI 10) rfl ?_
        refine g_iadd (pc := 52) (z := 387) hK dd_X12_move_52 rfl ?_
        refine g_iret (pc := 53) hK hr hlocks dd_X12_move_53 rfl ?_
        exact g_fin hQ (by first | rfl | omega | (subst_vars; first | rfl | omega)) (by rw [show i = 10 by omega]; rfl)
      · refine g_iloadn (pc := 10) (i := 3) (x := 1) hK dd_X12_move_10 rfl rfl ?_
        refine g_if_eq (pc := 11) (tgt := 30) hK dd_X12_move_11 (by decide) (by decide) (fun c7 => absurd c7 (by decide)) (fun _ => ?_)
        refine g_aloadn (pc := 14) (i := 0) (x := 200) hK dd_X12_move_14 rfl rfl ?_
        refine g_getv (pc := 15) (f := (1, 39)) (j := 38) (v := gR 239) hK (kdm kd_200) rfl ef_12 (by decide) rfl kk_1139 dd_X12_move_15 rfl ?_
        refine g_iloadn (pc := 18) (i := 2) (x := 377) hK dd_X12_move_18 rfl rfl ?_
        refine g_iload (pc := 19) (i := 4) (x := i) hK dd_X12_move_19 rfl ?_
        refine g_iadd (pc := 21) (z := 377 + i) hK dd_X12_move_21 rfl ?_
        refine g_aloadn (pc := 22) (i := 1) (x := 233) hK dd_X12_move_22 rfl rfl ?_
        refine g_iload (pc := 23) (i := 4) (x := i) hK dd_X12_move_23 rfl ?_
        refine g_iald (pc := 25) hK (kdm kd_233) nl_233 (by decide) dd_X12_move_25 (by omega) (by omega) (fun x8 ex8 rx8 => ?_)
        replace ex8 : x8 = M 233 i.toNat := ex8
        have ex_ : x8 = M 233 i.toNat := ex8
        refine g_iast (pc := 26) hK (kdm kd_239) nl_239 (by decide) (by decide) dd_X12_move_26 (by omega) (by omega) rx8 ?_
        refine g_goto (pc := 27) (tgt := 43) hK dd_X12_move_27 (by decide) ?_
        refine g_iinc (pc := 43) (i := 4) (y := i + 1) (L' := [(0, gR 200), (1, gR 233), (2, gI 377), (3, gI 1), (4, gI (i + 1))]) hK dd_X12_move_43 rfl rfl (by decide) rfl ?_
        refine g_goto (pc := 46) (tgt := 3) hK dd_X12_move_46 (by decide) ?_
        refine g_sub (L' := [(0, gR 200), (1, gR 233), (2, gI 377), (3, gI 1), (4, gI (i + 1))]) [0, 1, 2, 3, 4] rfl ?_
        refine g_mem (M2 := cp M 239 (M 233) 0 377 (i + 1).toNat) (by rw [tn1 (by omega), show (377 + i).toNat = 377 + i.toNat by omega]; exact cp_as (by rw [Nat.zero_add]; exact ex_)) ?_
        exact ih2 (i + 1) (by omega) (by omega)
  refine g_mem (M2 := cp M 239 (M 233) 0 377 (0 : Int).toNat) (cp_0.symm) ?_
  refine g_sub (L' := [(0, gR 200), (1, gR 233), (2, gI 377), (3, gI 1), (4, gI 0)]) [0, 1, 2, 3, 4] rfl ?_
  exact lp3 _ 0 (by omega) (Nat.lt_succ_self _)
set_option maxHeartbeats 4000000 in
set_option maxRecDepth 100000 in
theorem d_mvb_233 {l : Launch} {M : Mem} {Pq : Option gV → Mem → Prop}  (hQ : Pq (some (gI 387)) (cp M 233 (M 239) 377 0 10)) : gCtr l my_X12_move mb_X12_move 5 ((some .int)) 1 [gR 200, gR 233, gI 377, gI 0] M Pq := by
  refine g_intro (by decide) (Nat.le_of_ble_eq_true rfl) ?_
  intro p e s m args below meth c D cy q A hK hr hlocks hw
  refine g_sub (L' := [(0, gR 200), (1, gR 233), (2, gI 377), (3, gI 0)]) [0, 1, 2, 3] rfl ?_
  refine g_iconst (pc := 0) (x := 0) hK dd_X12_move_0 (by decide) ?_
  refine g_istore (pc := 1) (i := 4) (L' := [(0, gR 200), (1, gR 233), (2, gI 377), (3, gI 0), (4, gI 0)]) hK dd_X12_move_1 (by decide) rfl ?_
  have lp3 : ∀ (n1 : Nat) (i : Int), (0 ≤ i ∧ i ≤ 10) → (10 - i).toNat < n1 → G p l e (rmD 1) s m args below meth c D cy q A 0 0 5 (MQ below (gQc D cy q A Pq) args s 0 0 A) 3 [(0, gR 200), (1, gR 233), (2, gI 377), (3, gI 0), (4, gI i)] [] (cp M 233 (M 239) 377 0 i.toNat) := by
    intro n1
    induction n1 with
    | zero => intro i iv4 hm5; exact absurd hm5 (Nat.not_lt_zero _)
    | succ n1 ih2 =>
      intro i iv4 hm5
      refine g_iload (pc := 3) (i := 4) (x := i) hK dd_X12_move_3 rfl ?_
      refine g_aloadn (pc := 5) (i := 1) (x := 233) hK dd_X12_move_5 rfl rfl ?_
      refine g_alen (pc := 6) hK (kdm kd_233) rfl dd_X12_move_6 ?_
      refine g_topv (v := gI 10) rfl ?_
      refine g_icmp_ge (pc := 7) (tgt := 49) hK dd_X12_move_7 (by decide) ⟨by omega, by omega⟩ (by decide) (fun c6 => ?_) (fun c6 => ?_)
      · refine g_iloadn (pc := 49) (i := 2) (x := 377) hK dd_X12_move_49 rfl rfl ?_
        refine g_aloadn (pc := 50) (i := 1) (x := 233) hK dd_X12_move_50 rfl rfl ?_
        refine g_alen (pc := 51) hK (kdm kd_233) rfl dd_X12_move_51 ?_
        refine g_topv (v := gI 10) rfl ?_
        refine g_iadd (pc := 52) (z := 387) hK dd_X12_move_52 rfl ?_
        refine g_iret (pc := 53) hK hr hlocks dd_X12_move_53 rfl ?_
        exact g_fin hQ (by first | rfl | omega | (subst_vars; first | rfl | omega)) (by rw [show i = 10 by omega]; rfl)
      · refine g_iloadn (pc := 10) (i := 3) (x := 0) hK dd_X12_move_10 rfl rfl ?_
        refine g_if_eq (pc := 11) (tgt := 30) hK dd_X12_move_11 (by decide) (by decide) (fun _ => ?_) (fun c7 => absurd (by decide) c7)
        refine g_aloadn (pc := 30) (i := 1) (x := 233) hK dd_X12_move_30 rfl rfl ?_
        refine g_iload (pc := 31) (i := 4) (x := i) hK dd_X12_move_31 rfl ?_
        refine g_aloadn (pc := 33) (i := 0) (x := 200) hK dd_X12_move_33 rfl rfl ?_
        refine g_getv (pc := 34) (f := (1, 39)) (j := 38) (v := gR 239) hK (kdm kd_200) rfl ef_12 (by decide) rfl kk_1139 dd_X12_move_34 rfl ?_
        refine g_iloadn (pc := 37) (i := 2) (x := 377) hK dd_X12_move_37 rfl rfl ?_
        refine g_iload (pc := 38) (i := 4) (x := i) hK dd_X12_move_38 rfl ?_
        refine g_iadd (pc := 40) (z := 377 + i) hK dd_X12_move_40 rfl ?_
        refine g_iald (pc := 41) hK (kdm kd_239) nl_239 (by decide) dd_X12_move_41 (by omega) (by omega) (fun x8 ex8 rx8 => ?_)
        replace ex8 : x8 = M 239 ((377 + i).toNat) := ex8
        have ex_ : x8 = M 239 (377 + i.toNat) := by rw [ex8, show (377 + i).toNat = 377 + i.toNat by omega]
        refine g_iast (pc := 42) hK (kdm kd_233) nl_233 (by decide) (by decide) dd_X12_move_42 (by omega) (by omega) rx8 ?_
        refine g_iinc (pc := 43) (i := 4) (y := i + 1) (L' := [(0, gR 200), (1, gR 233), (2, gI 377), (3, gI 0), (4, gI (i + 1))]) hK dd_X12_move_43 rfl rfl (by decide) rfl ?_
        refine g_goto (pc := 46) (tgt := 3) hK dd_X12_move_46 (by decide) ?_
        refine g_sub (L' := [(0, gR 200), (1, gR 233), (2, gI 377), (3, gI 0), (4, gI (i + 1))]) [0, 1, 2, 3, 4] rfl ?_
        refine g_mem (M2 := cp M 233 (M 239) 377 0 (i + 1).toNat) (by rw [tn1 (by omega)]; refine Eq.trans ?_ (cp_as (dp := 0) ex_); rw [Nat.zero_add]) ?_
        exact ih2 (i + 1) (by omega) (by omega)
  refine g_mem (M2 := cp M 233 (M 239) 377 0 (0 : Int).toNat) (cp_0.symm) ?_
  refine g_sub (L' := [(0, gR 200), (1, gR 233), (2, gI 377), (3, gI 0), (4, gI 0)]) [0, 1, 2, 3, 4] rfl ?_
  exact lp3 _ 0 (by omega) (Nat.lt_succ_self _)
set_option maxHeartbeats 4000000 in
set_option maxRecDepth 100000 in
theorem d_mvk_234 {l : Launch} {M : Mem} {Pq : Option gV → Mem → Prop}  (hQ : Pq (some (gI 397)) (cp M 239 (M 234) 0 387 10)) : gCtr l my_X12_move mb_X12_move 5 ((some .int)) 1 [gR 200, gR 234, gI 387, gI 1] M Pq := by
  refine g_intro (by decide) (Nat.le_of_ble_eq_true rfl) ?_
  intro p e s m args below meth c D cy q A hK hr hlocks hw
  refine g_sub (L' := [(0, gR 200), (1, gR 234), (2, gI 387), (3, gI 1)]) [0, 1, 2, 3] rfl ?_
  refine g_iconst (pc := 0) (x := 0) hK dd_X12_move_0 (by decide) ?_
  refine g_istore (pc := 1) (i := 4) (L' := [(0, gR 200), (1, gR 234), (2, gI 387), (3, gI 1), (4, gI 0)]) hK dd_X12_move_1 (by decide) rfl ?_
  have lp3 : ∀ (n1 : Nat) (i : Int), (0 ≤ i ∧ i ≤ 10) → (10 - i).toNat < n1 → G p l e (rmD 1) s m args below meth c D cy q A 0 0 5 (MQ below (gQc D cy q A Pq) args s 0 0 A) 3 [(0, gR 200), (1, gR 234), (2, gI 387), (3, gI 1), (4, gI i)] [] (cp M 239 (M 234) 0 387 i.toNat) := by
    intro n1
    induction n1 with
    | zero => intro i iv4 hm5; exact absurd hm5 (Nat.not_lt_zero _)
    | succ n1 ih2 =>
      intro i iv4 hm5
      refine g_iload (pc := 3) (i := 4) (x := i) hK dd_X12_move_3 rfl ?_
      refine g_aloadn (pc := 5) (i := 1) (x := 234) hK dd_X12_move_5 rfl rfl ?_
      refine g_alen (pc := 6) hK (kdm kd_234) rfl dd_X12_move_6 ?_
      refine g_topv (v := gI 10) rfl ?_
      refine g_icmp_ge (pc := 7) (tgt := 49) hK dd_X12_move_7 (by decide) ⟨by omega, by omega⟩ (by decide) (fun c6 => ?_) (fun c6 => ?_)
      · refine g_iloadn (pc := 49) (i := 2) (x := 387) hK dd_X12_move_49 rfl rfl ?_
        refine g_aloadn (pc := 50) (i := 1) (x := 234) hK dd_X12_move_50 rfl rfl ?_
        refine g_alen (pc := 51) hK (kdm kd_234) rfl dd_X12_move_51 ?_
        refine g_topv (v := gI 10) rfl ?_
        refine g_iadd (pc := 52) (z := 397) hK dd_X12_move_52 rfl ?_
        refine g_iret (pc := 53) hK hr hlocks dd_X12_move_53 rfl ?_
        exact g_fin hQ (by first | rfl | omega | (subst_vars; first | rfl | omega)) (by rw [show i = 10 by omega]; rfl)
      · refine g_iloadn (pc := 10) (i := 3) (x := 1) hK dd_X12_move_10 rfl rfl ?_
        refine g_if_eq (pc := 11) (tgt := 30) hK dd_X12_move_11 (by decide) (by decide) (fun c7 => absurd c7 (by decide)) (fun _ => ?_)
        refine g_aloadn (pc := 14) (i := 0) (x := 200) hK dd_X12_move_14 rfl rfl ?_
        refine g_getv (pc := 15) (f := (1, 39)) (j := 38) (v := gR 239) hK (kdm kd_200) rfl ef_12 (by decide) rfl kk_1139 dd_X12_move_15 rfl ?_
        refine g_iloadn (pc := 18) (i := 2) (x := 387) hK dd_X12_move_18 rfl rfl ?_
        refine g_iload (pc := 19) (i := 4) (x := i) hK dd_X12_move_19 rfl ?_
        refine g_iadd (pc := 21) (z := 387 + i) hK dd_X12_move_21 rfl ?_
        refine g_aloadn (pc := 22) (i := 1) (x := 234) hK dd_X12_move_22 rfl rfl ?_
        refine g_iload (pc := 23) (i := 4) (x := i) hK dd_X12_move_23 rfl ?_
        refine g_iald (pc := 25) hK (kdm kd_234) nl_234 (by decide) dd_X12_move_25 (by omega) (by omega) (fun x8 ex8 rx8 => ?_)
        replace ex8 : x8 = M 234 i.toNat := ex8
        have ex_ : x8 = M 234 i.toNat := ex8
        refine g_iast (pc := 26) hK (kdm kd_239) nl_239 (by decide) (by decide) dd_X12_move_26 (by omega) (by omega) rx8 ?_
        refine g_goto (pc := 27) (tgt := 43) hK dd_X12_move_27 (by decide) ?_
        refine g_iinc (pc := 43) (i := 4) (y := i + 1) (L' := [(0, gR 200), (1, gR 234), (2, gI 387), (3, gI 1), (4, gI (i + 1))]) hK dd_X12_move_43 rfl rfl (by decide) rfl ?_
        refine g_goto (pc := 46) (tgt := 3) hK dd_X12_move_46 (by decide) ?_
        refine g_sub (L' := [(0, gR 200), (1, gR 234), (2, gI 387), (3, gI 1), (4, gI (i + 1))]) [0, 1, 2, 3, 4] rfl ?_
        refine g_mem (M2 := cp M 239 (M 234) 0 387 (i + 1).toNat) (by rw [tn1 (by omega), show (387 + i).toNat = 387 + i.toNat by omega]; exact cp_as (by rw [Nat.zero_add]; exact ex_)) ?_
        exact ih2 (i + 1) (by omega) (by omega)
  refine g_mem (M2 := cp M 239 (M 234) 0 387 (0 : Int).toNat) (cp_0.symm) ?_
  refine g_sub (L' := [(0, gR 200), (1, gR 234), (2, gI 387), (3, gI 1), (4, gI 0)]) [0, 1, 2, 3, 4] rfl ?_
  exact lp3 _ 0 (by omega) (Nat.lt_succ_self _)
set_option maxHeartbeats 4000000 in
set_option maxRecDepth 100000 in
theorem d_mvb_234 {l : Launch} {M : Mem} {Pq : Option gV → Mem → Prop}  (hQ : Pq (some (gI 397)) (cp M 234 (M 239) 387 0 10)) : gCtr l my_X12_move mb_X12_move 5 ((some .int)) 1 [gR 200, gR 234, gI 387, gI 0] M Pq := by
  refine g_intro (by decide) (Nat.le_of_ble_eq_true rfl) ?_
  intro p e s m args below meth c D cy q A hK hr hlocks hw
  refine g_sub (L' := [(0, gR 200), (1, gR 234), (2, gI 387), (3, gI 0)]) [0, 1, 2, 3] rfl ?_
  refine g_iconst (pc := 0) (x := 0) hK dd_X12_move_0 (by decide) ?_
  refine g_istore (pc := 1) (i := 4) (L' := [(0, gR 200), (1, gR 234), (2, gI 387), (3, gI 0), (4, gI 0)]) hK dd_X12_move_1 (by decide) rfl ?_
  have lp3 : ∀ (n1 : Nat) (i : Int), (0 ≤ i ∧ i ≤ 10) → (10 - i).toNat < n1 → G p l e (rmD 1) s m args below meth c D cy q A 0 0 5 (MQ below (gQc D cy q A Pq) args s 0 0 A) 3 [(0, gR 200), (1, gR 234), (2, gI 387), (3, gI 0), (4, gI i)] [] (cp M 234 (M 239) 387 0 i.toNat) := by
    intro n1
    induction n1 with
    | zero => intro i iv4 hm5; exact absurd hm5 (Nat.not_lt_zero _)
    | succ n1 ih2 =>
      intro i iv4 hm5
      refine g_iload (pc := 3) (i := 4) (x := i) hK dd_X12_move_3 rfl ?_
      refine g_aloadn (pc := 5) (i := 1) (x := 234) hK dd_X12_move_5 rfl rfl ?_
      refine g_alen (pc := 6) hK (kdm kd_234) rfl dd_X12_move_6 ?_
      refine g_topv (v := gI 10) rfl ?_
      refine g_icmp_ge (pc := 7) (tgt := 49) hK dd_X12_move_7 (by decide) ⟨by omega, by omega⟩ (by decide) (fun c6 => ?_) (fun c6 => ?_)
      · refine g_iloadn (pc := 49) (i := 2) (x := 387) hK dd_X12_move_49 rfl rfl ?_
        refine g_aloadn (pc := 50) (i := 1) (x := 234) hK dd_X12_move_50 rfl rfl ?_
        refine g_alen (pc := 51) hK (kdm kd_234) rfl dd_X12_move_51 ?_
        refine g_topv (v := gI 10) rfl ?_
        refine g_iadd (pc := 52) (z := 397) hK dd_X12_move_52 rfl ?_
        refine g_iret (pc := 53) hK hr hlocks dd_X12_move_53 rfl ?_
        exact g_fin hQ (by first | rfl | omega | (subst_vars; first | rfl | omega)) (by rw [show i = 10 by omega]; rfl)
      · refine g_iloadn (pc := 10) (i := 3) (x := 0) hK dd_X12_move_10 rfl rfl ?_
        refine g_if_eq (pc := 11) (tgt := 30) hK dd_X12_move_11 (by decide) (by decide) (fun _ => ?_) (fun c7 => absurd (by decide) c7)
        refine g_aloadn (pc := 30) (i := 1) (x := 234) hK dd_X12_move_30 rfl rfl ?_
        refine g_iload (pc := 31) (i := 4) (x := i) hK dd_X12_move_31 rfl ?_
        refine g_aloadn (pc := 33) (i := 0) (x := 200) hK dd_X12_move_33 rfl rfl ?_
        refine g_getv (pc := 34) (f := (1, 39)) (j := 38) (v := gR 239) hK (kdm kd_200) rfl ef_12 (by decide) rfl kk_1139 dd_X12_move_34 rfl ?_
        refine g_iloadn (pc := 37) (i := 2) (x := 387) hK dd_X12_move_37 rfl rfl ?_
        refine g_iload (pc := 38) (i := 4) (x := i) hK dd_X12_move_38 rfl ?_
        refine g_iadd (pc := 40) (z := 387 + i) hK dd_X12_move_40 rfl ?_
        refine g_iald (pc := 41) hK (kdm kd_239) nl_239 (by decide) dd_X12_move_41 (by omega) (by omega) (fun x8 ex8 rx8 => ?_)
        replace ex8 : x8 = M 239 ((387 + i).toNat) := ex8
        have ex_ : x8 = M 239 (387 + i.toNat) := by rw [ex8, show (387 + i).toNat = 387 + i.toNat by omega]
        refine g_iast (pc := 42) hK (kdm kd_234) nl_234 (by decide) (by decide) dd_X12_move_42 (by omega) (by omega) rx8 ?_
        refine g_iinc (pc := 43) (i := 4) (y := i + 1) (L' := [(0, gR 200), (1, gR 234), (2, gI 387), (3, gI 0), (4, gI (i + 1))]) hK dd_X12_move_43 rfl rfl (by decide) rfl ?_
        refine g_goto (pc := 46) (tgt := 3) hK dd_X12_move_46 (by decide) ?_
        refine g_sub (L' := [(0, gR 200), (1, gR 234), (2, gI 387), (3, gI 0), (4, gI (i + 1))]) [0, 1, 2, 3, 4] rfl ?_
        refine g_mem (M2 := cp M 234 (M 239) 387 0 (i + 1).toNat) (by rw [tn1 (by omega)]; refine Eq.trans ?_ (cp_as (dp := 0) ex_); rw [Nat.zero_add]) ?_
        exact ih2 (i + 1) (by omega) (by omega)
  refine g_mem (M2 := cp M 234 (M 239) 387 0 (0 : Int).toNat) (cp_0.symm) ?_
  refine g_sub (L' := [(0, gR 200), (1, gR 234), (2, gI 387), (3, gI 0), (4, gI 0)]) [0, 1, 2, 3, 4] rfl ?_
  exact lp3 _ 0 (by omega) (Nat.lt_succ_self _)
set_option maxHeartbeats 4000000 in
set_option maxRecDepth 100000 in
theorem d_mvk_235 {l : Launch} {M : Mem} {Pq : Option gV → Mem → Prop}  (hQ : Pq (some (gI 413)) (cp M 239 (M 235) 0 397 16)) : gCtr l my_X12_move mb_X12_move 5 ((some .int)) 1 [gR 200, gR 235, gI 397, gI 1] M Pq := by
  refine g_intro (by decide) (Nat.le_of_ble_eq_true rfl) ?_
  intro p e s m args below meth c D cy q A hK hr hlocks hw
  refine g_sub (L' := [(0, gR 200), (1, gR 235), (2, gI 397), (3, gI 1)]) [0, 1, 2, 3] rfl ?_
  refine g_iconst (pc := 0) (x := 0) hK dd_X12_move_0 (by decide) ?_
  refine g_istore (pc := 1) (i := 4) (L' := [(0, gR 200), (1, gR 235), (2, gI 397), (3, gI 1), (4, gI 0)]) hK dd_X12_move_1 (by decide) rfl ?_
  have lp3 : ∀ (n1 : Nat) (i : Int), (0 ≤ i ∧ i ≤ 16) → (16 - i).toNat < n1 → G p l e (rmD 1) s m args below meth c D cy q A 0 0 5 (MQ below (gQc D cy q A Pq) args s 0 0 A) 3 [(0, gR 200), (1, gR 235), (2, gI 397), (3, gI 1), (4, gI i)] [] (cp M 239 (M 235) 0 397 i.toNat) := by
    intro n1
    induction n1 with
    | zero => intro i iv4 hm5; exact absurd hm5 (Nat.not_lt_zero _)
    | succ n1 ih2 =>
      intro i iv4 hm5
      refine g_iload (pc := 3) (i := 4) (x := i) hK dd_X12_move_3 rfl ?_
      refine g_aloadn (pc := 5) (i := 1) (x := 235) hK dd_X12_move_5 rfl rfl ?_
      refine g_alen (pc := 6) hK (kdm kd_235) rfl dd_X12_move_6 ?_
      refine g_topv (v := gI 16) rfl ?_
      refine g_icmp_ge (pc := 7) (tgt := 49) hK dd_X12_move_7 (by decide) ⟨by omega, by omega⟩ (by decide) (fun c6 => ?_) (fun c6 => ?_)
      · refine g_iloadn (pc := 49) (i := 2) (x := 397) hK dd_X12_move_49 rfl rfl ?_
        refine g_aloadn (pc := 50) (i := 1) (x := 235) hK dd_X12_move_50 rfl rfl ?_
        refine g_alen (pc := 51) hK (kdm kd_235) rfl dd_X12_move_51 ?_
        refine g_topv (v := gI 16) rfl ?_
        refine g_iadd (pc := 52) (z := 413) hK dd_X12_move_52 rfl ?_
        refine g_iret (pc := 53) hK hr hlocks dd_X12_move_53 rfl ?_
        exact g_fin hQ (by first | rfl | omega | (subst_vars; first | rfl | omega)) (by rw [show i = 16 by omega]; rfl)
      · refine g_iloadn (pc := 10) (i := 3) (x := 1) hK dd_X12_move_10 rfl rfl ?_
        refine g_if_eq (pc := 11) (tgt := 30) hK dd_X12_move_11 (by decide) (by decide) (fun c7 => absurd c7 (by decide)) (fun _ => ?_)
        refine g_aloadn (pc := 14) (i := 0) (x := 200) hK dd_X12_move_14 rfl rfl ?_
        refine g_getv (pc := 15) (f := (1, 39)) (j := 38) (v := gR 239) hK (kdm kd_200) rfl ef_12 (by decide) rfl kk_1139 dd_X12_move_15 rfl ?_
        refine g_iloadn (pc := 18) (i := 2) (x := 397) hK dd_X12_move_18 rfl rfl ?_
        refine g_iload (pc := 19) (i := 4) (x := i) hK dd_X12_move_19 rfl ?_
        refine g_iadd (pc := 21) (z := 397 + i) hK dd_X12_move_21 rfl ?_
        refine g_aloadn (pc := 22) (i := 1) (x := 235) hK dd_X12_move_22 rfl rfl ?_
        refine g_iload (pc := 23) (i := 4) (x := i) hK dd_X12_move_23 rfl ?_
        refine g_iald (pc := 25) hK (kdm kd_235) nl_235 (by decide) dd_X12_move_25 (by omega) (by omega) (fun x8 ex8 rx8 => ?_)
        replace ex8 : x8 = M 235 i.toNat := ex8
        have ex_ : x8 = M 235 i.toNat := ex8
        refine g_iast (pc := 26) hK (kdm kd_239) nl_239 (by decide) (by decide) dd_X12_move_26 (by omega) (by omega) rx8 ?_
        refine g_goto (pc := 27) (tgt := 43) hK dd_X12_move_27 (by decide) ?_
        refine g_iinc (pc := 43) (i := 4) (y := i + 1) (L' := [(0, gR 200), (1, gR 235), (2, gI 397), (3, gI 1), (4, gI (i + 1))]) hK dd_X12_move_43 rfl rfl (by decide) rfl ?_
        refine g_goto (pc := 46) (tgt := 3) hK dd_X12_move_46 (by decide) ?_
        refine g_sub (L' := [(0, gR 200), (1, gR 235), (2, gI 397), (3, gI 1), (4, gI (i + 1))]) [0, 1, 2, 3, 4] rfl ?_
        refine g_mem (M2 := cp M 239 (M 235) 0 397 (i + 1).toNat) (by rw [tn1 (by omega), show (397 + i).toNat = 397 + i.toNat by omega]; exact cp_as (by rw [Nat.zero_add]; exact ex_)) ?_
        exact ih2 (i + 1) (by omega) (by omega)
  refine g_mem (M2 := cp M 239 (M 235) 0 397 (0 : Int).toNat) (cp_0.symm) ?_
  refine g_sub (L' := [(0, gR 200), (1, gR 235), (2, gI 397), (3, gI 1), (4, gI 0)]) [0, 1, 2, 3, 4] rfl ?_
  exact lp3 _ 0 (by omega) (Nat.lt_succ_self _)
set_option maxHeartbeats 4000000 in
set_option maxRecDepth 100000 in
theorem d_mvb_235 {l : Launch} {M : Mem} {Pq : Option gV → Mem → Prop}  (hQ : Pq (some (gI 413)) (cp M 235 (M 239) 397 0 16)) : gCtr l my_X12_move mb_X12_move 5 ((some .int)) 1 [gR 200, gR 235, gI 397, gI 0] M Pq := by
  refine g_intro (by decide) (Nat.le_of_ble_eq_true rfl) ?_
  intro p e s m args below meth c D cy q A hK hr hlocks hw
  refine g_sub (L' := [(0, gR 200), (1, gR 235), (2, gI 397), (3, gI 0)]) [0, 1, 2, 3] rfl ?_
  refine g_iconst (pc := 0) (x := 0) hK dd_X12_move_0 (by decide) ?_
  refine g_istore (pc := 1) (i := 4) (L' := [(0, gR 200), (1, gR 235), (2, gI 397), (3, gI 0), (4, gI 0)]) hK dd_X12_move_1 (by decide) rfl ?_
  have lp3 : ∀ (n1 : Nat) (i : Int), (0 ≤ i ∧ i ≤ 16) → (16 - i).toNat < n1 → G p l e (rmD 1) s m args below meth c D cy q A 0 0 5 (MQ below (gQc D cy q A Pq) args s 0 0 A) 3 [(0, gR 200), (1, gR 235), (2, gI 397), (3, gI 0), (4, gI i)] [] (cp M 235 (M 239) 397 0 i.toNat) := by
    intro n1
    induction n1 with
    | zero => intro i iv4 hm5; exact absurd hm5 (Nat.not_lt_zero _)
    | succ n1 ih2 =>
      intro i iv4 hm5
      refine g_iload (pc := 3) (i := 4) (x := i) hK dd_X12_move_3 rfl ?_
      refine g_aloadn (pc := 5) (i := 1) (x := 235) hK dd_X12_move_5 rfl rfl ?_
      refine g_alen (pc := 6) hK (kdm kd_235) rfl dd_X12_move_6 ?_
      refine g_topv (v := gI 16) rfl ?_
      refine g_icmp_ge (pc := 7) (tgt := 49) hK dd_X12_move_7 (by decide) ⟨by omega, by omega⟩ (by decide) (fun c6 => ?_) (fun c6 => ?_)
      · refine g_iloadn (pc := 49) (i := 2) (x := 397) hK dd_X12_move_49 rfl rfl ?_
        refine g_aloadn (pc := 50) (i := 1) (x := 235) hK dd_X12_move_50 rfl rfl ?_
        refine g_alen (pc := 51) hK (kdm kd_235) rfl dd_X12_move_51 ?_
        refine g_topv (v := gI 16) rfl ?_
        refine g_iadd (pc := 52) (z := 413) hK dd_X12_move_52 rfl ?_
        refine g_iret (pc := 53) hK hr hlocks dd_X12_move_53 rfl ?_
        exact g_fin hQ (by first | rfl | omega | (subst_vars; first | rfl | omega)) (by rw [show i = 16 by omega]; rfl)
      · refine g_iloadn (pc := 10) (i := 3) (x := 0) hK dd_X12_move_10 rfl rfl ?_
        refine g_if_eq (pc := 11) (tgt := 30) hK dd_X12_move_11 (by decide) (by decide) (fun _ => ?_) (fun c7 => absurd (by decide) c7)
        refine g_aloadn (pc := 30) (i := 1) (x := 235) hK dd_X12_move_30 rfl rfl ?_
        refine g_iload (pc := 31) (i := 4) (x := i) hK dd_X12_move_31 rfl ?_
        refine g_aloadn (pc := 33) (i := 0) (x := 200) hK dd_X12_move_33 rfl rfl ?_
        refine g_getv (pc := 34) (f := (1, 39)) (j := 38) (v := gR 239) hK (kdm kd_200) rfl ef_12 (by decide) rfl kk_1139 dd_X12_move_34 rfl ?_
        refine g_iloadn (pc := 37) (i := 2) (x := 397) hK dd_X12_move_37 rfl rfl ?_
        refine g_iload (pc := 38) (i := 4) (x := i) hK dd_X12_move_38 rfl ?_
        refine g_iadd (pc := 40) (z := 397 + i) hK dd_X12_move_40 rfl ?_
        refine g_iald (pc := 41) hK (kdm kd_239) nl_239 (by decide) dd_X12_move_41 (by omega) (by omega) (fun x8 ex8 rx8 => ?_)
        replace ex8 : x8 = M 239 ((397 + i).toNat) := ex8
        have ex_ : x8 = M 239 (397 + i.toNat) := by rw [ex8, show (397 + i).toNat = 397 + i.toNat by omega]
        refine g_iast (pc := 42) hK (kdm kd_235) nl_235 (by decide) (by decide) dd_X12_move_42 (by omega) (by omega) rx8 ?_
        refine g_iinc (pc := 43) (i := 4) (y := i + 1) (L' := [(0, gR 200), (1, gR 235), (2, gI 397), (3, gI 0), (4, gI (i + 1))]) hK dd_X12_move_43 rfl rfl (by decide) rfl ?_
        refine g_goto (pc := 46) (tgt := 3) hK dd_X12_move_46 (by decide) ?_
        refine g_sub (L' := [(0, gR 200), (1, gR 235), (2, gI 397), (3, gI 0), (4, gI (i + 1))]) [0, 1, 2, 3, 4] rfl ?_
        refine g_mem (M2 := cp M 235 (M 239) 397 0 (i + 1).toNat) (by rw [tn1 (by omega)]; refine Eq.trans ?_ (cp_as (dp := 0) ex_); rw [Nat.zero_add]) ?_
        exact ih2 (i + 1) (by omega) (by omega)
  refine g_mem (M2 := cp M 235 (M 239) 397 0 (0 : Int).toNat) (cp_0.symm) ?_
  refine g_sub (L' := [(0, gR 200), (1, gR 235), (2, gI 397), (3, gI 0), (4, gI 0)]) [0, 1, 2, 3, 4] rfl ?_
  exact lp3 _ 0 (by omega) (Nat.lt_succ_self _)
set_option maxHeartbeats 4000000 in
set_option maxRecDepth 100000 in
theorem d_mvk_236 {l : Launch} {M : Mem} {Pq : Option gV → Mem → Prop}  (hQ : Pq (some (gI 417)) (cp M 239 (M 236) 0 413 4)) : gCtr l my_X12_move mb_X12_move 5 ((some .int)) 1 [gR 200, gR 236, gI 413, gI 1] M Pq := by
  refine g_intro (by decide) (Nat.le_of_ble_eq_true rfl) ?_
  intro p e s m args below meth c D cy q A hK hr hlocks hw
  refine g_sub (L' := [(0, gR 200), (1, gR 236), (2, gI 413), (3, gI 1)]) [0, 1, 2, 3] rfl ?_
  refine g_iconst (pc := 0) (x := 0) hK dd_X12_move_0 (by decide) ?_
  refine g_istore (pc := 1) (i := 4) (L' := [(0, gR 200), (1, gR 236), (2, gI 413), (3, gI 1), (4, gI 0)]) hK dd_X12_move_1 (by decide) rfl ?_
  have lp3 : ∀ (n1 : Nat) (i : Int), (0 ≤ i ∧ i ≤ 4) → (4 - i).toNat < n1 → G p l e (rmD 1) s m args below meth c D cy q A 0 0 5 (MQ below (gQc D cy q A Pq) args s 0 0 A) 3 [(0, gR 200), (1, gR 236), (2, gI 413), (3, gI 1), (4, gI i)] [] (cp M 239 (M 236) 0 413 i.toNat) := by
    intro n1
    induction n1 with
    | zero => intro i iv4 hm5; exact absurd hm5 (Nat.not_lt_zero _)
    | succ n1 ih2 =>
      intro i iv4 hm5
      refine g_iload (pc := 3) (i := 4) (x := i) hK dd_X12_move_3 rfl ?_
      refine g_aloadn (pc := 5) (i := 1) (x := 236) hK dd_X12_move_5 rfl rfl ?_
      refine g_alen (pc := 6) hK (kdm kd_236) rfl dd_X12_move_6 ?_
      refine g_topv (v := gI 4) rfl ?_
      refine g_icmp_ge (pc := 7) (tgt := 49) hK dd_X12_move_7 (by decide) ⟨by omega, by omega⟩ (by decide) (fun c6 => ?_) (fun c6 => ?_)
      · refine g_iloadn (pc := 49) (i := 2) (x := 413) hK dd_X12_move_49 rfl rfl ?_
        refine g_aloadn (pc := 50) (i := 1) (x := 236) hK dd_X12_move_50 rfl rfl ?_
        refine g_alen (pc := 51) hK (kdm kd_236) rfl dd_X12_move_51 ?_
        refine g_topv (v := gI 4) rfl ?_
        refine g_iadd (pc := 52) (z := 417) hK dd_X12_move_52 rfl ?_
        refine g_iret (pc := 53) hK hr hlocks dd_X12_move_53 rfl ?_
        exact g_fin hQ (by first | rfl | omega | (subst_vars; first | rfl | omega)) (by rw [show i = 4 by omega]; rfl)
      · refine g_iloadn (pc := 10) (i := 3) (x := 1) hK dd_X12_move_10 rfl rfl ?_
        refine g_if_eq (pc := 11) (tgt := 30) hK dd_X12_move_11 (by decide) (by decide) (fun c7 => absurd c7 (by decide)) (fun _ => ?_)
        refine g_aloadn (pc := 14) (i := 0) (x := 200) hK dd_X12_move_14 rfl rfl ?_
        refine g_getv (pc := 15) (f := (1, 39)) (j := 38) (v := gR 239) hK (kdm kd_200) rfl ef_12 (by decide) rfl kk_1139 dd_X12_move_15 rfl ?_
        refine g_iloadn (pc := 18) (i := 2) (x := 413) hK dd_X12_move_18 rfl rfl ?_
        refine g_iload (pc := 19) (i := 4) (x := i) hK dd_X12_move_19 rfl ?_
        refine g_iadd (pc := 21) (z := 413 + i) hK dd_X12_move_21 rfl ?_
        refine g_aloadn (pc := 22) (i := 1) (x := 236) hK dd_X12_move_22 rfl rfl ?_
        refine g_iload (pc := 23) (i := 4) (x := i) hK dd_X12_move_23 rfl ?_
        refine g_iald (pc := 25) hK (kdm kd_236) nl_236 (by decide) dd_X12_move_25 (by omega) (by omega) (fun x8 ex8 rx8 => ?_)
        replace ex8 : x8 = M 236 i.toNat := ex8
        have ex_ : x8 = M 236 i.toNat := ex8
        refine g_iast (pc := 26) hK (kdm kd_239) nl_239 (by decide) (by decide) dd_X12_move_26 (by omega) (by omega) rx8 ?_
        refine g_goto (pc := 27) (tgt := 43) hK dd_X12_move_27 (by decide) ?_
        refine g_iinc (pc := 43) (i := 4) (y := i + 1) (L' := [(0, gR 200), (1, gR 236), (2, gI 413), (3, gI 1), (4, gI (i + 1))]) hK dd_X12_move_43 rfl rfl (by decide) rfl ?_
        refine g_goto (pc := 46) (tgt := 3) hK dd_X12_move_46 (by decide) ?_
        refine g_sub (L' := [(0, gR 200), (1, gR 236), (2, gI 413), (3, gI 1), (4, gI (i + 1))]) [0, 1, 2, 3, 4] rfl ?_
        refine g_mem (M2 := cp M 239 (M 236) 0 413 (i + 1).toNat) (by rw [tn1 (by omega), show (413 + i).toNat = 413 + i.toNat by omega]; exact cp_as (by rw [Nat.zero_add]; exact ex_)) ?_
        exact ih2 (i + 1) (by omega) (by omega)
  refine g_mem (M2 := cp M 239 (M 236) 0 413 (0 : Int).toNat) (cp_0.symm) ?_
  refine g_sub (L' := [(0, gR 200), (1, gR 236), (2, gI 413), (3, gI 1), (4, gI 0)]) [0, 1, 2, 3, 4] rfl ?_
  exact lp3 _ 0 (by omega) (Nat.lt_succ_self _)
set_option maxHeartbeats 4000000 in
set_option maxRecDepth 100000 in
theorem d_mvb_236 {l : Launch} {M : Mem} {Pq : Option gV → Mem → Prop}  (hQ : Pq (some (gI 417)) (cp M 236 (M 239) 413 0 4)) : gCtr l my_X12_move mb_X12_move 5 ((some .int)) 1 [gR 200, gR 236, gI 413, gI 0] M Pq := by
  refine g_intro (by decide) (Nat.le_of_ble_eq_true rfl) ?_
  intro p e s m args below meth c D cy q A hK hr hlocks hw
  refine g_sub (L' := [(0, gR 200), (1, gR 236), (2, gI 413), (3, gI 0)]) [0, 1, 2, 3] rfl ?_
  refine g_iconst (pc := 0) (x := 0) hK dd_X12_move_0 (by decide) ?_
  refine g_istore (pc := 1) (i := 4) (L' := [(0, gR 200), (1, gR 236), (2, gI 413), (3, gI 0), (4, gI 0)]) hK dd_X12_move_1 (by decide) rfl ?_
  have lp3 : ∀ (n1 : Nat) (i : Int), (0 ≤ i ∧ i ≤ 4) → (4 - i).toNat < n1 → G p l e (rmD 1) s m args below meth c D cy q A 0 0 5 (MQ below (gQc D cy q A Pq) args s 0 0 A) 3 [(0, gR 200), (1, gR 236), (2, gI 413), (3, gI 0), (4, gI i)] [] (cp M 236 (M 239) 413 0 i.toNat) := by
    intro n1
    induction n1 with
    | zero => intro i iv4 hm5; exact absurd hm5 (Nat.not_lt_zero _)
    | succ n1 ih2 =>
      intro i iv4 hm5
      refine g_iload (pc := 3) (i := 4) (x := i) hK dd_X12_move_3 rfl ?_
      refine g_aloadn (pc := 5) (i := 1) (x := 236) hK dd_X12_move_5 rfl rfl ?_
      refine g_alen (pc := 6) hK (kdm kd_236) rfl dd_X12_move_6 ?_
      refine g_topv (v := gI 4) rfl ?_
      refine g_icmp_ge (pc := 7) (tgt := 49) hK dd_X12_move_7 (by decide) ⟨by omega, by omega⟩ (by decide) (fun c6 => ?_) (fun c6 => ?_)
      · refine g_iloadn (pc := 49) (i := 2) (x := 413) hK dd_X12_move_49 rfl rfl ?_
        refine g_aloadn (pc := 50) (i := 1) (x := 236) hK dd_X12_move_50 rfl rfl ?_
        refine g_alen (pc := 51) hK (kdm kd_236) rfl dd_X12_move_51 ?_
        refine g_topv (v := gI 4) rfl ?_
        refine g_iadd (pc := 52) (z := 417) hK dd_X12_move_52 rfl ?_
        refine g_iret (pc := 53) hK hr hlocks dd_X12_move_53 rfl ?_
        exact g_fin hQ (by first | rfl | omega | (subst_vars; first | rfl | omega)) (by rw [show i = 4 by omega]; rfl)
      · refine g_iloadn (pc := 10) (i := 3) (x := 0) hK dd_X12_move_10 rfl rfl ?_
        refine g_if_eq (pc := 11) (tgt := 30) hK dd_X12_move_11 (by decide) (by decide) (fun _ => ?_) (fun c7 => absurd (by decide) c7)
        refine g_aloadn (pc := 30) (i := 1) (x := 236) hK dd_X12_move_30 rfl rfl ?_
        refine g_iload (pc := 31) (i := 4) (x := i) hK dd_X12_move_31 rfl ?_
        refine g_aloadn (pc := 33) (i := 0) (x := 200) hK dd_X12_move_33 rfl rfl ?_
        refine g_getv (pc := 34) (f := (1, 39)) (j := 38) (v := gR 239) hK (kdm kd_200) rfl ef_12 (by decide) rfl kk_1139 dd_X12_move_34 rfl ?_
        refine g_iloadn (pc := 37) (i := 2) (x := 413) hK dd_X12_move_37 rfl rfl ?_
        refine g_iload (pc := 38) (i := 4) (x := i) hK dd_X12_move_38 rfl ?_
        refine g_iadd (pc := 40) (z := 413 + i) hK dd_X12_move_40 rfl ?_
        refine g_iald (pc := 41) hK (kdm kd_239) nl_239 (by decide) dd_X12_move_41 (by omega) (by omega) (fun x8 ex8 rx8 => ?_)
        replace ex8 : x8 = M 239 ((413 + i).toNat) := ex8
        have ex_ : x8 = M 239 (413 + i.toNat) := by rw [ex8, show (413 + i).toNat = 413 + i.toNat by omega]
        refine g_iast (pc := 42) hK (kdm kd_236) nl_236 (by decide) (by decide) dd_X12_move_42 (by omega) (by omega) rx8 ?_
        refine g_iinc (pc := 43) (i := 4) (y := i + 1) (L' := [(0, gR 200), (1, gR 236), (2, gI 413), (3, gI 0), (4, gI (i + 1))]) hK dd_X12_move_43 rfl rfl (by decide) rfl ?_
        refine g_goto (pc := 46) (tgt := 3) hK dd_X12_move_46 (by decide) ?_
        refine g_sub (L' := [(0, gR 200), (1, gR 236), (2, gI 413), (3, gI 0), (4, gI (i + 1))]) [0, 1, 2, 3, 4] rfl ?_
        refine g_mem (M2 := cp M 236 (M 239) 413 0 (i + 1).toNat) (by rw [tn1 (by omega)]; refine Eq.trans ?_ (cp_as (dp := 0) ex_); rw [Nat.zero_add]) ?_
        exact ih2 (i + 1) (by omega) (by omega)
  refine g_mem (M2 := cp M 236 (M 239) 413 0 (0 : Int).toNat) (cp_0.symm) ?_
  refine g_sub (L' := [(0, gR 200), (1, gR 236), (2, gI 413), (3, gI 0), (4, gI 0)]) [0, 1, 2, 3, 4] rfl ?_
  exact lp3 _ 0 (by omega) (Nat.lt_succ_self _)
