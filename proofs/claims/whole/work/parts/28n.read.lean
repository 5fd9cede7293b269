set_option maxHeartbeats 4000000 in
set_option maxRecDepth 100000 in
theorem d_isLetter {l : Launch} {M : Mem} {Pq : Option gV → Mem → Prop} (x : Int) (h1 : inI x) (hT : (97 ≤ x ∧ x ≤ 122) → Pq (some (gI 1)) M) (hF : ¬ (97 ≤ x ∧ x ≤ 122) → Pq (some (gI 0)) M) : gCtr l my_X12_isLetter mb_X12_isLetter 2 ((some .boolean)) 1 [gR 200, gI x] M Pq := by
  refine g_intro (by decide) (Nat.le_of_ble_eq_true rfl) ?_
  intro p e s m args below meth c D cy q A hK hr hlocks hw
  refine g_sub (L' := [(0, gR 200), (1, gI x)]) [0, 1] rfl ?_
  refine g_iloadn (pc := 0) (i := 1) (x := x) hK dd_X12_isLetter_0 rfl rfl ?_
  refine g_bipush (pc := 1) (x := 97) hK dd_X12_isLetter_1 (by decide) ?_
  refine g_icmp_lt (pc := 3) (tgt := 16) hK dd_X12_isLetter_3 (by decide) h1 (by decide) (fun c1 => ?_) (fun c1 => ?_)
  · refine g_iconst (pc := 16) (x := 0) hK dd_X12_isLetter_16 (by decide) ?_
    refine g_iret (pc := 17) hK hr hlocks dd_X12_isLetter_17 rfl ?_
    exact g_finM (hF (by subst_vars; first | assumption | omega | simp_all)) (by first | rfl | (subst_vars; rfl))
  · refine g_iloadn (pc := 6) (i := 1) (x := x) hK dd_X12_isLetter_6 rfl rfl ?_
    refine g_bipush (pc := 7) (x := 122) hK dd_X12_isLetter_7 (by decide) ?_
    refine g_icmp_gt (pc := 9) (tgt := 16) hK dd_X12_isLetter_9 (by decide) h1 (by decide) (fun c2 => ?_) (fun c2 => ?_)
    · refine g_iconst (pc := 16) (x := 0) hK dd_X12_isLetter_16 (by decide) ?_
      refine g_iret (pc := 17) hK hr hlocks dd_X12_isLetter_17 rfl ?_
      exact g_finM (hF (by subst_vars; first | assumption | omega | simp_all)) (by first | rfl | (subst_vars; rfl))
    · refine g_iconst (pc := 12) (x := 1) hK dd_X12_isLetter_12 (by decide) ?_
      refine g_goto (pc := 13) (tgt := 17) hK dd_X12_isLetter_13 (by decide) ?_
      refine g_iret (pc := 17) hK hr hlocks dd_X12_isLetter_17 rfl ?_
      exact g_finM (hT (by subst_vars; first | assumption | omega | simp_all)) (by first | rfl | (subst_vars; rfl))
set_option maxHeartbeats 4000000 in
set_option maxRecDepth 100000 in
theorem d_isDigit {l : Launch} {M : Mem} {Pq : Option gV → Mem → Prop} (x : Int) (h1 : inI x) (hT : (48 ≤ x ∧ x ≤ 57) → Pq (some (gI 1)) M) (hF : ¬ (48 ≤ x ∧ x ≤ 57) → Pq (some (gI 0)) M) : gCtr l my_X12_isDigit mb_X12_isDigit 2 ((some .boolean)) 1 [gR 200, gI x] M Pq := by
  refine g_intro (by decide) (Nat.le_of_ble_eq_true rfl) ?_
  intro p e s m args below meth c D cy q A hK hr hlocks hw
  refine g_sub (L' := [(0, gR 200), (1, gI x)]) [0, 1] rfl ?_
  refine g_iloadn (pc := 0) (i := 1) (x := x) hK dd_X12_isDigit_0 rfl rfl ?_
  refine g_bipush (pc := 1) (x := 48) hK dd_X12_isDigit_1 (by decide) ?_
  refine g_icmp_lt (pc := 3) (tgt := 16) hK dd_X12_isDigit_3 (by decide) h1 (by decide) (fun c1 => ?_) (fun c1 => ?_)
  · refine g_iconst (pc := 16) (x := 0) hK dd_X12_isDigit_16 (by decide) ?_
    refine g_iret (pc := 17) hK hr hlocks dd_X12_isDigit_17 rfl ?_
    exact g_finM (hF (by subst_vars; first | assumption | omega | simp_all)) (by first | rfl | (subst_vars; rfl))
  · refine g_iloadn (pc := 6) (i := 1) (x := x) hK dd_X12_isDigit_6 rfl rfl ?_
    refine g_bipush (pc := 7) (x := 57) hK dd_X12_isDigit_7 (by decide) ?_
    refine g_icmp_gt (pc := 9) (tgt := 16) hK dd_X12_isDigit_9 (by decide) h1 (by decide) (fun c2 => ?_) (fun c2 => ?_)
    · refine g_iconst (pc := 16) (x := 0) hK dd_X12_isDigit_16 (by decide) ?_
      refine g_iret (pc := 17) hK hr hlocks dd_X12_isDigit_17 rfl ?_
      exact g_finM (hF (by subst_vars; first | assumption | omega | simp_all)) (by first | rfl | (subst_vars; rfl))
    · refine g_iconst (pc := 12) (x := 1) hK dd_X12_isDigit_12 (by decide) ?_
      refine g_goto (pc := 13) (tgt := 17) hK dd_X12_isDigit_13 (by decide) ?_
      refine g_iret (pc := 17) hK hr hlocks dd_X12_isDigit_17 rfl ?_
      exact g_finM (hT (by subst_vars; first | assumption | omega | simp_all)) (by first | rfl | (subst_vars; rfl))
set_option maxHeartbeats 4000000 in
set_option maxRecDepth 100000 in
theorem d_mayBe {l : Launch} {M : Mem} {Pq : Option gV → Mem → Prop} (w : Int) (v : Int) (h1 : 0 ≤ w ∧ w ≤ 4) (h2 : 0 ≤ v ∧ v ≤ 999) (hT : (mayT w v) → Pq (some (gI 1)) M) (hF : ¬ (mayT w v) → Pq (some (gI 0)) M) : gCtr l my_X12_mayBe mb_X12_mayBe 3 ((some .boolean)) 1 [gR 200, gI w, gI v] M Pq := by
  refine g_intro (by decide) (Nat.le_of_ble_eq_true rfl) ?_
  intro p e s m args below meth c D cy q A hK hr hlocks hw
  refine g_sub (L' := [(0, gR 200), (1, gI w), (2, gI v)]) [0, 1, 2] rfl ?_
  refine g_iloadn (pc := 0) (i := 1) (x := w) hK dd_X12_mayBe_0 rfl rfl ?_
  refine g_iconst (pc := 1) (x := 2) hK dd_X12_mayBe_1 (by decide) ?_
  refine g_icmp_ge (pc := 2) (tgt := 18) hK dd_X12_mayBe_2 (by decide) ⟨by omega, by omega⟩ (by decide) (fun c1 => ?_) (fun c1 => ?_)
  · refine g_iloadn (pc := 18) (i := 1) (x := w) hK dd_X12_mayBe_18 rfl rfl ?_
    refine g_iconst (pc := 19) (x := 2) hK dd_X12_mayBe_19 (by decide) ?_
    refine g_icmp_ne (pc := 20) (tgt := 34) hK dd_X12_mayBe_20 (by decide) ⟨by omega, by omega⟩ (by decide) (fun c2 => ?_) (fun c2 => ?_)
    · refine g_iconst (pc := 34) (x := 1) hK dd_X12_mayBe_34 (by decide) ?_
      refine g_goto (pc := 35) (tgt := 39) hK dd_X12_mayBe_35 (by decide) ?_
      refine g_iret (pc := 39) hK hr hlocks dd_X12_mayBe_39 rfl ?_
      exact g_finM (hT (by rw [may_eq h1.1 h1.2 h2.1 h2.2]; omega)) (by first | rfl | (subst_vars; rfl))
    · refine g_iloadn (pc := 23) (i := 2) (x := v) hK dd_X12_mayBe_23 rfl rfl ?_
      refine g_iconst (pc := 24) (x := 1) hK dd_X12_mayBe_24 (by decide) ?_
      refine g_icmp_lt (pc := 25) (tgt := 38) hK dd_X12_mayBe_25 (by decide) ⟨by omega, by omega⟩ (by decide) (fun c3 => ?_) (fun c3 => ?_)
      · refine g_iconst (pc := 38) (x := 0) hK dd_X12_mayBe_38 (by decide) ?_
        refine g_iret (pc := 39) hK hr hlocks dd_X12_mayBe_39 rfl ?_
        exact g_finM (hF (by rw [may_eq h1.1 h1.2 h2.1 h2.2]; omega)) (by first | rfl | (subst_vars; rfl))
      · refine g_iloadn (pc := 28) (i := 2) (x := v) hK dd_X12_mayBe_28 rfl rfl ?_
        refine g_bipush (pc := 29) (x := 50) hK dd_X12_mayBe_29 (by decide) ?_
        refine g_icmp_gt (pc := 31) (tgt := 38) hK dd_X12_mayBe_31 (by decide) ⟨by omega, by omega⟩ (by decide) (fun c4 => ?_) (fun c4 => ?_)
        · refine g_iconst (pc := 38) (x := 0) hK dd_X12_mayBe_38 (by decide) ?_
          refine g_iret (pc := 39) hK hr hlocks dd_X12_mayBe_39 rfl ?_
          exact g_finM (hF (by rw [may_eq h1.1 h1.2 h2.1 h2.2]; omega)) (by first | rfl | (subst_vars; rfl))
        · refine g_iconst (pc := 34) (x := 1) hK dd_X12_mayBe_34 (by decide) ?_
          refine g_goto (pc := 35) (tgt := 39) hK dd_X12_mayBe_35 (by decide) ?_
          refine g_iret (pc := 39) hK hr hlocks dd_X12_mayBe_39 rfl ?_
          exact g_finM (hT (by rw [may_eq h1.1 h1.2 h2.1 h2.2]; omega)) (by first | rfl | (subst_vars; rfl))
  · refine g_iloadn (pc := 5) (i := 2) (x := v) hK dd_X12_mayBe_5 rfl rfl ?_
    refine g_sipush (pc := 6) (x := 200) hK dd_X12_mayBe_6 (by decide) ?_
    refine g_icmp_gt (pc := 9) (tgt := 16) hK dd_X12_mayBe_9 (by decide) ⟨by omega, by omega⟩ (by decide) (fun c5 => ?_) (fun c5 => ?_)
    · refine g_iconst (pc := 16) (x := 0) hK dd_X12_mayBe_16 (by decide) ?_
      refine g_iret (pc := 17) hK hr hlocks dd_X12_mayBe_17 rfl ?_
      exact g_finM (hF (by rw [may_eq h1.1 h1.2 h2.1 h2.2]; omega)) (by first | rfl | (subst_vars; rfl))
    · refine g_iconst (pc := 12) (x := 1) hK dd_X12_mayBe_12 (by decide) ?_
      refine g_goto (pc := 13) (tgt := 17) hK dd_X12_mayBe_13 (by decide) ?_
      refine g_iret (pc := 17) hK hr hlocks dd_X12_mayBe_17 rfl ?_
      exact g_finM (hT (by rw [may_eq h1.1 h1.2 h2.1 h2.2]; omega)) (by first | rfl | (subst_vars; rfl))
set_option maxHeartbeats 4000000 in
set_option maxRecDepth 100000 in
theorem d_is0 {l : Launch} {M : Mem} {Pq : Option gV → Mem → Prop} (px : Int) (qx : Int) (hbe : 0 ≤ px ∧ px ≤ qx ∧ qx ≤ 120) (hT : (wdIs (M 218) px.toNat qx.toNat [107, 110, 111, 119, 110]) → Pq (some (gI 1)) M) (hF : ¬ (wdIs (M 218) px.toNat qx.toNat [107, 110, 111, 119, 110]) → Pq (some (gI 0)) M) : gCtr l my_X12_is mb_X12_is 5 ((some .boolean)) 5 [gR 200, gI px, gI qx, gR 420] M Pq := by
  refine g_intro (by decide) (Nat.le_of_ble_eq_true rfl) ?_
  intro p e s m args below meth c D cy q A hK hr hlocks hw
  refine g_sub (L' := [(0, gR 200), (1, gI px), (2, gI qx), (3, gR 420)]) [0, 1, 2, 3] rfl ?_
  refine g_iloadn (pc := 0) (i := 2) (x := qx) hK dd_X12_is_0 rfl rfl ?_
  refine g_iloadn (pc := 1) (i := 1) (x := px) hK dd_X12_is_1 rfl rfl ?_
  refine g_isub (pc := 2) (z := qx - px) hK dd_X12_is_2 rfl ?_
  refine g_aloadn (pc := 3) (i := 3) (x := 420) hK dd_X12_is_3 rfl rfl ?_
  refine g_len (pc := 4) 5 rfl hK ws_M_216 ⟨Nat.zero_le _, Nat.zero_le _⟩ ⟨by decide, by decide⟩ (Nat.le_of_ble_eq_true rfl) dd_X12_is_4 (by decide) ?_
  refine g_topv (v := gI 5) rfl ?_
  refine g_icmp_eq (pc := 7) (tgt := 12) hK dd_X12_is_7 (by decide) ⟨by omega, by omega⟩ (by decide) (fun c1 => ?_) (fun c1 => ?_)
  · have hln_ : qx.toNat - px.toNat = 5 := by omega
    refine g_iconst (pc := 12) (x := 0) hK dd_X12_is_12 (by decide) ?_
    refine g_istore (pc := 13) (i := 4) (L' := [(0, gR 200), (1, gI px), (2, gI qx), (3, gR 420), (4, gI 0)]) hK dd_X12_is_13 (by decide) rfl ?_
    have lp4 : ∀ (n2 : Nat) (i : Int), (0 ≤ i ∧ i ≤ 5) → (∀ j : Nat, (j : Int) < i → M 218 (px.toNat + j) = ([107, 110, 111, 119, 110] : List Int).getD j 0) → (5 - i).toNat < n2 → G p l e (rmD 5) s m args below meth c D cy q A 0 0 5 (MQ below (gQc D cy q A Pq) args s 0 0 A) 15 [(0, gR 200), (1, gI px), (2, gI qx), (3, gR 420), (4, gI i)] [] M := by
      intro n2
      induction n2 with
      | zero => intro i iv5 hw_ hm6; exact absurd hm6 (Nat.not_lt_zero _)
      | succ n2 ih3 =>
        intro i iv5 hw_ hm6
        refine g_iload (pc := 15) (i := 4) (x := i) hK dd_X12_is_15 rfl ?_
        refine g_aloadn (pc := 17) (i := 3) (x := 420) hK dd_X12_is_17 rfl rfl ?_
        refine g_len (pc := 18) 5 rfl hK ws_M_216 ⟨Nat.zero_le _, Nat.zero_le _⟩ ⟨by decide, by decide⟩ (Nat.le_of_ble_eq_true rfl) dd_X12_is_18 (by decide) ?_
        refine g_topv (v := gI 5) rfl ?_
        refine g_icmp_ge (pc := 21) (tgt := 50) hK dd_X12_is_21 (by decide) ⟨by omega, by omega⟩ (by decide) (fun c7 => ?_) (fun c7 => ?_)
        · have hyes_ : wdIs (M 218) px.toNat qx.toNat [107, 110, 111, 119, 110] := ⟨hln_, by omega, fun j hj => hw_ j (by have q_ : j < 5 := hj; omega)⟩
          refine g_iconst (pc := 50) (x := 1) hK dd_X12_is_50 (by decide) ?_
          refine g_iret (pc := 51) hK hr hlocks dd_X12_is_51 rfl ?_
          exact g_finM (hT (by first | exact hyes_ | exact hno_)) (by first | rfl | (subst_vars; rfl))
        · refine g_aloadn (pc := 24) (i := 0) (x := 200) hK dd_X12_is_24 rfl rfl ?_
          refine g_getv (pc := 25) (f := (1, 18)) (j := 17) (v := gR 218) hK (kdm kd_200) rfl ef_12 (by decide) rfl kk_1118 dd_X12_is_25 rfl ?_
          refine g_iloadn (pc := 28) (i := 1) (x := px) hK dd_X12_is_28 rfl rfl ?_
          refine g_iload (pc := 29) (i := 4) (x := i) hK dd_X12_is_29 rfl ?_
          refine g_iadd (pc := 31) (z := px + i) hK dd_X12_is_31 rfl ?_
          have hix_ : (px + i).toNat = px.toNat + i.toNat := by omega
          refine g_iald (pc := 32) hK (kdm kd_218) nl_218 (by decide) dd_X12_is_32 (by omega) (by omega) (fun x8 ex8 rx8 => ?_)
          refine g_aloadn (pc := 33) (i := 3) (x := 420) hK dd_X12_is_33 rfl rfl ?_
          refine g_iload (pc := 34) (i := 4) (x := i) hK dd_X12_is_34 rfl ?_
          have hy9 := wd_in (w := [107, 110, 111, 119, 110]) (by decide) i.toNat
          refine g_chr (pc := 36) 5 rfl hK ws_M_222 ⟨Nat.zero_le _, Nat.zero_le _⟩ ⟨by decide, by decide⟩ (Nat.le_of_ble_eq_true rfl) dd_X12_is_36 (by decide) (by omega) (by omega) hy9 ?_
          refine g_topv (v := gI (([107, 110, 111, 119, 110] : List Int).getD i.toNat 0)) rfl ?_
          refine g_topI (fun y9 ey9 => ?_)
          rw [← ey9] at hy9
          have hch_ : y9 = ([107, 110, 111, 119, 110] : List Int).getD i.toNat 0 := ey9
          have hby_ : x8 = M 218 (px.toNat + i.toNat) := by rw [← hix_]; exact ex8
          refine g_icmp_eq (pc := 39) (tgt := 44) hK dd_X12_is_39 (by decide) rx8 ⟨by omega, by omega⟩ (fun c10 => ?_) (fun c10 => ?_)
          · have hcs_ : M 218 (px.toNat + i.toNat) = ([107, 110, 111, 119, 110] : List Int).getD i.toNat 0 := by rw [← hby_, ← hch_]; omega
            refine g_iinc (pc := 44) (i := 4) (y := i + 1) (L' := [(0, gR 200), (1, gI px), (2, gI qx), (3, gR 420), (4, gI (i + 1))]) hK dd_X12_is_44 rfl rfl (by decide) rfl ?_
            refine g_goto (pc := 47) (tgt := 15) hK dd_X12_is_47 (by decide) ?_
            refine g_sub (L' := [(0, gR 200), (1, gI px), (2, gI qx), (3, gR 420), (4, gI (i + 1))]) [0, 1, 2, 3, 4] rfl ?_
            exact ih3 (i + 1) (by omega) (fun j hj => by
              by_cases e : (j : Int) < i
              · exact hw_ j e
              · rw [show j = i.toNat by omega]; exact hcs_) (by omega)
          · have hno_ : ¬ wdIs (M 218) px.toNat qx.toNat [107, 110, 111, 119, 110] := fun z => by
              have q_ := z.2.2 i.toNat (by show i.toNat < 5; omega)
              rw [← hby_, ← hch_] at q_
              omega
            refine g_iconst (pc := 42) (x := 0) hK dd_X12_is_42 (by decide) ?_
            refine g_iret (pc := 43) hK hr hlocks dd_X12_is_43 rfl ?_
            exact g_finM (hF (by first | exact hyes_ | exact hno_)) (by first | rfl | (subst_vars; rfl))
    refine g_sub (L' := [(0, gR 200), (1, gI px), (2, gI qx), (3, gR 420), (4, gI 0)]) [0, 1, 2, 3, 4] rfl ?_
    exact lp4 _ 0 (by omega) (fun j hj => by omega) (Nat.lt_succ_self _)
  · have hno_ : ¬ wdIs (M 218) px.toNat qx.toNat [107, 110, 111, 119, 110] := fun z => by
      have q_ : qx.toNat - px.toNat = 5 := z.1
      omega
    refine g_iconst (pc := 10) (x := 0) hK dd_X12_is_10 (by decide) ?_
    refine g_iret (pc := 11) hK hr hlocks dd_X12_is_11 rfl ?_
    exact g_finM (hF (by first | exact hyes_ | exact hno_)) (by first | rfl | (subst_vars; rfl))
set_option maxHeartbeats 4000000 in
set_option maxRecDepth 100000 in
theorem d_is1 {l : Launch} {M : Mem} {Pq : Option gV → Mem → Prop} (px : Int) (qx : Int) (hbe : 0 ≤ px ∧ px ≤ qx ∧ qx ≤ 120) (hT : (wdIs (M 218) px.toNat qx.toNat [115, 116, 114, 97, 110, 103, 101]) → Pq (some (gI 1)) M) (hF : ¬ (wdIs (M 218) px.toNat qx.toNat [115, 116, 114, 97, 110, 103, 101]) → Pq (some (gI 0)) M) : gCtr l my_X12_is mb_X12_is 5 ((some .boolean)) 5 [gR 200, gI px, gI qx, gR 421] M Pq := by
  refine g_intro (by decide) (Nat.le_of_ble_eq_true rfl) ?_
  intro p e s m args below meth c D cy q A hK hr hlocks hw
  refine g_sub (L' := [(0, gR 200), (1, gI px), (2, gI qx), (3, gR 421)]) [0, 1, 2, 3] rfl ?_
  refine g_iloadn (pc := 0) (i := 2) (x := qx) hK dd_X12_is_0 rfl rfl ?_
  refine g_iloadn (pc := 1) (i := 1) (x := px) hK dd_X12_is_1 rfl rfl ?_
  refine g_isub (pc := 2) (z := qx - px) hK dd_X12_is_2 rfl ?_
  refine g_aloadn (pc := 3) (i := 3) (x := 421) hK dd_X12_is_3 rfl rfl ?_
  refine g_len (pc := 4) 6 rfl hK ws_M_216 ⟨Nat.zero_le _, Nat.zero_le _⟩ ⟨by decide, by decide⟩ (Nat.le_of_ble_eq_true rfl) dd_X12_is_4 (by decide) ?_
  refine g_topv (v := gI 7) rfl ?_
  refine g_icmp_eq (pc := 7) (tgt := 12) hK dd_X12_is_7 (by decide) ⟨by omega, by omega⟩ (by decide) (fun c1 => ?_) (fun c1 => ?_)
  · have hln_ : qx.toNat - px.toNat = 7 := by omega
    refine g_iconst (pc := 12) (x := 0) hK dd_X12_is_12 (by decide) ?_
    refine g_istore (pc := 13) (i := 4) (L' := [(0, gR 200), (1, gI px), (2, gI qx), (3, gR 421), (4, gI 0)]) hK dd_X12_is_13 (by decide) rfl ?_
    have lp4 : ∀ (n2 : Nat) (i : Int), (0 ≤ i ∧ i ≤ 7) → (∀ j : Nat, (j : Int) < i → M 218 (px.toNat + j) = ([115, 116, 114, 97, 110, 103, 101] : List Int).getD j 0) → (7 - i).toNat < n2 → G p l e (rmD 5) s m args below meth c D cy q A 0 0 5 (MQ below (gQc D cy q A Pq) args s 0 0 A) 15 [(0, gR 200), (1, gI px), (2, gI qx), (3, gR 421), (4, gI i)] [] M := by
      intro n2
      induction n2 with
      | zero => intro i iv5 hw_ hm6; exact absurd hm6 (Nat.not_lt_zero _)
      | succ n2 ih3 =>
        intro i iv5 hw_ hm6
        refine g_iload (pc := 15) (i := 4) (x := i) hK dd_X12_is_15 rfl ?_
        refine g_aloadn (pc := 17) (i := 3) (x := 421) hK dd_X12_is_17 rfl rfl ?_
        refine g_len (pc := 18) 6 rfl hK ws_M_216 ⟨Nat.zero_le _, Nat.zero_le _⟩ ⟨by decide, by decide⟩ (Nat.le_of_ble_eq_true rfl) dd_X12_is_18 (by decide) ?_
        refine g_topv (v := gI 7) rfl ?_
        refine g_icmp_ge (pc := 21) (tgt := 50) hK dd_X12_is_21 (by decide) ⟨by omega, by omega⟩ (by decide) (fun c7 => ?_) (fun c7 => ?_)
        · have hyes_ : wdIs (M 218) px.toNat qx.toNat [115, 116, 114, 97, 110, 103, 101] := ⟨hln_, by omega, fun j hj => hw_ j (by have q_ : j < 7 := hj; omega)⟩
          refine g_iconst (pc := 50) (x := 1) hK dd_X12_is_50 (by decide) ?_
          refine g_iret (pc := 51) hK hr hlocks dd_X12_is_51 rfl ?_
          exact g_finM (hT (by first | exact hyes_ | exact hno_)) (by first | rfl | (subst_vars; rfl))
        · refine g_aloadn (pc := 24) (i := 0) (x := 200) hK dd_X12_is_24 rfl rfl ?_
          refine g_getv (pc := 25) (f := (1, 18)) (j := 17) (v := gR 218) hK (kdm kd_200) rfl ef_12 (by decide) rfl kk_1118 dd_X12_is_25 rfl ?_
          refine g_iloadn (pc := 28) (i := 1) (x := px) hK dd_X12_is_28 rfl rfl ?_
          refine g_iload (pc := 29) (i := 4) (x := i) hK dd_X12_is_29 rfl ?_
          refine g_iadd (pc := 31) (z := px + i) hK dd_X12_is_31 rfl ?_
          have hix_ : (px + i).toNat = px.toNat + i.toNat := by omega
          refine g_iald (pc := 32) hK (kdm kd_218) nl_218 (by decide) dd_X12_is_32 (by omega) (by omega) (fun x8 ex8 rx8 => ?_)
          refine g_aloadn (pc := 33) (i := 3) (x := 421) hK dd_X12_is_33 rfl rfl ?_
          refine g_iload (pc := 34) (i := 4) (x := i) hK dd_X12_is_34 rfl ?_
          have hy9 := wd_in (w := [115, 116, 114, 97, 110, 103, 101]) (by decide) i.toNat
          refine g_chr (pc := 36) 6 rfl hK ws_M_222 ⟨Nat.zero_le _, Nat.zero_le _⟩ ⟨by decide, by decide⟩ (Nat.le_of_ble_eq_true rfl) dd_X12_is_36 (by decide) (by omega) (by omega) hy9 ?_
          refine g_topv (v := gI (([115, 116, 114, 97, 110, 103, 101] : List Int).getD i.toNat 0)) rfl ?_
          refine g_topI (fun y9 ey9 => ?_)
          rw [← ey9] at hy9
          have hch_ : y9 = ([115, 116, 114, 97, 110, 103, 101] : List Int).getD i.toNat 0 := ey9
          have hby_ : x8 = M 218 (px.toNat + i.toNat) := by rw [← hix_]; exact ex8
          refine g_icmp_eq (pc := 39) (tgt := 44) hK dd_X12_is_39 (by decide) rx8 ⟨by omega, by omega⟩ (fun c10 => ?_) (fun c10 => ?_)
          · have hcs_ : M 218 (px.toNat + i.toNat) = ([115, 116, 114, 97, 110, 103, 101] : List Int).getD i.toNat 0 := by rw [← hby_, ← hch_]; omega
            refine g_iinc (pc := 44) (i := 4) (y := i + 1) (L' := [(0, gR 200), (1, gI px), (2, gI qx), (3, gR 421), (4, gI (i + 1))]) hK dd_X12_is_44 rfl rfl (by decide) rfl ?_
            refine g_goto (pc := 47) (tgt := 15) hK dd_X12_is_47 (by decide) ?_
            refine g_sub (L' := [(0, gR 200), (1, gI px), (2, gI qx), (3, gR 421), (4, gI (i + 1))]) [0, 1, 2, 3, 4] rfl ?_
            exact ih3 (i + 1) (by omega) (fun j hj => by
              by_cases e : (j : Int) < i
              · exact hw_ j e
              · rw [show j = i.toNat by omega]; exact hcs_) (by omega)
          · have hno_ : ¬ wdIs (M 218) px.toNat qx.toNat [115, 116, 114, 97, 110, 103, 101] := fun z => by
              have q_ := z.2.2 i.toNat (by show i.toNat < 7; omega)
              rw [← hby_, ← hch_] at q_
              omega
            refine g_iconst (pc := 42) (x := 0) hK dd_X12_is_42 (by decide) ?_
            refine g_iret (pc := 43) hK hr hlocks dd_X12_is_43 rfl ?_
            exact g_finM (hF (by first | exact hyes_ | exact hno_)) (by first | rfl | (subst_vars; rfl))
    refine g_sub (L' := [(0, gR 200), (1, gI px), (2, gI qx), (3, gR 421), (4, gI 0)]) [0, 1, 2, 3, 4] rfl ?_
    exact lp4 _ 0 (by omega) (fun j hj => by omega) (Nat.lt_succ_self _)
  · have hno_ : ¬ wdIs (M 218) px.toNat qx.toNat [115, 116, 114, 97, 110, 103, 101] := fun z => by
      have q_ : qx.toNat - px.toNat = 7 := z.1
      omega
    refine g_iconst (pc := 10) (x := 0) hK dd_X12_is_10 (by decide) ?_
    refine g_iret (pc := 11) hK hr hlocks dd_X12_is_11 rfl ?_
    exact g_finM (hF (by first | exact hyes_ | exact hno_)) (by first | rfl | (subst_vars; rfl))
set_option maxHeartbeats 4000000 in
set_option maxRecDepth 100000 in
theorem d_is2 {l : Launch} {M : Mem} {Pq : Option gV → Mem → Prop} (px : Int) (qx : Int) (hbe : 0 ≤ px ∧ px ≤ qx ∧ qx ≤ 120) (hT : (wdIs (M 218) px.toNat qx.toNat [114, 111, 117, 110, 100]) → Pq (some (gI 1)) M) (hF : ¬ (wdIs (M 218) px.toNat qx.toNat [114, 111, 117, 110, 100]) → Pq (some (gI 0)) M) : gCtr l my_X12_is mb_X12_is 5 ((some .boolean)) 5 [gR 200, gI px, gI qx, gR 422] M Pq := by
  refine g_intro (by decide) (Nat.le_of_ble_eq_true rfl) ?_
  intro p e s m args below meth c D cy q A hK hr hlocks hw
  refine g_sub (L' := [(0, gR 200), (1, gI px), (2, gI qx), (3, gR 422)]) [0, 1, 2, 3] rfl ?_
  refine g_iloadn (pc := 0) (i := 2) (x := qx) hK dd_X12_is_0 rfl rfl ?_
  refine g_iloadn (pc := 1) (i := 1) (x := px) hK dd_X12_is_1 rfl rfl ?_
  refine g_isub (pc := 2) (z := qx - px) hK dd_X12_is_2 rfl ?_
  refine g_aloadn (pc := 3) (i := 3) (x := 422) hK dd_X12_is_3 rfl rfl ?_
  refine g_len (pc := 4) 7 rfl hK ws_M_216 ⟨Nat.zero_le _, Nat.zero_le _⟩ ⟨by decide, by decide⟩ (Nat.le_of_ble_eq_true rfl) dd_X12_is_4 (by decide) ?_
  refine g_topv (v := gI 5) rfl ?_
  refine g_icmp_eq (pc := 7) (tgt := 12) hK dd_X12_is_7 (by decide) ⟨by omega, by omega⟩ (by decide) (fun c1 => ?_) (fun c1 => ?_)
  · have hln_ : qx.toNat - px.toNat = 5 := by omega
    refine g_iconst (pc := 12) (x := 0) hK dd_X12_is_12 (by decide) ?_
    refine g_istore (pc := 13) (i := 4) (L' := [(0, gR 200), (1, gI px), (2, gI qx), (3, gR 422), (4, gI 0)]) hK dd_X12_is_13 (by decide) rfl ?_
    have lp4 : ∀ (n2 : Nat) (i : Int), (0 ≤ i ∧ i ≤ 5) → (∀ j : Nat, (j : Int) < i → M 218 (px.toNat + j) = ([114, 111, 117, 110, 100] : List Int).getD j 0) → (5 - i).toNat < n2 → G p l e (rmD 5) s m args below meth c D cy q A 0 0 5 (MQ below (gQc D cy q A Pq) args s 0 0 A) 15 [(0, gR 200), (1, gI px), (2, gI qx), (3, gR 422), (4, gI i)] [] M := by
      intro n2
      induction n2 with
      | zero => intro i iv5 hw_ hm6; exact absurd hm6 (Nat.not_lt_zero _)
      | succ n2 ih3 =>
        intro i iv5 hw_ hm6
        refine g_iload (pc := 15) (i := 4) (x := i) hK dd_X12_is_15 rfl ?_
        refine g_aloadn (pc := 17) (i := 3) (x := 422) hK dd_X12_is_17 rfl rfl ?_
        refine g_len (pc := 18) 7 rfl hK ws_M_216 ⟨Nat.zero_le _, Nat.zero_le _⟩ ⟨by decide, by decide⟩ (Nat.le_of_ble_eq_true rfl) dd_X12_is_18 (by decide) ?_
        refine g_topv (v := gI 5) rfl ?_
        refine g_icmp_ge (pc := 21) (tgt := 50) hK dd_X12_is_21 (by decide) ⟨by omega, by omega⟩ (by decide) (fun c7 => ?_) (fun c7 => ?_)
        · have hyes_ : wdIs (M 218) px.toNat qx.toNat [114, 111, 117, 110, 100] := ⟨hln_, by omega, fun j hj => hw_ j (by have q_ : j < 5 := hj; omega)⟩
          refine g_iconst (pc := 50) (x := 1) hK dd_X12_is_50 (by decide) ?_
          refine g_iret (pc := 51) hK hr hlocks dd_X12_is_51 rfl ?_
          exact g_finM (hT (by first | exact hyes_ | exact hno_)) (by first | rfl | (subst_vars; rfl))
        · refine g_aloadn (pc := 24) (i := 0) (x := 200) hK dd_X12_is_24 rfl rfl ?_
          refine g_getv (pc := 25) (f := (1, 18)) (j := 17) (v := gR 218) hK (kdm kd_200) rfl ef_12 (by decide) rfl kk_1118 dd_X12_is_25 rfl ?_
          refine g_iloadn (pc := 28) (i := 1) (x := px) hK dd_X12_is_28 rfl rfl ?_
          refine g_iload (pc := 29) (i := 4) (x := i) hK dd_X12_is_29 rfl ?_
          refine g_iadd (pc := 31) (z := px + i) hK dd_X12_is_31 rfl ?_
          have hix_ : (px + i).toNat = px.toNat + i.toNat := by omega
          refine g_iald (pc := 32) hK (kdm kd_218) nl_218 (by decide) dd_X12_is_32 (by omega) (by omega) (fun x8 ex8 rx8 => ?_)
          refine g_aloadn (pc := 33) (i := 3) (x := 422) hK dd_X12_is_33 rfl rfl ?_
          refine g_iload (pc := 34) (i := 4) (x := i) hK dd_X12_is_34 rfl ?_
          have hy9 := wd_in (w := [114, 111, 117, 110, 100]) (by decide) i.toNat
          refine g_chr (pc := 36) 7 rfl hK ws_M_222 ⟨Nat.zero_le _, Nat.zero_le _⟩ ⟨by decide, by decide⟩ (Nat.le_of_ble_eq_true rfl) dd_X12_is_36 (by decide) (by omega) (by omega) hy9 ?_
          refine g_topv (v := gI (([114, 111, 117, 110, 100] : List Int).getD i.toNat 0)) rfl ?_
          refine g_topI (fun y9 ey9 => ?_)
          rw [← ey9] at hy9
          have hch_ : y9 = ([114, 111, 117, 110, 100] : List Int).getD i.toNat 0 := ey9
          have hby_ : x8 = M 218 (px.toNat + i.toNat) := by rw [← hix_]; exact ex8
          refine g_icmp_eq (pc := 39) (tgt := 44) hK dd_X12_is_39 (by decide) rx8 ⟨by omega, by omega⟩ (fun c10 => ?_) (fun c10 => ?_)
          · have hcs_ : M 218 (px.toNat + i.toNat) = ([114, 111, 117, 110, 100] : List Int).getD i.toNat 0 := by rw [← hby_, ← hch_]; omega
            refine g_iinc (pc := 44) (i := 4) (y := i + 1) (L' := [(0, gR 200), (1, gI px), (2, gI qx), (3, gR 422), (4, gI (i + 1))]) hK dd_X12_is_44 rfl rfl (by decide) rfl ?_
            refine g_goto (pc := 47) (tgt := 15) hK dd_X12_is_47 (by decide) ?_
            refine g_sub (L' := [(0, gR 200), (1, gI px), (2, gI qx), (3, gR 422), (4, gI (i + 1))]) [0, 1, 2, 3, 4] rfl ?_
            exact ih3 (i + 1) (by omega) (fun j hj => by
              by_cases e : (j : Int) < i
              · exact hw_ j e
              · rw [show j = i.toNat by omega]; exact hcs_) (by omega)
          · have hno_ : ¬ wdIs (M 218) px.toNat qx.toNat [114, 111, 117, 110, 100] := fun z => by
              have q_ := z.2.2 i.toNat (by show i.toNat < 5; omega)
              rw [← hby_, ← hch_] at q_
              omega
            refine g_iconst (pc := 42) (x := 0) hK dd_X12_is_42 (by decide) ?_
            refine g_iret (pc := 43) hK hr hlocks dd_X12_is_43 rfl ?_
            exact g_finM (hF (by first | exact hyes_ | exact hno_)) (by first | rfl | (subst_vars; rfl))
    refine g_sub (L' := [(0, gR 200), (1, gI px), (2, gI qx), (3, gR 422), (4, gI 0)]) [0, 1, 2, 3, 4] rfl ?_
    exact lp4 _ 0 (by omega) (fun j hj => by omega) (Nat.lt_succ_self _)
  · have hno_ : ¬ wdIs (M 218) px.toNat qx.toNat [114, 111, 117, 110, 100] := fun z => by
      have q_ : qx.toNat - px.toNat = 5 := z.1
      omega
    refine g_iconst (pc := 10) (x := 0) hK dd_X12_is_10 (by decide) ?_
    refine g_iret (pc := 11) hK hr hlocks dd_X12_is_11 rfl ?_
    exact g_finM (hF (by first | exact hyes_ | exact hno_)) (by first | rfl | (subst_vars; rfl))
set_option maxHeartbeats 4000000 in
set_option maxRecDepth 100000 in
theorem d_is3 {l : Launch} {M : Mem} {Pq : Option gV → Mem → Prop} (px : Int) (qx : Int) (hbe : 0 ≤ px ∧ px ≤ qx ∧ qx ≤ 120) (hT : (wdIs (M 218) px.toNat qx.toNat [108, 101, 97, 115, 116]) → Pq (some (gI 1)) M) (hF : ¬ (wdIs (M 218) px.toNat qx.toNat [108, 101, 97, 115, 116]) → Pq (some (gI 0)) M) : gCtr l my_X12_is mb_X12_is 5 ((some .boolean)) 5 [gR 200, gI px, gI qx, gR 423] M Pq := by
  refine g_intro (by decide) (Nat.le_of_ble_eq_true rfl) ?_
  intro p e s m args below meth c D cy q A hK hr hlocks hw
  refine g_sub (L' := [(0, gR 200), (1, gI px), (2, gI qx), (3, gR 423)]) [0, 1, 2, 3] rfl ?_
  refine g_iloadn (pc := 0) (i := 2) (x := qx) hK dd_X12_is_0 rfl rfl ?_
  refine g_iloadn (pc := 1) (i := 1) (x := px) hK dd_X12_is_1 rfl rfl ?_
  refine g_isub (pc := 2) (z := qx - px) hK dd_X12_is_2 rfl ?_
  refine g_aloadn (pc := 3) (i := 3) (x := 423) hK dd_X12_is_3 rfl rfl ?_
  refine g_len (pc := 4) 8 rfl hK ws_M_216 ⟨Nat.zero_le _, Nat.zero_le _⟩ ⟨by decide, by decide⟩ (Nat.le_of_ble_eq_true rfl) dd_X12_is_4 (by decide) ?_
  refine g_topv (v := gI 5) rfl ?_
  refine g_icmp_eq (pc := 7) (tgt := 12) hK dd_X12_is_7 (by decide) ⟨by omega, by omega⟩ (by decide) (fun c1 => ?_) (fun c1 => ?_)
  · have hln_ : qx.toNat - px.toNat = 5 := by omega
    refine g_iconst (pc := 12) (x := 0) hK dd_X12_is_12 (by decide) ?_
    refine g_istore (pc := 13) (i := 4) (L' := [(0, gR 200), (1, gI px), (2, gI qx), (3, gR 423), (4, gI 0)]) hK dd_X12_is_13 (by decide) rfl ?_
    have lp4 : ∀ (n2 : Nat) (i : Int), (0 ≤ i ∧ i ≤ 5) → (∀ j : Nat, (j : Int) < i → M 218 (px.toNat + j) = ([108, 101, 97, 115, 116] : List Int).getD j 0) → (5 - i).toNat < n2 → G p l e (rmD 5) s m args below meth c D cy q A 0 0 5 (MQ below (gQc D cy q A Pq) args s 0 0 A) 15 [(0, gR 200), (1, gI px), (2, gI qx), (3, gR 423), (4, gI i)] [] M := by
      intro n2
      induction n2 with
      | zero => intro i iv5 hw_ hm6; exact absurd hm6 (Nat.not_lt_zero _)
      | succ n2 ih3 =>
        intro i iv5 hw_ hm6
        refine g_iload (pc := 15) (i := 4) (x := i) hK dd_X12_is_15 rfl ?_
        refine g_aloadn (pc := 17) (i := 3) (x := 423) hK dd_X12_is_17 rfl rfl ?_
        refine g_len (pc := 18) 8 rfl hK ws_M_216 ⟨Nat.zero_le _, Nat.zero_le _⟩ ⟨by decide, by decide⟩ (Nat.le_of_ble_eq_true rfl) dd_X12_is_18 (by decide) ?_
        refine g_topv (v := gI 5) rfl ?_
        refine g_icmp_ge (pc := 21) (tgt := 50) hK dd_X12_is_21 (by decide) ⟨by omega, by omega⟩ (by decide) (fun c7 => ?_) (fun c7 => ?_)
        · have hyes_ : wdIs (M 218) px.toNat qx.toNat [108, 101, 97, 115, 116] := ⟨hln_, by omega, fun j hj => hw_ j (by have q_ : j < 5 := hj; omega)⟩
          refine g_iconst (pc := 50) (x := 1) hK dd_X12_is_50 (by decide) ?_
          refine g_iret (pc := 51) hK hr hlocks dd_X12_is_51 rfl ?_
          exact g_finM (hT (by first | exact hyes_ | exact hno_)) (by first | rfl | (subst_vars; rfl))
        · refine g_aloadn (pc := 24) (i := 0) (x := 200) hK dd_X12_is_24 rfl rfl ?_
          refine g_getv (pc := 25) (f := (1, 18)) (j := 17) (v := gR 218) hK (kdm kd_200) rfl ef_12 (by decide) rfl kk_1118 dd_X12_is_25 rfl ?_
          refine g_iloadn (pc := 28) (i := 1) (x := px) hK dd_X12_is_28 rfl rfl ?_
          refine g_iload (pc := 29) (i := 4) (x := i) hK dd_X12_is_29 rfl ?_
          refine g_iadd (pc := 31) (z := px + i) hK dd_X12_is_31 rfl ?_
          have hix_ : (px + i).toNat = px.toNat + i.toNat := by omega
          refine g_iald (pc := 32) hK (kdm kd_218) nl_218 (by decide) dd_X12_is_32 (by omega) (by omega) (fun x8 ex8 rx8 => ?_)
          refine g_aloadn (pc := 33) (i := 3) (x := 423) hK dd_X12_is_33 rfl rfl ?_
          refine g_iload (pc := 34) (i := 4) (x := i) hK dd_X12_is_34 rfl ?_
          have hy9 := wd_in (w := [108, 101, 97, 115, 116]) (by decide) i.toNat
          refine g_chr (pc := 36) 8 rfl hK ws_M_222 ⟨Nat.zero_le _, Nat.zero_le _⟩ ⟨by decide, by decide⟩ (Nat.le_of_ble_eq_true rfl) dd_X12_is_36 (by decide) (by omega) (by omega) hy9 ?_
          refine g_topv (v := gI (([108, 101, 97, 115, 116] : List Int).getD i.toNat 0)) rfl ?_
          refine g_topI (fun y9 ey9 => ?_)
          rw [← ey9] at hy9
          have hch_ : y9 = ([108, 101, 97, 115, 116] : List Int).getD i.toNat 0 := ey9
          have hby_ : x8 = M 218 (px.toNat + i.toNat) := by rw [← hix_]; exact ex8
          refine g_icmp_eq (pc := 39) (tgt := 44) hK dd_X12_is_39 (by decide) rx8 ⟨by omega, by omega⟩ (fun c10 => ?_) (fun c10 => ?_)
          · have hcs_ : M 218 (px.toNat + i.toNat) = ([108, 101, 97, 115, 116] : List Int).getD i.toNat 0 := by rw [← hby_, ← hch_]; omega
            refine g_iinc (pc := 44) (i := 4) (y := i + 1) (L' := [(0, gR 200), (1, gI px), (2, gI qx), (3, gR 423), (4, gI (i + 1))]) hK dd_X12_is_44 rfl rfl (by decide) rfl ?_
            refine g_goto (pc := 47) (tgt := 15) hK dd_X12_is_47 (by decide) ?_
            refine g_sub (L' := [(0, gR 200), (1, gI px), (2, gI qx), (3, gR 423), (4, gI (i + 1))]) [0, 1, 2, 3, 4] rfl ?_
            exact ih3 (i + 1) (by omega) (fun j hj => by
              by_cases e : (j : Int) < i
              · exact hw_ j e
              · rw [show j = i.toNat by omega]; exact hcs_) (by omega)
          · have hno_ : ¬ wdIs (M 218) px.toNat qx.toNat [108, 101, 97, 115, 116] := fun z => by
              have q_ := z.2.2 i.toNat (by show i.toNat < 5; omega)
              rw [← hby_, ← hch_] at q_
              omega
            refine g_iconst (pc := 42) (x := 0) hK dd_X12_is_42 (by decide) ?_
            refine g_iret (pc := 43) hK hr hlocks dd_X12_is_43 rfl ?_
            exact g_finM (hF (by first | exact hyes_ | exact hno_)) (by first | rfl | (subst_vars; rfl))
    refine g_sub (L' := [(0, gR 200), (1, gI px), (2, gI qx), (3, gR 423), (4, gI 0)]) [0, 1, 2, 3, 4] rfl ?_
    exact lp4 _ 0 (by omega) (fun j hj => by omega) (Nat.lt_succ_self _)
  · have hno_ : ¬ wdIs (M 218) px.toNat qx.toNat [108, 101, 97, 115, 116] := fun z => by
      have q_ : qx.toNat - px.toNat = 5 := z.1
      omega
    refine g_iconst (pc := 10) (x := 0) hK dd_X12_is_10 (by decide) ?_
    refine g_iret (pc := 11) hK hr hlocks dd_X12_is_11 rfl ?_
    exact g_finM (hF (by first | exact hyes_ | exact hno_)) (by first | rfl | (subst_vars; rfl))
set_option maxHeartbeats 4000000 in
set_option maxRecDepth 100000 in
theorem d_is4 {l : Launch} {M : Mem} {Pq : Option gV → Mem → Prop} (px : Int) (qx : Int) (hbe : 0 ≤ px ∧ px ≤ qx ∧ qx ≤ 120) (hT : (wdIs (M 218) px.toNat qx.toNat [109, 111, 115, 116]) → Pq (some (gI 1)) M) (hF : ¬ (wdIs (M 218) px.toNat qx.toNat [109, 111, 115, 116]) → Pq (some (gI 0)) M) : gCtr l my_X12_is mb_X12_is 5 ((some .boolean)) 5 [gR 200, gI px, gI qx, gR 424] M Pq := by
  refine g_intro (by decide) (Nat.le_of_ble_eq_true rfl) ?_
  intro p e s m args below meth c D cy q A hK hr hlocks hw
  refine g_sub (L' := [(0, gR 200), (1, gI px), (2, gI qx), (3, gR 424)]) [0, 1, 2, 3] rfl ?_
  refine g_iloadn (pc := 0) (i := 2) (x := qx) hK dd_X12_is_0 rfl rfl ?_
  refine g_iloadn (pc := 1) (i := 1) (x := px) hK dd_X12_is_1 rfl rfl ?_
  refine g_isub (pc := 2) (z := qx - px) hK dd_X12_is_2 rfl ?_
  refine g_aloadn (pc := 3) (i := 3) (x := 424) hK dd_X12_is_3 rfl rfl ?_
  refine g_len (pc := 4) 9 rfl hK ws_M_216 ⟨Nat.zero_le _, Nat.zero_le _⟩ ⟨by decide, by decide⟩ (Nat.le_of_ble_eq_true rfl) dd_X12_is_4 (by decide) ?_
  refine g_topv (v := gI 4) rfl ?_
  refine g_icmp_eq (pc := 7) (tgt := 12) hK dd_X12_is_7 (by decide) ⟨by omega, by omega⟩ (by decide) (fun c1 => ?_) (fun c1 => ?_)
  · have hln_ : qx.toNat - px.toNat = 4 := by omega
    refine g_iconst (pc := 12) (x := 0) hK dd_X12_is_12 (by decide) ?_
    refine g_istore (pc := 13) (i := 4) (L' := [(0, gR 200), (1, gI px), (2, gI qx), (3, gR 424), (4, gI 0)]) hK dd_X12_is_13 (by decide) rfl ?_
    have lp4 : ∀ (n2 : Nat) (i : Int), (0 ≤ i ∧ i ≤ 4) → (∀ j : Nat, (j : Int) < i → M 218 (px.toNat + j) = ([109, 111, 115, 116] : List Int).getD j 0) → (4 - i).toNat < n2 → G p l e (rmD 5) s m args below meth c D cy q A 0 0 5 (MQ below (gQc D cy q A Pq) args s 0 0 A) 15 [(0, gR 200), (1, gI px), (2, gI qx), (3, gR 424), (4, gI i)] [] M := by
      intro n2
      induction n2 with
      | zero => intro i iv5 hw_ hm6; exact absurd hm6 (Nat.not_lt_zero _)
      | succ n2 ih3 =>
        intro i iv5 hw_ hm6
        refine g_iload (pc := 15) (i := 4) (x := i) hK dd_X12_is_15 rfl ?_
        refine g_aloadn (pc := 17) (i := 3) (x := 424) hK dd_X12_is_17 rfl rfl ?_
        refine g_len (pc := 18) 9 rfl hK ws_M_216 ⟨Nat.zero_le _, Nat.zero_le _⟩ ⟨by decide, by decide⟩ (Nat.le_of_ble_eq_true rfl) dd_X12_is_18 (by decide) ?_
        refine g_topv (v := gI 4) rfl ?_
        refine g_icmp_ge (pc := 21) (tgt := 50) hK dd_X12_is_21 (by decide) ⟨by omega, by omega⟩ (by decide) (fun c7 => ?_) (fun c7 => ?_)
        · have hyes_ : wdIs (M 218) px.toNat qx.toNat [109, 111, 115, 116] := ⟨hln_, by omega, fun j hj => hw_ j (by have q_ : j < 4 := hj; omega)⟩
          refine g_iconst (pc := 50) (x := 1) hK dd_X12_is_50 (by decide) ?_
          refine g_iret (pc := 51) hK hr hlocks dd_X12_is_51 rfl ?_
          exact g_finM (hT (by first | exact hyes_ | exact hno_)) (by first | rfl | (subst_vars; rfl))
        · refine g_aloadn (pc := 24) (i := 0) (x := 200) hK dd_X12_is_24 rfl rfl ?_
          refine g_getv (pc := 25) (f := (1, 18)) (j := 17) (v := gR 218) hK (kdm kd_200) rfl ef_12 (by decide) rfl kk_1118 dd_X12_is_25 rfl ?_
          refine g_iloadn (pc := 28) (i := 1) (x := px) hK dd_X12_is_28 rfl rfl ?_
          refine g_iload (pc := 29) (i := 4) (x := i) hK dd_X12_is_29 rfl ?_
          refine g_iadd (pc := 31) (z := px + i) hK dd_X12_is_31 rfl ?_
          have hix_ : (px + i).toNat = px.toNat + i.toNat := by omega
          refine g_iald (pc := 32) hK (kdm kd_218) nl_218 (by decide) dd_X12_is_32 (by omega) (by omega) (fun x8 ex8 rx8 => ?_)
          refine g_aloadn (pc := 33) (i := 3) (x := 424) hK dd_X12_is_33 rfl rfl ?_
          refine g_iload (pc := 34) (i := 4) (x := i) hK dd_X12_is_34 rfl ?_
          have hy9 := wd_in (w := [109, 111, 115, 116]) (by decide) i.toNat
          refine g_chr (pc := 36) 9 rfl hK ws_M_222 ⟨Nat.zero_le _, Nat.zero_le _⟩ ⟨by decide, by decide⟩ (Nat.le_of_ble_eq_true rfl) dd_X12_is_36 (by decide) (by omega) (by omega) hy9 ?_
          refine g_topv (v := gI (([109, 111, 115, 116] : List Int).getD i.toNat 0)) rfl ?_
          refine g_topI (fun y9 ey9 => ?_)
          rw [← ey9] at hy9
          have hch_ : y9 = ([109, 111, 115, 116] : List Int).getD i.toNat 0 := ey9
          have hby_ : x8 = M 218 (px.toNat + i.toNat) := by rw [← hix_]; exact ex8
          refine g_icmp_eq (pc := 39) (tgt := 44) hK dd_X12_is_39 (by decide) rx8 ⟨by omega, by omega⟩ (fun c10 => ?_) (fun c10 => ?_)
          · have hcs_ : M 218 (px.toNat + i.toNat) = ([109, 111, 115, 116] : List Int).getD i.toNat 0 := by rw [← hby_, ← hch_]; omega
            refine g_iinc (pc := 44) (i := 4) (y := i + 1) (L' := [(0, gR 200), (1, gI px), (2, gI qx), (3, gR 424), (4, gI (i + 1))]) hK dd_X12_is_44 rfl rfl (by decide) rfl ?_
            refine g_goto (pc := 47) (tgt := 15) hK dd_X12_is_47 (by decide) ?_
            refine g_sub (L' := [(0, gR 200), (1, gI px), (2, gI qx), (3, gR 424), (4, gI (i + 1))]) [0, 1, 2, 3, 4] rfl ?_
            exact ih3 (i + 1) (by omega) (fun j hj => by
              by_cases e : (j : Int) < i
              · exact hw_ j e
              · rw [show j = i.toNat by omega]; exact hcs_) (by omega)
          · have hno_ : ¬ wdIs (M 218) px.toNat qx.toNat [109, 111, 115, 116] := fun z => by
              have q_ := z.2.2 i.toNat (by show i.toNat < 4; omega)
              rw [← hby_, ← hch_] at q_
              omega
            refine g_iconst (pc := 42) (x := 0) hK dd_X12_is_42 (by decide) ?_
            refine g_iret (pc := 43) hK hr hlocks dd_X12_is_43 rfl ?_
            exact g_finM (hF (by first | exact hyes_ | exact hno_)) (by first | rfl | (subst_vars; rfl))
    refine g_sub (L' := [(0, gR 200), (1, gI px), (2, gI qx), (3, gR 424), (4, gI 0)]) [0, 1, 2, 3, 4] rfl ?_
    exact lp4 _ 0 (by omega) (fun j hj => by omega) (Nat.lt_succ_self _)
  · have hno_ : ¬ wdIs (M 218) px.toNat qx.toNat [109, 111, 115, 116] := fun z => by
      have q_ : qx.toNat - px.toNat = 4 := z.1
      omega
    refine g_iconst (pc := 10) (x := 0) hK dd_X12_is_10 (by decide) ?_
    refine g_iret (pc := 11) hK hr hlocks dd_X12_is_11 rfl ?_
    exact g_finM (hF (by first | exact hyes_ | exact hno_)) (by first | rfl | (subst_vars; rfl))
set_option maxHeartbeats 4000000 in
set_option maxRecDepth 100000 in
theorem d_wordAt {l : Launch} {M : Mem} {Pq : Option gV → Mem → Prop} (px : Int) (qx : Int) (hbe : 0 ≤ px ∧ px ≤ qx ∧ qx ≤ 120) (hQ : Pq (some (gI (wdN (M 218) px.toNat qx.toNat))) M) : gCtr l my_X12_wordAt mb_X12_wordAt 3 ((some .int)) 6 [gR 200, gI px, gI qx] M Pq := by
  refine g_intro (by decide) (Nat.le_of_ble_eq_true rfl) ?_
  intro p e s m args below meth c D cy q A hK hr hlocks hw
  refine g_sub (L' := [(0, gR 200), (1, gI px), (2, gI qx)]) [0, 1, 2] rfl ?_
  refine g_aloadn (pc := 0) (i := 0) (x := 200) hK dd_X12_wordAt_0 rfl rfl ?_
  refine g_iloadn (pc := 1) (i := 1) (x := px) hK dd_X12_wordAt_1 rfl rfl ?_
  refine g_iloadn (pc := 2) (i := 2) (x := qx) hK dd_X12_wordAt_2 rfl rfl ?_
  refine g_ldcS (pc := 3) hK 5 rfl dd_X12_wordAt_3 ?_
  refine g_callV (pc := 5) (As := [gI px, gI qx, gR 420]) hK ws_M_204 md_X12_is ⟨Nat.zero_le _, Nat.zero_le _⟩ ⟨by decide, by decide⟩ (kdm kd_200) rfl rfl dd_X12_wordAt_5 rfl rfl (Nat.le_of_ble_eq_true rfl) (d_is0 px qx hbe (fun c1 => g_r1 ?_) (fun c1 => g_r1 ?_))
  · refine g_if_eq (pc := 8) (tgt := 13) hK dd_X12_wordAt_8 (by decide) (by decide) (fun c2 => absurd c2 (by decide)) (fun _ => ?_)
    refine g_iconst (pc := 11) (x := 0) hK dd_X12_wordAt_11 (by decide) ?_
    refine g_iret (pc := 12) hK hr hlocks dd_X12_wordAt_12 rfl ?_
    exact g_fin hQ (by unfold wdN; rw [if_pos (by assumption)]) (by first | rfl | (subst_vars; rfl))
  · refine g_if_eq (pc := 8) (tgt := 13) hK dd_X12_wordAt_8 (by decide) (by decide) (fun _ => ?_) (fun c3 => absurd (by decide) c3)
    refine g_aloadn (pc := 13) (i := 0) (x := 200) hK dd_X12_wordAt_13 rfl rfl ?_
    refine g_iloadn (pc := 14) (i := 1) (x := px) hK dd_X12_wordAt_14 rfl rfl ?_
    refine g_iloadn (pc := 15) (i := 2) (x := qx) hK dd_X12_wordAt_15 rfl rfl ?_
    refine g_ldcS (pc := 16) hK 6 rfl dd_X12_wordAt_16 ?_
    refine g_callV (pc := 18) (As := [gI px, gI qx, gR 421]) hK ws_M_204 md_X12_is ⟨Nat.zero_le _, Nat.zero_le _⟩ ⟨by decide, by decide⟩ (kdm kd_200) rfl rfl dd_X12_wordAt_18 rfl rfl (Nat.le_of_ble_eq_true rfl) (d_is1 px qx hbe (fun c4 => g_r1 ?_) (fun c4 => g_r1 ?_))
    · refine g_if_eq (pc := 21) (tgt := 26) hK dd_X12_wordAt_21 (by decide) (by decide) (fun c5 => absurd c5 (by decide)) (fun _ => ?_)
      refine g_iconst (pc := 24) (x := 1) hK dd_X12_wordAt_24 (by decide) ?_
      refine g_iret (pc := 25) hK hr hlocks dd_X12_wordAt_25 rfl ?_
      exact g_fin hQ (by unfold wdN; rw [if_neg (by assumption), if_pos (by assumption)]) (by first | rfl | (subst_vars; rfl))
    · refine g_if_eq (pc := 21) (tgt := 26) hK dd_X12_wordAt_21 (by decide) (by decide) (fun _ => ?_) (fun c6 => absurd (by decide) c6)
      refine g_aloadn (pc := 26) (i := 0) (x := 200) hK dd_X12_wordAt_26 rfl rfl ?_
      refine g_iloadn (pc := 27) (i := 1) (x := px) hK dd_X12_wordAt_27 rfl rfl ?_
      refine g_iloadn (pc := 28) (i := 2) (x := qx) hK dd_X12_wordAt_28 rfl rfl ?_
      refine g_ldcS (pc := 29) hK 7 rfl dd_X12_wordAt_29 ?_
      refine g_callV (pc := 31) (As := [gI px, gI qx, gR 422]) hK ws_M_204 md_X12_is ⟨Nat.zero_le _, Nat.zero_le _⟩ ⟨by decide, by decide⟩ (kdm kd_200) rfl rfl dd_X12_wordAt_31 rfl rfl (Nat.le_of_ble_eq_true rfl) (d_is2 px qx hbe (fun c7 => g_r1 ?_) (fun c7 => g_r1 ?_))
      · refine g_if_eq (pc := 34) (tgt := 39) hK dd_X12_wordAt_34 (by decide) (by decide) (fun c8 => absurd c8 (by decide)) (fun _ => ?_)
        refine g_iconst (pc := 37) (x := 2) hK dd_X12_wordAt_37 (by decide) ?_
        refine g_iret (pc := 38) hK hr hlocks dd_X12_wordAt_38 rfl ?_
        exact g_fin hQ (by unfold wdN; rw [if_neg (by assumption), if_neg (by assumption), if_pos (by assumption)]) (by first | rfl | (subst_vars; rfl))
      · refine g_if_eq (pc := 34) (tgt := 39) hK dd_X12_wordAt_34 (by decide) (by decide) (fun _ => ?_) (fun c9 => absurd (by decide) c9)
        refine g_aloadn (pc := 39) (i := 0) (x := 200) hK dd_X12_wordAt_39 rfl rfl ?_
        refine g_iloadn (pc := 40) (i := 1) (x := px) hK dd_X12_wordAt_40 rfl rfl ?_
        refine g_iloadn (pc := 41) (i := 2) (x := qx) hK dd_X12_wordAt_41 rfl rfl ?_
        refine g_ldcS (pc := 42) hK 8 rfl dd_X12_wordAt_42 ?_
        refine g_callV (pc := 44) (As := [gI px, gI qx, gR 423]) hK ws_M_204 md_X12_is ⟨Nat.zero_le _, Nat.zero_le _⟩ ⟨by decide, by decide⟩ (kdm kd_200) rfl rfl dd_X12_wordAt_44 rfl rfl (Nat.le_of_ble_eq_true rfl) (d_is3 px qx hbe (fun c10 => g_r1 ?_) (fun c10 => g_r1 ?_))
        · refine g_if_eq (pc := 47) (tgt := 52) hK dd_X12_wordAt_47 (by decide) (by decide) (fun c11 => absurd c11 (by decide)) (fun _ => ?_)
          refine g_iconst (pc := 50) (x := 3) hK dd_X12_wordAt_50 (by decide) ?_
          refine g_iret (pc := 51) hK hr hlocks dd_X12_wordAt_51 rfl ?_
          exact g_fin hQ (by unfold wdN; rw [if_neg (by assumption), if_neg (by assumption), if_neg (by assumption), if_pos (by assumption)]) (by first | rfl | (subst_vars; rfl))
        · refine g_if_eq (pc := 47) (tgt := 52) hK dd_X12_wordAt_47 (by decide) (by decide) (fun _ => ?_) (fun c12 => absurd (by decide) c12)
          refine g_aloadn (pc := 52) (i := 0) (x := 200) hK dd_X12_wordAt_52 rfl rfl ?_
          refine g_iloadn (pc := 53) (i := 1) (x := px) hK dd_X12_wordAt_53 rfl rfl ?_
          refine g_iloadn (pc := 54) (i := 2) (x := qx) hK dd_X12_wordAt_54 rfl rfl ?_
          refine g_ldcS (pc := 55) hK 9 rfl dd_X12_wordAt_55 ?_
          refine g_callV (pc := 57) (As := [gI px, gI qx, gR 424]) hK ws_M_204 md_X12_is ⟨Nat.zero_le _, Nat.zero_le _⟩ ⟨by decide, by decide⟩ (kdm kd_200) rfl rfl dd_X12_wordAt_57 rfl rfl (Nat.le_of_ble_eq_true rfl) (d_is4 px qx hbe (fun c13 => g_r1 ?_) (fun c13 => g_r1 ?_))
          · refine g_if_eq (pc := 60) (tgt := 67) hK dd_X12_wordAt_60 (by decide) (by decide) (fun c14 => absurd c14 (by decide)) (fun _ => ?_)
            refine g_iconst (pc := 63) (x := 4) hK dd_X12_wordAt_63 (by decide) ?_
            refine g_goto (pc := 64) (tgt := 68) hK dd_X12_wordAt_64 (by decide) ?_
            refine g_iret (pc := 68) hK hr hlocks dd_X12_wordAt_68 rfl ?_
            exact g_fin hQ (by unfold wdN; rw [if_neg (by assumption), if_neg (by assumption), if_neg (by assumption), if_neg (by assumption), if_pos (by assumption)]) (by first | rfl | (subst_vars; rfl))
          · refine g_if_eq (pc := 60) (tgt := 67) hK dd_X12_wordAt_60 (by decide) (by decide) (fun _ => ?_) (fun c15 => absurd (by decide) c15)
            refine g_iconst (pc := 67) (x := (-1)) hK dd_X12_wordAt_67 (by decide) ?_
            refine g_iret (pc := 68) hK hr hlocks dd_X12_wordAt_68 rfl ?_
            exact g_fin hQ (by unfold wdN; rw [if_neg (by assumption), if_neg (by assumption), if_neg (by assumption), if_neg (by assumption), if_neg (by assumption)]) (by first | rfl | (subst_vars; rfl))
set_option maxHeartbeats 4000000 in
set_option maxRecDepth 100000 in
theorem d_read {l : Launch} {M : Mem} {Pq : Option gV → Mem → Prop} (ba : Int) (hs : 0 ≤ M 200 16 ∧ M 200 16 ≤ 120) (hba : 0 ≤ ba ∧ ba ≤ 25) (hQ : Pq (some (gI ((psR (M 218) (M 200 16).toNat ((M 200 16).toNat + 1) 0 (STF 0)).2))) (cp M 216 (psR (M 218) (M 200 16).toNat ((M 200 16).toNat + 1) 0 (STF 0)).1 0 ba.toNat 5)) : gCtr l my_X12_read mb_X12_read 7 ((some .int)) 7 [gR 200, gI ba] M Pq := by
  refine g_intro (by decide) (Nat.le_of_ble_eq_true rfl) ?_
  intro p e s m args below meth c D cy q A hK hr hlocks hw
  refine g_sub (L' := [(0, gR 200), (1, gI ba)]) [0, 1] rfl ?_
  refine g_aloadn (pc := 0) (i := 0) (x := 200) hK dd_X12_read_0 rfl rfl ?_
  refine g_getv (pc := 1) (f := (1, 16)) (j := 15) (v := gR 216) hK (kdm kd_200) rfl ef_12 (by decide) rfl kk_1116 dd_X12_read_1 rfl ?_
  refine g_iloadn (pc := 4) (i := 1) (x := ba) hK dd_X12_read_4 rfl rfl ?_
  refine g_bipush (pc := 5) (x := 100) hK dd_X12_read_5 (by decide) ?_
  refine g_iast (pc := 7) hK (kdm kd_216) nl_216 (by decide) (by decide) dd_X12_read_7 (by omega) (by omega) (by decide) ?_
  refine g_aloadn (pc := 8) (i := 0) (x := 200) hK dd_X12_read_8 rfl rfl ?_
  refine g_getv (pc := 9) (f := (1, 16)) (j := 15) (v := gR 216) hK (kdm kd_200) rfl ef_12 (by decide) rfl kk_1116 dd_X12_read_9 rfl ?_
  refine g_iloadn (pc := 12) (i := 1) (x := ba) hK dd_X12_read_12 rfl rfl ?_
  refine g_iconst (pc := 13) (x := 1) hK dd_X12_read_13 (by decide) ?_
  refine g_iadd (pc := 14) (z := ba + 1) hK dd_X12_read_14 rfl ?_
  refine g_bipush (pc := 15) (x := 50) hK dd_X12_read_15 (by decide) ?_
  refine g_iast (pc := 17) hK (kdm kd_216) nl_216 (by decide) (by decide) dd_X12_read_17 (by omega) (by omega) (by decide) ?_
  refine g_aloadn (pc := 18) (i := 0) (x := 200) hK dd_X12_read_18 rfl rfl ?_
  refine g_getv (pc := 19) (f := (1, 16)) (j := 15) (v := gR 216) hK (kdm kd_200) rfl ef_12 (by decide) rfl kk_1116 dd_X12_read_19 rfl ?_
  refine g_iloadn (pc := 22) (i := 1) (x := ba) hK dd_X12_read_22 rfl rfl ?_
  refine g_iconst (pc := 23) (x := 2) hK dd_X12_read_23 (by decide) ?_
  refine g_iadd (pc := 24) (z := ba + 2) hK dd_X12_read_24 rfl ?_
  refine g_iconst (pc := 25) (x := 1) hK dd_X12_read_25 (by decide) ?_
  refine g_iast (pc := 26) hK (kdm kd_216) nl_216 (by decide) (by decide) dd_X12_read_26 (by omega) (by omega) (by decide) ?_
  refine g_aloadn (pc := 27) (i := 0) (x := 200) hK dd_X12_read_27 rfl rfl ?_
  refine g_getv (pc := 28) (f := (1, 16)) (j := 15) (v := gR 216) hK (kdm kd_200) rfl ef_12 (by decide) rfl kk_1116 dd_X12_read_28 rfl ?_
  refine g_iloadn (pc := 31) (i := 1) (x := ba) hK dd_X12_read_31 rfl rfl ?_
  refine g_iconst (pc := 32) (x := 3) hK dd_X12_read_32 (by decide) ?_
  refine g_iadd (pc := 33) (z := ba + 3) hK dd_X12_read_33 rfl ?_
  refine g_iconst (pc := 34) (x := 0) hK dd_X12_read_34 (by decide) ?_
  refine g_iast (pc := 35) hK (kdm kd_216) nl_216 (by decide) (by decide) dd_X12_read_35 (by omega) (by omega) (by decide) ?_
  refine g_aloadn (pc := 36) (i := 0) (x := 200) hK dd_X12_read_36 rfl rfl ?_
  refine g_getv (pc := 37) (f := (1, 16)) (j := 15) (v := gR 216) hK (kdm kd_200) rfl ef_12 (by decide) rfl kk_1116 dd_X12_read_37 rfl ?_
  refine g_iloadn (pc := 40) (i := 1) (x := ba) hK dd_X12_read_40 rfl rfl ?_
  refine g_iconst (pc := 41) (x := 4) hK dd_X12_read_41 (by decide) ?_
  refine g_iadd (pc := 42) (z := ba + 4) hK dd_X12_read_42 rfl ?_
  refine g_sipush (pc := 43) (x := 999) hK dd_X12_read_43 (by decide) ?_
  refine g_iast (pc := 46) hK (kdm kd_216) nl_216 (by decide) (by decide) dd_X12_read_46 (by omega) (by omega) (by decide) ?_
  refine g_iconst (pc := 47) (x := 0) hK dd_X12_read_47 (by decide) ?_
  refine g_istoren (pc := 48) (i := 2) (L' := [(0, gR 200), (1, gI ba), (2, gI 0)]) hK dd_X12_read_48 rfl (by decide) rfl ?_
  refine g_iconst (pc := 49) (x := 0) hK dd_X12_read_49 (by decide) ?_
  refine g_istoren (pc := 50) (i := 3) (L' := [(0, gR 200), (1, gI ba), (2, gI 0), (3, gI 0)]) hK dd_X12_read_50 rfl (by decide) rfl ?_
  refine g_iconst (pc := 51) (x := 0) hK dd_X12_read_51 (by decide) ?_
  refine g_istore (pc := 52) (i := 4) (L' := [(0, gR 200), (1, gI ba), (2, gI 0), (3, gI 0), (4, gI 0)]) hK dd_X12_read_52 (by decide) rfl ?_
  have lp3 : ∀ (n1 : Nat) (px : Int) (wn : Int) (wh : Int) (k : Nat) (Dd : Nat → Int), (0 ≤ px ∧ px ≤ M 200 16) → (0 ≤ wn ∧ wn ≤ 2) → (0 ≤ wh ∧ wh ≤ 4) → ((M 200 16).toNat + 1 ≤ k + px.toNat) → (psR (M 218) (M 200 16).toNat ((M 200 16).toNat + 1) 0 (STF 0) = psX (M 218) (M 200 16).toNat k wn wh px.toNat Dd) → (M 200 16 - px).toNat < n1 → G p l e (rmD 7) s m args below meth c D cy q A 0 0 7 (MQ below (gQc D cy q A Pq) args s 0 0 A) 54 [(0, gR 200), (1, gI ba), (2, gI px), (3, gI wn), (4, gI wh)] [] (cp M 216 Dd 0 ba.toNat 5) := by
    intro n1
    induction n1 with
    | zero => intro px wn wh k Dd iv4 iv5 iv6 hk_ hx_ hm7; exact absurd hm7 (Nat.not_lt_zero _)
    | succ n1 ih2 =>
      intro px wn wh k Dd iv4 iv5 iv6 hk_ hx_ hm7
      refine g_iloadn (pc := 54) (i := 2) (x := px) hK dd_X12_read_54 rfl rfl ?_
      refine g_aloadn (pc := 55) (i := 0) (x := 200) hK dd_X12_read_55 rfl rfl ?_
      refine g_geti (pc := 56) (f := (0, 0)) (j := 16) hK (kdm kd_200) rfl ef_12 (by decide) rfl kk_1117 nl_200 dd_X12_read_56 rfl (fun x8 ex8 rx8 => ?_)
      replace ex8 : x8 = M 200 16 := ex8
      refine g_icmp_ge (pc := 59) (tgt := 79) hK dd_X12_read_59 (by decide) ⟨by omega, by omega⟩ rx8 (fun c9 => ?_) (fun c9 => ?_)
      · skip
        refine g_iloadn (pc := 79) (i := 2) (x := px) hK dd_X12_read_79 rfl rfl ?_
        refine g_aloadn (pc := 80) (i := 0) (x := 200) hK dd_X12_read_80 rfl rfl ?_
        refine g_geti (pc := 81) (f := (0, 0)) (j := 16) hK (kdm kd_200) rfl ef_12 (by decide) rfl kk_1117 nl_200 dd_X12_read_81 rfl (fun x10 ex10 rx10 => ?_)
        replace ex10 : x10 = M 200 16 := ex10
        refine g_icmp_ne (pc := 84) (tgt := 101) hK dd_X12_read_84 (by decide) ⟨by omega, by omega⟩ rx10 (fun c11 => ?_) (fun c11 => ?_)
        · exfalso; omega
        · skip
          refine g_iloadn (pc := 87) (i := 3) (x := wn) hK dd_X12_read_87 rfl rfl ?_
          refine g_iconst (pc := 88) (x := 2) hK dd_X12_read_88 (by decide) ?_
          refine g_icmp_ne (pc := 89) (tgt := 96) hK dd_X12_read_89 (by decide) ⟨by omega, by omega⟩ (by decide) (fun c12 => ?_) (fun c12 => ?_)
          · have hq_ : psR (M 218) (M 200 16).toNat ((M 200 16).toNat + 1) 0 (STF 0) = (Dd, (((M 200 16).toNat : Nat) : Int)) := by rw [hx_]; exact rx_e0 (by omega) (by omega) (by omega) (by omega)
            have hr1_ : (psR (M 218) (M 200 16).toNat ((M 200 16).toNat + 1) 0 (STF 0)).1 = Dd := by rw [hq_]
            have hr2_ : (psR (M 218) (M 200 16).toNat ((M 200 16).toNat + 1) 0 (STF 0)).2 = (((M 200 16).toNat : Nat) : Int) := by rw [hq_]
            refine g_aloadn (pc := 96) (i := 0) (x := 200) hK dd_X12_read_96 rfl rfl ?_
            refine g_geti (pc := 97) (f := (0, 0)) (j := 16) hK (kdm kd_200) rfl ef_12 (by decide) rfl kk_1117 nl_200 dd_X12_read_97 rfl (fun x13 ex13 rx13 => ?_)
            replace ex13 : x13 = M 200 16 := ex13
            refine g_iret (pc := 100) hK hr hlocks dd_X12_read_100 rfl ?_
            exact g_fin hQ (by first | (rw [hr2_]; done) | (rw [hr2_]; omega)) (by rw [hr1_])
          · have hq_ : psR (M 218) (M 200 16).toNat ((M 200 16).toNat + 1) 0 (STF 0) = (Dd, -1) := by rw [hx_]; exact rx_e2 (by omega) (by omega)
            have hr1_ : (psR (M 218) (M 200 16).toNat ((M 200 16).toNat + 1) 0 (STF 0)).1 = Dd := by rw [hq_]
            have hr2_ : (psR (M 218) (M 200 16).toNat ((M 200 16).toNat + 1) 0 (STF 0)).2 = -1 := by rw [hq_]
            refine g_iconst (pc := 92) (x := (-1)) hK dd_X12_read_92 (by decide) ?_
            refine g_goto (pc := 93) (tgt := 100) hK dd_X12_read_93 (by decide) ?_
            refine g_iret (pc := 100) hK hr hlocks dd_X12_read_100 rfl ?_
            exact g_fin hQ (by first | (rw [hr2_]; done) | (rw [hr2_]; omega)) (by rw [hr1_])
      · refine g_aloadn (pc := 62) (i := 0) (x := 200) hK dd_X12_read_62 rfl rfl ?_
        refine g_getv (pc := 63) (f := (1, 18)) (j := 17) (v := gR 218) hK (kdm kd_200) rfl ef_12 (by decide) rfl kk_1118 dd_X12_read_63 rfl ?_
        refine g_iloadn (pc := 66) (i := 2) (x := px) hK dd_X12_read_66 rfl rfl ?_
        refine g_iald (pc := 67) hK (kdm kd_218) nl_218 (by decide) dd_X12_read_67 (by omega) (by omega) (fun x14 ex14 rx14 => ?_)
        replace ex14 : x14 = M 218 px.toNat := ex14
        refine g_bipush (pc := 68) (x := 32) hK dd_X12_read_68 (by decide) ?_
        refine g_icmp_ne (pc := 70) (tgt := 79) hK dd_X12_read_70 (by decide) rx14 (by decide) (fun c15 => ?_) (fun c15 => ?_)
        · have hnb_ : ¬ isB (M 218 px.toNat) = true := by rw [isB_i]; omega
          refine g_iloadn (pc := 79) (i := 2) (x := px) hK dd_X12_read_79 rfl rfl ?_
          refine g_aloadn (pc := 80) (i := 0) (x := 200) hK dd_X12_read_80 rfl rfl ?_
          refine g_geti (pc := 81) (f := (0, 0)) (j := 16) hK (kdm kd_200) rfl ef_12 (by decide) rfl kk_1117 nl_200 dd_X12_read_81 rfl (fun x16 ex16 rx16 => ?_)
          replace ex16 : x16 = M 200 16 := ex16
          refine g_icmp_ne (pc := 84) (tgt := 101) hK dd_X12_read_84 (by decide) ⟨by omega, by omega⟩ rx16 (fun c17 => ?_) (fun c17 => ?_)
          · skip
            refine g_iloadn (pc := 101) (i := 2) (x := px) hK dd_X12_read_101 rfl rfl ?_
            refine g_istore (pc := 102) (i := 5) (L' := [(0, gR 200), (1, gI ba), (2, gI px), (3, gI wn), (4, gI wh), (5, gI px)]) hK dd_X12_read_102 (by decide) rfl ?_
            refine g_iloadn (pc := 104) (i := 3) (x := wn) hK dd_X12_read_104 rfl rfl ?_
            refine g_if_ne (pc := 105) (tgt := 158) hK dd_X12_read_105 (by decide) ⟨by omega, by omega⟩ (fun c18 => ?_) (fun c18 => ?_)
            · refine g_iloadn (pc := 158) (i := 3) (x := wn) hK dd_X12_read_158 rfl rfl ?_
              refine g_iconst (pc := 159) (x := 1) hK dd_X12_read_159 (by decide) ?_
              refine g_icmp_ne (pc := 160) (tgt := 264) hK dd_X12_read_160 (by decide) ⟨by omega, by omega⟩ (by decide) (fun c19 => ?_) (fun c19 => ?_)
              · have e0_ : 1 < wn := by omega
                refine g_aloadn (pc := 264) (i := 0) (x := 200) hK dd_X12_read_264 rfl rfl ?_
                refine g_getv (pc := 265) (f := (1, 18)) (j := 17) (v := gR 218) hK (kdm kd_200) rfl ef_12 (by decide) rfl kk_1118 dd_X12_read_265 rfl ?_
                refine g_iloadn (pc := 268) (i := 2) (x := px) hK dd_X12_read_268 rfl rfl ?_
                refine g_iald (pc := 269) hK (kdm kd_218) nl_218 (by decide) dd_X12_read_269 (by omega) (by omega) (fun x20 ex20 rx20 => ?_)
                replace ex20 : x20 = M 218 px.toNat := ex20
                refine g_bipush (pc := 270) (x := 59) hK dd_X12_read_270 (by decide) ?_
                refine g_icmp_eq (pc := 272) (tgt := 277) hK dd_X12_read_272 (by decide) rx20 (by decide) (fun c21 => ?_) (fun c21 => ?_)
                · have hx2_ := hx_.trans (rx_2y (wh2 := wh) e0_ (by omega) hnb_ (by omega))
                  skip
                  refine g_iloadn (pc := 277) (i := 2) (x := px) hK dd_X12_read_277 rfl rfl ?_
                  refine g_iconst (pc := 278) (x := 1) hK dd_X12_read_278 (by decide) ?_
                  refine g_iadd (pc := 279) (z := px + 1) hK dd_X12_read_279 rfl ?_
                  refine g_istore (pc := 280) (i := 5) (L' := [(0, gR 200), (1, gI ba), (2, gI px), (3, gI wn), (4, gI wh), (5, gI (px + 1))]) hK dd_X12_read_280 (by decide) rfl ?_
                  refine g_iconst (pc := 282) (x := 0) hK dd_X12_read_282 (by decide) ?_
                  refine g_istoren (pc := 283) (i := 3) (L' := [(0, gR 200), (1, gI ba), (2, gI px), (3, gI 0), (4, gI wh), (5, gI (px + 1))]) hK dd_X12_read_283 rfl (by decide) rfl ?_
                  refine g_iload (pc := 284) (i := 5) (x := px + 1) hK dd_X12_read_284 rfl ?_
                  refine g_istoren (pc := 286) (i := 2) (L' := [(0, gR 200), (1, gI ba), (2, gI (px + 1)), (3, gI 0), (4, gI wh), (5, gI (px + 1))]) hK dd_X12_read_286 rfl (by decide) rfl ?_
                  refine g_goto (pc := 287) (tgt := 54) hK dd_X12_read_287 (by decide) ?_
                  refine g_sub (L' := [(0, gR 200), (1, gI ba), (2, gI (px + 1)), (3, gI 0), (4, gI wh)]) [0, 1, 2, 3, 4] rfl ?_
                  refine g_mem (M2 := cp M 216 Dd 0 ba.toNat 5) (by first | rfl | exact cp_us (by omega) (by omega)) ?_
                  exact ih2 (px + 1) 0 wh k Dd (by omega) (by omega) (by omega) (by omega) (by first | exact hx2_ | (rw [tn1 (by omega)]; exact hx2_)) (by omega)
                · have hq_ : psR (M 218) (M 200 16).toNat ((M 200 16).toNat + 1) 0 (STF 0) = (Dd, ((px.toNat : Nat) : Int)) := by rw [hx_]; exact rx_2n e0_ (by omega) hnb_ (by omega)
                  have hr1_ : (psR (M 218) (M 200 16).toNat ((M 200 16).toNat + 1) 0 (STF 0)).1 = Dd := by rw [hq_]
                  have hr2_ : (psR (M 218) (M 200 16).toNat ((M 200 16).toNat + 1) 0 (STF 0)).2 = ((px.toNat : Nat) : Int) := by rw [hq_]
                  refine g_iloadn (pc := 275) (i := 2) (x := px) hK dd_X12_read_275 rfl rfl ?_
                  refine g_iret (pc := 276) hK hr hlocks dd_X12_read_276 rfl ?_
                  exact g_fin hQ (by first | (rw [hr2_]; done) | (rw [hr2_]; omega)) (by rw [hr1_])
              · have e0_ : wn = 1 := by omega
                rw [e0_] at hx_
                refine g_iconst (pc := 163) (x := 0) hK dd_X12_read_163 (by decide) ?_
                refine g_istore (pc := 164) (i := 6) (L' := [(0, gR 200), (1, gI ba), (2, gI px), (3, gI wn), (4, gI wh), (5, gI px), (6, gI 0)]) hK dd_X12_read_164 (by decide) rfl ?_
                have lp24 : ∀ (n22 : Nat) (qx : Int) (v : Int), (px ≤ qx ∧ qx ≤ M 200 16) → (RQ isD (M 218) (M 200 16).toNat px.toNat qx.toNat) → (∀ j : Nat, px.toNat ≤ j → j < qx.toNat → isD (M 218 j) = true) → (v = numV (M 218) px.toNat (min (qx.toNat - px.toNat) 3)) → (0 ≤ v ∧ v ≤ 999) → (M 200 16 - qx).toNat < n22 → G p l e (rmD 7) s m args below meth c D cy q A 0 0 7 (MQ below (gQc D cy q A Pq) args s 0 0 A) 166 [(0, gR 200), (1, gI ba), (2, gI px), (3, gI wn), (4, gI wh), (5, gI qx), (6, gI v)] [] (cp M 216 Dd 0 ba.toNat 5) := by
                  intro n22
                  induction n22 with
                  | zero => intro qx v iv25 hl_ hdg_ hv_ iv26 hm27; exact absurd hm27 (Nat.not_lt_zero _)
                  | succ n22 ih23 =>
                    intro qx v iv25 hl_ hdg_ hv_ iv26 hm27
                    refine g_iload (pc := 166) (i := 5) (x := qx) hK dd_X12_read_166 rfl ?_
                    refine g_aloadn (pc := 168) (i := 0) (x := 200) hK dd_X12_read_168 rfl rfl ?_
                    refine g_geti (pc := 169) (f := (0, 0)) (j := 16) hK (kdm kd_200) rfl ef_12 (by decide) rfl kk_1117 nl_200 dd_X12_read_169 rfl (fun x28 ex28 rx28 => ?_)
                    replace ex28 : x28 = M 200 16 := ex28
                    refine g_icmp_ge (pc := 172) (tgt := 221) hK dd_X12_read_172 (by decide) ⟨by omega, by omega⟩ rx28 (fun c29 => ?_) (fun c29 => ?_)
                    · have hrq_ : run isD (M 218) (M 200 16).toNat px.toNat = qx.toNat := rvei hl_ (by omega)
                      clear hm27
                      refine g_iload (pc := 221) (i := 5) (x := qx) hK dd_X12_read_221 rfl ?_
                      refine g_iloadn (pc := 223) (i := 2) (x := px) hK dd_X12_read_223 rfl rfl ?_
                      refine g_icmp_eq (pc := 224) (tgt := 246) hK dd_X12_read_224 (by decide) ⟨by omega, by omega⟩ ⟨by omega, by omega⟩ (fun c30 => ?_) (fun c30 => ?_)
                      · have hq_ : psR (M 218) (M 200 16).toNat ((M 200 16).toNat + 1) 0 (STF 0) = (Dd, ((px.toNat : Nat) : Int)) := by rw [hx_]; exact rx_1n hnb_ hrq_ (Or.inl (by omega))
                        have hr1_ : (psR (M 218) (M 200 16).toNat ((M 200 16).toNat + 1) 0 (STF 0)).1 = Dd := by rw [hq_]
                        have hr2_ : (psR (M 218) (M 200 16).toNat ((M 200 16).toNat + 1) 0 (STF 0)).2 = ((px.toNat : Nat) : Int) := by rw [hq_]
                        refine g_iloadn (pc := 246) (i := 2) (x := px) hK dd_X12_read_246 rfl rfl ?_
                        refine g_iret (pc := 247) hK hr hlocks dd_X12_read_247 rfl ?_
                        exact g_fin hQ (by first | (rw [hr2_]; done) | (rw [hr2_]; omega)) (by rw [hr1_])
                      · refine g_iload (pc := 227) (i := 5) (x := qx) hK dd_X12_read_227 rfl ?_
                        refine g_iloadn (pc := 229) (i := 2) (x := px) hK dd_X12_read_229 rfl rfl ?_
                        refine g_isub (pc := 230) (z := qx - px) hK dd_X12_read_230 rfl ?_
                        refine g_iconst (pc := 231) (x := 3) hK dd_X12_read_231 (by decide) ?_
                        refine g_icmp_gt (pc := 232) (tgt := 246) hK dd_X12_read_232 (by decide) ⟨by omega, by omega⟩ (by decide) (fun c31 => ?_) (fun c31 => ?_)
                        · have hq_ : psR (M 218) (M 200 16).toNat ((M 200 16).toNat + 1) 0 (STF 0) = (Dd, ((px.toNat : Nat) : Int)) := by rw [hx_]; exact rx_1n hnb_ hrq_ (Or.inr (Or.inl (by omega)))
                          have hr1_ : (psR (M 218) (M 200 16).toNat ((M 200 16).toNat + 1) 0 (STF 0)).1 = Dd := by rw [hq_]
                          have hr2_ : (psR (M 218) (M 200 16).toNat ((M 200 16).toNat + 1) 0 (STF 0)).2 = ((px.toNat : Nat) : Int) := by rw [hq_]
                          refine g_iloadn (pc := 246) (i := 2) (x := px) hK dd_X12_read_246 rfl rfl ?_
                          refine g_iret (pc := 247) hK hr hlocks dd_X12_read_247 rfl ?_
                          exact g_fin hQ (by first | (rw [hr2_]; done) | (rw [hr2_]; omega)) (by rw [hr1_])
                        · have hve_ : v = numV (M 218) px.toNat (qx.toNat - px.toNat) := by rw [hv_, show min (qx.toNat - px.toNat) 3 = (qx.toNat - px.toNat) by omega]
                          refine g_aloadn (pc := 235) (i := 0) (x := 200) hK dd_X12_read_235 rfl rfl ?_
                          refine g_iload (pc := 236) (i := 4) (x := wh) hK dd_X12_read_236 rfl ?_
                          refine g_iload (pc := 238) (i := 6) (x := v) hK dd_X12_read_238 rfl ?_
                          refine g_callV (pc := 240) (As := [gI wh, gI v]) hK ws_M_236 md_X12_mayBe ⟨Nat.zero_le _, Nat.zero_le _⟩ ⟨by decide, by decide⟩ (kdm kd_200) rfl rfl dd_X12_read_240 rfl rfl (Nat.le_of_ble_eq_true rfl) (d_mayBe wh v (by omega) (by omega) (fun c32 => g_r1 ?_) (fun c32 => g_r1 ?_))
                          · replace c32 : mayT wh v := c32
                            refine g_if_ne (pc := 243) (tgt := 248) hK dd_X12_read_243 (by decide) (by decide) (fun _ => ?_) (fun c33 => absurd (by decide) c33)
                            have hx2_ := hx_.trans (rx_1y hnb_ hrq_ (no3 (by omega) (by omega) (by rw [← hve_]; exact fun z => z c32)))
                            rw [← hve_] at hx2_
                            skip
                            refine g_aloadn (pc := 248) (i := 0) (x := 200) hK dd_X12_read_248 rfl rfl ?_
                            refine g_getv (pc := 249) (f := (1, 16)) (j := 15) (v := gR 216) hK (kdm kd_200) rfl ef_12 (by decide) rfl kk_1116 dd_X12_read_249 rfl ?_
                            refine g_iloadn (pc := 252) (i := 1) (x := ba) hK dd_X12_read_252 rfl rfl ?_
                            refine g_iload (pc := 253) (i := 4) (x := wh) hK dd_X12_read_253 rfl ?_
                            refine g_iadd (pc := 255) (z := ba + wh) hK dd_X12_read_255 rfl ?_
                            refine g_iload (pc := 256) (i := 6) (x := v) hK dd_X12_read_256 rfl ?_
                            refine g_iast (pc := 258) hK (kdm kd_216) nl_216 (by decide) (by decide) dd_X12_read_258 (by omega) (by omega) ⟨by omega, by omega⟩ ?_
                            refine g_iconst (pc := 259) (x := 2) hK dd_X12_read_259 (by decide) ?_
                            refine g_istoren (pc := 260) (i := 3) (L' := [(0, gR 200), (1, gI ba), (2, gI px), (3, gI 2), (4, gI wh), (5, gI qx), (6, gI v)]) hK dd_X12_read_260 rfl (by decide) rfl ?_
                            refine g_goto (pc := 261) (tgt := 284) hK dd_X12_read_261 (by decide) ?_
                            refine g_iload (pc := 284) (i := 5) (x := qx) hK dd_X12_read_284 rfl ?_
                            refine g_istoren (pc := 286) (i := 2) (L' := [(0, gR 200), (1, gI ba), (2, gI qx), (3, gI 2), (4, gI wh), (5, gI qx), (6, gI v)]) hK dd_X12_read_286 rfl (by decide) rfl ?_
                            refine g_goto (pc := 287) (tgt := 54) hK dd_X12_read_287 (by decide) ?_
                            refine g_sub (L' := [(0, gR 200), (1, gI ba), (2, gI qx), (3, gI 2), (4, gI wh)]) [0, 1, 2, 3, 4] rfl ?_
                            refine g_mem (M2 := cp M 216 (us Dd wh.toNat v) 0 ba.toNat 5) (by first | rfl | exact cp_us (by omega) (by omega)) ?_
                            exact ih2 qx 2 wh k (us Dd wh.toNat v) (by omega) (by omega) (by omega) (by omega) (by first | exact hx2_ | (rw [tn1 (by omega)]; exact hx2_)) (by omega)
                          · replace c32 : ¬ (mayT wh v) := c32
                            refine g_if_ne (pc := 243) (tgt := 248) hK dd_X12_read_243 (by decide) (by decide) (fun c34 => absurd c34 (by decide)) (fun _ => ?_)
                            have hq_ : psR (M 218) (M 200 16).toNat ((M 200 16).toNat + 1) 0 (STF 0) = (Dd, ((px.toNat : Nat) : Int)) := by rw [hx_]; exact rx_1n hnb_ hrq_ (Or.inr (Or.inr (by rw [← hve_]; exact c32)))
                            have hr1_ : (psR (M 218) (M 200 16).toNat ((M 200 16).toNat + 1) 0 (STF 0)).1 = Dd := by rw [hq_]
                            have hr2_ : (psR (M 218) (M 200 16).toNat ((M 200 16).toNat + 1) 0 (STF 0)).2 = ((px.toNat : Nat) : Int) := by rw [hq_]
                            refine g_iloadn (pc := 246) (i := 2) (x := px) hK dd_X12_read_246 rfl rfl ?_
                            refine g_iret (pc := 247) hK hr hlocks dd_X12_read_247 rfl ?_
                            exact g_fin hQ (by first | (rw [hr2_]; done) | (rw [hr2_]; omega)) (by rw [hr1_])
                    · refine g_aloadn (pc := 175) (i := 0) (x := 200) hK dd_X12_read_175 rfl rfl ?_
                      refine g_aloadn (pc := 176) (i := 0) (x := 200) hK dd_X12_read_176 rfl rfl ?_
                      refine g_getv (pc := 177) (f := (1, 18)) (j := 17) (v := gR 218) hK (kdm kd_200) rfl ef_12 (by decide) rfl kk_1118 dd_X12_read_177 rfl ?_
                      refine g_iload (pc := 180) (i := 5) (x := qx) hK dd_X12_read_180 rfl ?_
                      refine g_iald (pc := 182) hK (kdm kd_218) nl_218 (by decide) dd_X12_read_182 (by omega) (by omega) (fun x35 ex35 rx35 => ?_)
                      replace ex35 : x35 = M 218 qx.toNat := ex35
                      refine g_callV (pc := 183) (As := [gI x35]) hK ws_M_233 md_X12_isDigit ⟨Nat.zero_le _, Nat.zero_le _⟩ ⟨by decide, by decide⟩ (kdm kd_200) rfl rfl dd_X12_read_183 rfl rfl (Nat.le_of_ble_eq_true rfl) (d_isDigit x35 rx35 (fun c36 => g_r1 ?_) (fun c36 => g_r1 ?_))
                      · replace c36 : 48 ≤ x35 ∧ x35 ≤ 57 := c36
                        refine g_if_eq (pc := 186) (tgt := 221) hK dd_X12_read_186 (by decide) (by decide) (fun c37 => absurd c37 (by decide)) (fun _ => ?_)
                        have hdx_ : isD (M 218 qx.toNat) = true := by rw [isD_i]; omega
                        refine g_iload (pc := 189) (i := 5) (x := qx) hK dd_X12_read_189 rfl ?_
                        refine g_iloadn (pc := 191) (i := 2) (x := px) hK dd_X12_read_191 rfl rfl ?_
                        refine g_isub (pc := 192) (z := qx - px) hK dd_X12_read_192 rfl ?_
                        refine g_iconst (pc := 193) (x := 3) hK dd_X12_read_193 (by decide) ?_
                        refine g_icmp_ge (pc := 194) (tgt := 215) hK dd_X12_read_194 (by decide) ⟨by omega, by omega⟩ (by decide) (fun c38 => ?_) (fun c38 => ?_)
                        · refine g_iinc (pc := 215) (i := 5) (y := qx + 1) (L' := [(0, gR 200), (1, gI ba), (2, gI px), (3, gI wn), (4, gI wh), (5, gI (qx + 1)), (6, gI v)]) hK dd_X12_read_215 rfl rfl (by decide) rfl ?_
                          refine g_goto (pc := 218) (tgt := 166) hK dd_X12_read_218 (by decide) ?_
                          refine g_sub (L' := [(0, gR 200), (1, gI ba), (2, gI px), (3, gI wn), (4, gI wh), (5, gI (qx + 1)), (6, gI v)]) [0, 1, 2, 3, 4, 5, 6] rfl ?_
                          exact ih23 (qx + 1) v (by omega) (rqsi hl_ (by omega) (by omega) (by rw [isD_i]; omega)) (fun j h1 h2 => by
                            by_cases e : j < qx.toNat
                            · exact hdg_ j h1 e
                            · rw [show j = qx.toNat by omega]; exact hdx_) (by first | exact hnv_ | (rw [hv_, show min ((qx + 1).toNat - px.toNat) 3 = 3 by omega, show min (qx.toNat - px.toNat) 3 = 3 by omega])) (by omega) (by omega)
                        · have hni_ := numV_in (f := M 218) (b := px.toNat) (qx.toNat - px.toNat) (fun j hj => isD_i.mp (hdg_ _ (by omega) (by omega))) (by omega)
                          have hnj_ := isD_i.mp hdx_
                          rw [show min (qx.toNat - px.toNat) 3 = (qx.toNat - px.toNat) by omega] at hv_
                          rw [← hv_] at hni_
                          have hnk_ := numV_in (f := M 218) (b := px.toNat) ((qx.toNat - px.toNat) + 1) (dg_s hdg_ hdx_ (by omega)) (by omega)
                          refine g_bipush (pc := 197) (x := 10) hK dd_X12_read_197 (by decide) ?_
                          refine g_iload (pc := 199) (i := 6) (x := v) hK dd_X12_read_199 rfl ?_
                          refine g_imul (pc := 201) (z := 10 * v) hK dd_X12_read_201 rfl ?_
                          refine g_aloadn (pc := 202) (i := 0) (x := 200) hK dd_X12_read_202 rfl rfl ?_
                          refine g_getv (pc := 203) (f := (1, 18)) (j := 17) (v := gR 218) hK (kdm kd_200) rfl ef_12 (by decide) rfl kk_1118 dd_X12_read_203 rfl ?_
                          refine g_iload (pc := 206) (i := 5) (x := qx) hK dd_X12_read_206 rfl ?_
                          refine g_iald (pc := 208) hK (kdm kd_218) nl_218 (by decide) dd_X12_read_208 (by omega) (by omega) (fun x39 ex39 rx39 => ?_)
                          replace ex39 : x39 = M 218 qx.toNat := ex39
                          refine g_iadd (pc := 209) (z := (10 * v) + x39) hK dd_X12_read_209 rfl ?_
                          refine g_bipush (pc := 210) (x := 48) hK dd_X12_read_210 (by decide) ?_
                          refine g_isub (pc := 212) (z := ((10 * v) + x39) - 48) hK dd_X12_read_212 rfl ?_
                          have hnv_ : ((10 * v) + x39) - 48 = numV (M 218) px.toNat (min ((qx + 1).toNat - px.toNat) 3) := by rw [show min ((qx + 1).toNat - px.toNat) 3 = (qx.toNat - px.toNat) + 1 by omega]; simp only [numV]; rw [← hv_, show px.toNat + (qx.toNat - px.toNat) = qx.toNat by omega]; omega
                          have hnb2_ : 0 ≤ ((10 * v) + x39) - 48 ∧ ((10 * v) + x39) - 48 ≤ 999 := by rw [hnv_, show min ((qx + 1).toNat - px.toNat) 3 = (qx.toNat - px.toNat) + 1 by omega]; exact ⟨hnk_.1, hnk_.2.1⟩
                          refine g_istore (pc := 213) (i := 6) (L' := [(0, gR 200), (1, gI ba), (2, gI px), (3, gI wn), (4, gI wh), (5, gI qx), (6, gI (((10 * v) + x39) - 48))]) hK dd_X12_read_213 (by decide) rfl ?_
                          refine g_iinc (pc := 215) (i := 5) (y := qx + 1) (L' := [(0, gR 200), (1, gI ba), (2, gI px), (3, gI wn), (4, gI wh), (5, gI (qx + 1)), (6, gI (((10 * v) + x39) - 48))]) hK dd_X12_read_215 rfl rfl (by decide) rfl ?_
                          refine g_goto (pc := 218) (tgt := 166) hK dd_X12_read_218 (by decide) ?_
                          refine g_sub (L' := [(0, gR 200), (1, gI ba), (2, gI px), (3, gI wn), (4, gI wh), (5, gI (qx + 1)), (6, gI (((10 * v) + x39) - 48))]) [0, 1, 2, 3, 4, 5, 6] rfl ?_
                          exact ih23 (qx + 1) (((10 * v) + x39) - 48) (by omega) (rqsi hl_ (by omega) (by omega) (by rw [isD_i]; omega)) (fun j h1 h2 => by
                            by_cases e : j < qx.toNat
                            · exact hdg_ j h1 e
                            · rw [show j = qx.toNat by omega]; exact hdx_) (by first | exact hnv_ | (rw [hv_, show min ((qx + 1).toNat - px.toNat) 3 = 3 by omega, show min (qx.toNat - px.toNat) 3 = 3 by omega])) (by omega) (by omega)
                      · replace c36 : ¬ (48 ≤ x35 ∧ x35 ≤ 57) := c36
                        refine g_if_eq (pc := 186) (tgt := 221) hK dd_X12_read_186 (by decide) (by decide) (fun _ => ?_) (fun c40 => absurd (by decide) c40)
                        have hrq_ : run isD (M 218) (M 200 16).toNat px.toNat = qx.toNat := rvn hl_ (by rw [isD_i]; omega)
                        clear hm27
                        refine g_iload (pc := 221) (i := 5) (x := qx) hK dd_X12_read_221 rfl ?_
                        refine g_iloadn (pc := 223) (i := 2) (x := px) hK dd_X12_read_223 rfl rfl ?_
                        refine g_icmp_eq (pc := 224) (tgt := 246) hK dd_X12_read_224 (by decide) ⟨by omega, by omega⟩ ⟨by omega, by omega⟩ (fun c41 => ?_) (fun c41 => ?_)
                        · have hq_ : psR (M 218) (M 200 16).toNat ((M 200 16).toNat + 1) 0 (STF 0) = (Dd, ((px.toNat : Nat) : Int)) := by rw [hx_]; exact rx_1n hnb_ hrq_ (Or.inl (by omega))
                          have hr1_ : (psR (M 218) (M 200 16).toNat ((M 200 16).toNat + 1) 0 (STF 0)).1 = Dd := by rw [hq_]
                          have hr2_ : (psR (M 218) (M 200 16).toNat ((M 200 16).toNat + 1) 0 (STF 0)).2 = ((px.toNat : Nat) : Int) := by rw [hq_]
                          refine g_iloadn (pc := 246) (i := 2) (x := px) hK dd_X12_read_246 rfl rfl ?_
                          refine g_iret (pc := 247) hK hr hlocks dd_X12_read_247 rfl ?_
                          exact g_fin hQ (by first | (rw [hr2_]; done) | (rw [hr2_]; omega)) (by rw [hr1_])
                        · refine g_iload (pc := 227) (i := 5) (x := qx) hK dd_X12_read_227 rfl ?_
                          refine g_iloadn (pc := 229) (i := 2) (x := px) hK dd_X12_read_229 rfl rfl ?_
                          refine g_isub (pc := 230) (z := qx - px) hK dd_X12_read_230 rfl ?_
                          refine g_iconst (pc := 231) (x := 3) hK dd_X12_read_231 (by decide) ?_
                          refine g_icmp_gt (pc := 232) (tgt := 246) hK dd_X12_read_232 (by decide) ⟨by omega, by omega⟩ (by decide) (fun c42 => ?_) (fun c42 => ?_)
                          · have hq_ : psR (M 218) (M 200 16).toNat ((M 200 16).toNat + 1) 0 (STF 0) = (Dd, ((px.toNat : Nat) : Int)) := by rw [hx_]; exact rx_1n hnb_ hrq_ (Or.inr (Or.inl (by omega)))
                            have hr1_ : (psR (M 218) (M 200 16).toNat ((M 200 16).toNat + 1) 0 (STF 0)).1 = Dd := by rw [hq_]
                            have hr2_ : (psR (M 218) (M 200 16).toNat ((M 200 16).toNat + 1) 0 (STF 0)).2 = ((px.toNat : Nat) : Int) := by rw [hq_]
                            refine g_iloadn (pc := 246) (i := 2) (x := px) hK dd_X12_read_246 rfl rfl ?_
                            refine g_iret (pc := 247) hK hr hlocks dd_X12_read_247 rfl ?_
                            exact g_fin hQ (by first | (rw [hr2_]; done) | (rw [hr2_]; omega)) (by rw [hr1_])
                          · have hve_ : v = numV (M 218) px.toNat (qx.toNat - px.toNat) := by rw [hv_, show min (qx.toNat - px.toNat) 3 = (qx.toNat - px.toNat) by omega]
                            refine g_aloadn (pc := 235) (i := 0) (x := 200) hK dd_X12_read_235 rfl rfl ?_
                            refine g_iload (pc := 236) (i := 4) (x := wh) hK dd_X12_read_236 rfl ?_
                            refine g_iload (pc := 238) (i := 6) (x := v) hK dd_X12_read_238 rfl ?_
                            refine g_callV (pc := 240) (As := [gI wh, gI v]) hK ws_M_236 md_X12_mayBe ⟨Nat.zero_le _, Nat.zero_le _⟩ ⟨by decide, by decide⟩ (kdm kd_200) rfl rfl dd_X12_read_240 rfl rfl (Nat.le_of_ble_eq_true rfl) (d_mayBe wh v (by omega) (by omega) (fun c43 => g_r1 ?_) (fun c43 => g_r1 ?_))
                            · replace c43 : mayT wh v := c43
                              refine g_if_ne (pc := 243) (tgt := 248) hK dd_X12_read_243 (by decide) (by decide) (fun _ => ?_) (fun c44 => absurd (by decide) c44)
                              have hx2_ := hx_.trans (rx_1y hnb_ hrq_ (no3 (by omega) (by omega) (by rw [← hve_]; exact fun z => z c43)))
                              rw [← hve_] at hx2_
                              skip
                              refine g_aloadn (pc := 248) (i := 0) (x := 200) hK dd_X12_read_248 rfl rfl ?_
                              refine g_getv (pc := 249) (f := (1, 16)) (j := 15) (v := gR 216) hK (kdm kd_200) rfl ef_12 (by decide) rfl kk_1116 dd_X12_read_249 rfl ?_
                              refine g_iloadn (pc := 252) (i := 1) (x := ba) hK dd_X12_read_252 rfl rfl ?_
                              refine g_iload (pc := 253) (i := 4) (x := wh) hK dd_X12_read_253 rfl ?_
                              refine g_iadd (pc := 255) (z := ba + wh) hK dd_X12_read_255 rfl ?_
                              refine g_iload (pc := 256) (i := 6) (x := v) hK dd_X12_read_256 rfl ?_
                              refine g_iast (pc := 258) hK (kdm kd_216) nl_216 (by decide) (by decide) dd_X12_read_258 (by omega) (by omega) ⟨by omega, by omega⟩ ?_
                              refine g_iconst (pc := 259) (x := 2) hK dd_X12_read_259 (by decide) ?_
                              refine g_istoren (pc := 260) (i := 3) (L' := [(0, gR 200), (1, gI ba), (2, gI px), (3, gI 2), (4, gI wh), (5, gI qx), (6, gI v)]) hK dd_X12_read_260 rfl (by decide) rfl ?_
                              refine g_goto (pc := 261) (tgt := 284) hK dd_X12_read_261 (by decide) ?_
                              refine g_iload (pc := 284) (i := 5) (x := qx) hK dd_X12_read_284 rfl ?_
                              refine g_istoren (pc := 286) (i := 2) (L' := [(0, gR 200), (1, gI ba), (2, gI qx), (3, gI 2), (4, gI wh), (5, gI qx), (6, gI v)]) hK dd_X12_read_286 rfl (by decide) rfl ?_
                              refine g_goto (pc := 287) (tgt := 54) hK dd_X12_read_287 (by decide) ?_
                              refine g_sub (L' := [(0, gR 200), (1, gI ba), (2, gI qx), (3, gI 2), (4, gI wh)]) [0, 1, 2, 3, 4] rfl ?_
                              refine g_mem (M2 := cp M 216 (us Dd wh.toNat v) 0 ba.toNat 5) (by first | rfl | exact cp_us (by omega) (by omega)) ?_
                              exact ih2 qx 2 wh k (us Dd wh.toNat v) (by omega) (by omega) (by omega) (by omega) (by first | exact hx2_ | (rw [tn1 (by omega)]; exact hx2_)) (by omega)
                            · replace c43 : ¬ (mayT wh v) := c43
                              refine g_if_ne (pc := 243) (tgt := 248) hK dd_X12_read_243 (by decide) (by decide) (fun c45 => absurd c45 (by decide)) (fun _ => ?_)
                              have hq_ : psR (M 218) (M 200 16).toNat ((M 200 16).toNat + 1) 0 (STF 0) = (Dd, ((px.toNat : Nat) : Int)) := by rw [hx_]; exact rx_1n hnb_ hrq_ (Or.inr (Or.inr (by rw [← hve_]; exact c43)))
                              have hr1_ : (psR (M 218) (M 200 16).toNat ((M 200 16).toNat + 1) 0 (STF 0)).1 = Dd := by rw [hq_]
                              have hr2_ : (psR (M 218) (M 200 16).toNat ((M 200 16).toNat + 1) 0 (STF 0)).2 = ((px.toNat : Nat) : Int) := by rw [hq_]
                              refine g_iloadn (pc := 246) (i := 2) (x := px) hK dd_X12_read_246 rfl rfl ?_
                              refine g_iret (pc := 247) hK hr hlocks dd_X12_read_247 rfl ?_
                              exact g_fin hQ (by first | (rw [hr2_]; done) | (rw [hr2_]; omega)) (by rw [hr1_])
                refine g_sub (L' := [(0, gR 200), (1, gI ba), (2, gI px), (3, gI wn), (4, gI wh), (5, gI px), (6, gI 0)]) [0, 1, 2, 3, 4, 5, 6] rfl ?_
                exact lp24 _ px 0 (by omega) (rq0) (fun j h1 h2 => absurd h2 (by omega)) (by rw [show min (px.toNat - px.toNat) 3 = 0 by omega]; rfl) (by omega) (Nat.lt_succ_self _)
            · have lp48 : ∀ (n46 : Nat) (qx : Int), (px ≤ qx ∧ qx ≤ M 200 16) → (RQ isL (M 218) (M 200 16).toNat px.toNat qx.toNat) → (M 200 16 - qx).toNat < n46 → G p l e (rmD 7) s m args below meth c D cy q A 0 0 7 (MQ below (gQc D cy q A Pq) args s 0 0 A) 108 [(0, gR 200), (1, gI ba), (2, gI px), (3, gI wn), (4, gI wh), (5, gI qx)] [] (cp M 216 Dd 0 ba.toNat 5) := by
                intro n46
                induction n46 with
                | zero => intro qx iv49 hl_ hm50; exact absurd hm50 (Nat.not_lt_zero _)
                | succ n46 ih47 =>
                  intro qx iv49 hl_ hm50
                  refine g_iload (pc := 108) (i := 5) (x := qx) hK dd_X12_read_108 rfl ?_
                  refine g_aloadn (pc := 110) (i := 0) (x := 200) hK dd_X12_read_110 rfl rfl ?_
                  refine g_geti (pc := 111) (f := (0, 0)) (j := 16) hK (kdm kd_200) rfl ef_12 (by decide) rfl kk_1117 nl_200 dd_X12_read_111 rfl (fun x51 ex51 rx51 => ?_)
                  replace ex51 : x51 = M 200 16 := ex51
                  refine g_icmp_ge (pc := 114) (tgt := 137) hK dd_X12_read_114 (by decide) ⟨by omega, by omega⟩ rx51 (fun c52 => ?_) (fun c52 => ?_)
                  · have hrq_ : run isL (M 218) (M 200 16).toNat px.toNat = qx.toNat := rvei hl_ (by omega)
                    clear hm50
                    refine g_aloadn (pc := 137) (i := 0) (x := 200) hK dd_X12_read_137 rfl rfl ?_
                    refine g_iloadn (pc := 138) (i := 2) (x := px) hK dd_X12_read_138 rfl rfl ?_
                    refine g_iload (pc := 139) (i := 5) (x := qx) hK dd_X12_read_139 rfl ?_
                    refine g_callV (pc := 141) (As := [gI px, gI qx]) hK ws_M_229 md_X12_wordAt ⟨Nat.zero_le _, Nat.zero_le _⟩ ⟨by decide, by decide⟩ (kdm kd_200) rfl rfl dd_X12_read_141 rfl rfl (Nat.le_of_ble_eq_true rfl) (d_wordAt px qx (by omega) (g_r1 ?_))
                    refine g_topI (fun wo ewo => ?_)
                    replace ewo : wo = wdN (M 218) px.toNat qx.toNat := ewo
                    refine g_istore (pc := 144) (i := 4) (L' := [(0, gR 200), (1, gI ba), (2, gI px), (3, gI wn), (4, gI wo), (5, gI qx)]) hK dd_X12_read_144 (by decide) rfl ?_
                    have hwr_ := wdN_in (M 218) px.toNat qx.toNat
                    rw [← ewo] at hwr_
                    refine g_iload (pc := 146) (i := 4) (x := wo) hK dd_X12_read_146 rfl ?_
                    refine g_if_ge (pc := 148) (tgt := 153) hK dd_X12_read_148 (by decide) ⟨by omega, by omega⟩ (fun c53 => ?_) (fun c53 => ?_)
                    · have e0_ : wn = 0 := by omega
                      rw [e0_] at hx_
                      have hy_ := rx_0y (wh := wh) (D := Dd) hnb_ (show 0 < k by omega) hrq_ ewo (by omega)
                      have hx2_ := hx_.trans hy_.1
                      have hy2_ := hy_.2
                      skip
                      refine g_iconst (pc := 153) (x := 1) hK dd_X12_read_153 (by decide) ?_
                      refine g_istoren (pc := 154) (i := 3) (L' := [(0, gR 200), (1, gI ba), (2, gI px), (3, gI 1), (4, gI wo), (5, gI qx)]) hK dd_X12_read_154 rfl (by decide) rfl ?_
                      refine g_goto (pc := 155) (tgt := 284) hK dd_X12_read_155 (by decide) ?_
                      refine g_iload (pc := 284) (i := 5) (x := qx) hK dd_X12_read_284 rfl ?_
                      refine g_istoren (pc := 286) (i := 2) (L' := [(0, gR 200), (1, gI ba), (2, gI qx), (3, gI 1), (4, gI wo), (5, gI qx)]) hK dd_X12_read_286 rfl (by decide) rfl ?_
                      refine g_goto (pc := 287) (tgt := 54) hK dd_X12_read_287 (by decide) ?_
                      refine g_sub (L' := [(0, gR 200), (1, gI ba), (2, gI qx), (3, gI 1), (4, gI wo)]) [0, 1, 2, 3, 4] rfl ?_
                      refine g_mem (M2 := cp M 216 Dd 0 ba.toNat 5) (by first | rfl | exact cp_us (by omega) (by omega)) ?_
                      exact ih2 qx 1 wo (k - 1) Dd (by omega) (by omega) (by omega) (by omega) (by first | exact hx2_ | (rw [tn1 (by omega)]; exact hx2_)) (by omega)
                    · have e0_ : wn = 0 := by omega
                      rw [e0_] at hx_
                      have hq_ : psR (M 218) (M 200 16).toNat ((M 200 16).toNat + 1) 0 (STF 0) = (Dd, ((px.toNat : Nat) : Int)) := by rw [hx_]; exact rx_0n hnb_ (by omega) hrq_ ewo (by omega)
                      have hr1_ : (psR (M 218) (M 200 16).toNat ((M 200 16).toNat + 1) 0 (STF 0)).1 = Dd := by rw [hq_]
                      have hr2_ : (psR (M 218) (M 200 16).toNat ((M 200 16).toNat + 1) 0 (STF 0)).2 = ((px.toNat : Nat) : Int) := by rw [hq_]
                      refine g_iloadn (pc := 151) (i := 2) (x := px) hK dd_X12_read_151 rfl rfl ?_
                      refine g_iret (pc := 152) hK hr hlocks dd_X12_read_152 rfl ?_
                      exact g_fin hQ (by first | (rw [hr2_]; done) | (rw [hr2_]; omega)) (by rw [hr1_])
                  · refine g_aloadn (pc := 117) (i := 0) (x := 200) hK dd_X12_read_117 rfl rfl ?_
                    refine g_aloadn (pc := 118) (i := 0) (x := 200) hK dd_X12_read_118 rfl rfl ?_
                    refine g_getv (pc := 119) (f := (1, 18)) (j := 17) (v := gR 218) hK (kdm kd_200) rfl ef_12 (by decide) rfl kk_1118 dd_X12_read_119 rfl ?_
                    refine g_iload (pc := 122) (i := 5) (x := qx) hK dd_X12_read_122 rfl ?_
                    refine g_iald (pc := 124) hK (kdm kd_218) nl_218 (by decide) dd_X12_read_124 (by omega) (by omega) (fun x54 ex54 rx54 => ?_)
                    replace ex54 : x54 = M 218 qx.toNat := ex54
                    refine g_callV (pc := 125) (As := [gI x54]) hK ws_M_226 md_X12_isLetter ⟨Nat.zero_le _, Nat.zero_le _⟩ ⟨by decide, by decide⟩ (kdm kd_200) rfl rfl dd_X12_read_125 rfl rfl (Nat.le_of_ble_eq_true rfl) (d_isLetter x54 rx54 (fun c55 => g_r1 ?_) (fun c55 => g_r1 ?_))
                    · replace c55 : 97 ≤ x54 ∧ x54 ≤ 122 := c55
                      refine g_if_eq (pc := 128) (tgt := 137) hK dd_X12_read_128 (by decide) (by decide) (fun c56 => absurd c56 (by decide)) (fun _ => ?_)
                      refine g_iinc (pc := 131) (i := 5) (y := qx + 1) (L' := [(0, gR 200), (1, gI ba), (2, gI px), (3, gI wn), (4, gI wh), (5, gI (qx + 1))]) hK dd_X12_read_131 rfl rfl (by decide) rfl ?_
                      refine g_goto (pc := 134) (tgt := 108) hK dd_X12_read_134 (by decide) ?_
                      refine g_sub (L' := [(0, gR 200), (1, gI ba), (2, gI px), (3, gI wn), (4, gI wh), (5, gI (qx + 1))]) [0, 1, 2, 3, 4, 5] rfl ?_
                      exact ih47 (qx + 1) (by omega) (rqsi hl_ (by omega) (by omega) (by rw [isL_i]; omega)) (by omega)
                    · replace c55 : ¬ (97 ≤ x54 ∧ x54 ≤ 122) := c55
                      refine g_if_eq (pc := 128) (tgt := 137) hK dd_X12_read_128 (by decide) (by decide) (fun _ => ?_) (fun c57 => absurd (by decide) c57)
                      have hrq_ : run isL (M 218) (M 200 16).toNat px.toNat = qx.toNat := rvn hl_ (by rw [isL_i]; omega)
                      clear hm50
                      refine g_aloadn (pc := 137) (i := 0) (x := 200) hK dd_X12_read_137 rfl rfl ?_
                      refine g_iloadn (pc := 138) (i := 2) (x := px) hK dd_X12_read_138 rfl rfl ?_
                      refine g_iload (pc := 139) (i := 5) (x := qx) hK dd_X12_read_139 rfl ?_
                      refine g_callV (pc := 141) (As := [gI px, gI qx]) hK ws_M_229 md_X12_wordAt ⟨Nat.zero_le _, Nat.zero_le _⟩ ⟨by decide, by decide⟩ (kdm kd_200) rfl rfl dd_X12_read_141 rfl rfl (Nat.le_of_ble_eq_true rfl) (d_wordAt px qx (by omega) (g_r1 ?_))
                      refine g_topI (fun wo ewo => ?_)
                      replace ewo : wo = wdN (M 218) px.toNat qx.toNat := ewo
                      refine g_istore (pc := 144) (i := 4) (L' := [(0, gR 200), (1, gI ba), (2, gI px), (3, gI wn), (4, gI wo), (5, gI qx)]) hK dd_X12_read_144 (by decide) rfl ?_
                      have hwr_ := wdN_in (M 218) px.toNat qx.toNat
                      rw [← ewo] at hwr_
                      refine g_iload (pc := 146) (i := 4) (x := wo) hK dd_X12_read_146 rfl ?_
                      refine g_if_ge (pc := 148) (tgt := 153) hK dd_X12_read_148 (by decide) ⟨by omega, by omega⟩ (fun c58 => ?_) (fun c58 => ?_)
                      · have e0_ : wn = 0 := by omega
                        rw [e0_] at hx_
                        have hy_ := rx_0y (wh := wh) (D := Dd) hnb_ (show 0 < k by omega) hrq_ ewo (by omega)
                        have hx2_ := hx_.trans hy_.1
                        have hy2_ := hy_.2
                        skip
                        refine g_iconst (pc := 153) (x := 1) hK dd_X12_read_153 (by decide) ?_
                        refine g_istoren (pc := 154) (i := 3) (L' := [(0, gR 200), (1, gI ba), (2, gI px), (3, gI 1), (4, gI wo), (5, gI qx)]) hK dd_X12_read_154 rfl (by decide) rfl ?_
                        refine g_goto (pc := 155) (tgt := 284) hK dd_X12_read_155 (by decide) ?_
                        refine g_iload (pc := 284) (i := 5) (x := qx) hK dd_X12_read_284 rfl ?_
                        refine g_istoren (pc := 286) (i := 2) (L' := [(0, gR 200), (1, gI ba), (2, gI qx), (3, gI 1), (4, gI wo), (5, gI qx)]) hK dd_X12_read_286 rfl (by decide) rfl ?_
                        refine g_goto (pc := 287) (tgt := 54) hK dd_X12_read_287 (by decide) ?_
                        refine g_sub (L' := [(0, gR 200), (1, gI ba), (2, gI qx), (3, gI 1), (4, gI wo)]) [0, 1, 2, 3, 4] rfl ?_
                        refine g_mem (M2 := cp M 216 Dd 0 ba.toNat 5) (by first | rfl | exact cp_us (by omega) (by omega)) ?_
                        exact ih2 qx 1 wo (k - 1) Dd (by omega) (by omega) (by omega) (by omega) (by first | exact hx2_ | (rw [tn1 (by omega)]; exact hx2_)) (by omega)
                      · have e0_ : wn = 0 := by omega
                        rw [e0_] at hx_
                        have hq_ : psR (M 218) (M 200 16).toNat ((M 200 16).toNat + 1) 0 (STF 0) = (Dd, ((px.toNat : Nat) : Int)) := by rw [hx_]; exact rx_0n hnb_ (by omega) hrq_ ewo (by omega)
                        have hr1_ : (psR (M 218) (M 200 16).toNat ((M 200 16).toNat + 1) 0 (STF 0)).1 = Dd := by rw [hq_]
                        have hr2_ : (psR (M 218) (M 200 16).toNat ((M 200 16).toNat + 1) 0 (STF 0)).2 = ((px.toNat : Nat) : Int) := by rw [hq_]
                        refine g_iloadn (pc := 151) (i := 2) (x := px) hK dd_X12_read_151 rfl rfl ?_
                        refine g_iret (pc := 152) hK hr hlocks dd_X12_read_152 rfl ?_
                        exact g_fin hQ (by first | (rw [hr2_]; done) | (rw [hr2_]; omega)) (by rw [hr1_])
              refine g_sub (L' := [(0, gR 200), (1, gI ba), (2, gI px), (3, gI wn), (4, gI wh), (5, gI px)]) [0, 1, 2, 3, 4, 5] rfl ?_
              exact lp48 _ px (by omega) (rq0) (Nat.lt_succ_self _)
          · exfalso; omega
        · have hx2_ := hx_.trans (rx_bl (by omega) (by rw [isB_i]; omega))
          skip
          refine g_iinc (pc := 73) (i := 2) (y := px + 1) (L' := [(0, gR 200), (1, gI ba), (2, gI (px + 1)), (3, gI wn), (4, gI wh)]) hK dd_X12_read_73 rfl rfl (by decide) rfl ?_
          refine g_goto (pc := 76) (tgt := 54) hK dd_X12_read_76 (by decide) ?_
          refine g_sub (L' := [(0, gR 200), (1, gI ba), (2, gI (px + 1)), (3, gI wn), (4, gI wh)]) [0, 1, 2, 3, 4] rfl ?_
          refine g_mem (M2 := cp M 216 Dd 0 ba.toNat 5) (by first | rfl | exact cp_us (by omega) (by omega)) ?_
          exact ih2 (px + 1) wn wh k Dd (by omega) (by omega) (by omega) (by omega) (by first | exact hx2_ | (rw [tn1 (by omega)]; exact hx2_)) (by omega)
  refine g_mem (M2 := cp M 216 (STF 0) 0 ba.toNat 5) (cp5 (by omega) (by omega) (by omega) (by omega)) ?_
  refine g_sub (L' := [(0, gR 200), (1, gI ba), (2, gI 0), (3, gI 0), (4, gI 0)]) [0, 1, 2, 3, 4] rfl ?_
  exact lp3 _ 0 0 0 ((M 200 16).toNat + 1) (STF 0) (by omega) (by omega) (by omega) (by omega) (rfl) (Nat.lt_succ_self _)
set_option maxHeartbeats 4000000 in
set_option maxRecDepth 100000 in
theorem y_law {l : Launch} {M : Mem} {Pq : Option gV → Mem → Prop} (hrg : rgOK M) (hmwc : 0 ≤ M 200 14 ∧ M 200 14 ≤ 6) (hs : 0 ≤ M 200 16 ∧ M 200 16 ≤ 120) (hF : (M 200 14 = 6) → Pq (some (gI (-6))) (rg M 6)) (hY : (¬ M 200 14 = 6 ∧ (psR (M 218) (M 200 16).toNat ((M 200 16).toNat + 1) 0 (STF 0)).2 < 0) → Pq (some (gI (M 200 14))) (up (up (cp M 216 (psR (M 218) (M 200 16).toNat ((M 200 16).toNat + 1) 0 (STF 0)).1 0 (5 * M 200 14).toNat 5) 200 16 0) 200 14 (M 200 14 + 1))) (hN : (¬ M 200 14 = 6 ∧ 0 ≤ (psR (M 218) (M 200 16).toNat ((M 200 16).toNat + 1) 0 (STF 0)).2) → Pq (some (gI ((-20) - (psR (M 218) (M 200 16).toNat ((M 200 16).toNat + 1) 0 (STF 0)).2))) (rg (up (cp M 216 (psR (M 218) (M 200 16).toNat ((M 200 16).toNat + 1) 0 (STF 0)).1 0 (5 * M 200 14).toNat 5) 200 16 0) 2)) : gCtr l my_X12_law mb_X12_law 2 ((some .int)) 8 [gR 200] M Pq := by
  refine g_intro (by decide) (Nat.le_of_ble_eq_true rfl) ?_
  intro p e s m args below meth c D cy q A hK hr hlocks hw
  refine g_sub (L' := [(0, gR 200)]) [0] rfl ?_
  refine g_aloadn (pc := 0) (i := 0) (x := 200) hK dd_X12_law_0 rfl rfl ?_
  refine g_geti (pc := 1) (f := (0, 0)) (j := 14) hK (kdm kd_200) rfl ef_12 (by decide) rfl kk_1115 nl_200 dd_X12_law_1 rfl (fun x1 ex1 rx1 => ?_)
  refine g_bipush (pc := 4) (x := 6) hK dd_X12_law_4 (by decide) ?_
  refine g_icmp_ne (pc := 6) (tgt := 16) hK dd_X12_law_6 (by decide) rx1 (by decide) (fun c2 => ?_) (fun c2 => ?_)
  · refine g_aloadn (pc := 16) (i := 0) (x := 200) hK dd_X12_law_16 rfl rfl ?_
    refine g_iconst (pc := 17) (x := 5) hK dd_X12_law_17 (by decide) ?_
    refine g_aloadn (pc := 18) (i := 0) (x := 200) hK dd_X12_law_18 rfl rfl ?_
    refine g_geti (pc := 19) (f := (0, 0)) (j := 14) hK (kdm kd_200) rfl ef_12 (by decide) rfl kk_1115 nl_200 dd_X12_law_19 rfl (fun x3 ex3 rx3 => ?_)
    refine g_imul (pc := 22) (z := 5 * x3) hK dd_X12_law_22 rfl ?_
    refine g_callV (pc := 23) (As := [gI (5 * x3)]) hK ws_M_239 md_X12_read ⟨Nat.zero_le _, Nat.zero_le _⟩ ⟨by decide, by decide⟩ (kdm kd_200) rfl rfl dd_X12_law_23 rfl rfl (Nat.le_of_ble_eq_true rfl) (d_read (5 * x3) hs (by omega) (g_r1 ?_))
    refine g_topI (fun fa efa => ?_)
    have hpr_ := psR_in (f := M 218) (n := (M 200 16).toNat) ((M 200 16).toNat + 1) 0 (STF 0) (Nat.zero_le _)
    refine g_istoren (pc := 26) (i := 1) (L' := [(0, gR 200), (1, gI fa)]) hK dd_X12_law_26 rfl (by decide) rfl ?_
    refine g_aloadn (pc := 27) (i := 0) (x := 200) hK dd_X12_law_27 rfl rfl ?_
    refine g_iconst (pc := 28) (x := 0) hK dd_X12_law_28 (by decide) ?_
    refine g_puti (pc := 29) (f := (0, 0)) (j := 16) (ty := .int) hK (kdm kd_200) rfl ef_12 (by decide) rfl kk_1117 nl_200 (by decide) dd_X12_law_29 rfl rfl rfl rfl rfl (by decide) ?_
    refine g_iloadn (pc := 32) (i := 1) (x := fa) hK dd_X12_law_32 rfl rfl ?_
    refine g_if_lt (pc := 33) (tgt := 48) hK dd_X12_law_33 (by decide) ⟨by omega, by omega⟩ (fun c4 => ?_) (fun c4 => ?_)
    · refine g_aloadn (pc := 48) (i := 0) (x := 200) hK dd_X12_law_48 rfl rfl ?_
      refine g_dup (pc := 49) hK dd_X12_law_49 rfl ?_
      refine g_geti (pc := 50) (f := (0, 0)) (j := 14) hK (kdm kd_200) rfl ef_12 (by decide) rfl kk_1115 nl_200 dd_X12_law_50 rfl (fun x5 ex5 rx5 => ?_)
      replace ex5 : x5 = M 200 14 := ex5
      refine g_dupx1 (pc := 53) hK dd_X12_law_53 rfl rfl ?_
      refine g_iconst (pc := 54) (x := 1) hK dd_X12_law_54 (by decide) ?_
      refine g_iadd (pc := 55) (z := x5 + 1) hK dd_X12_law_55 rfl ?_
      refine g_puti (pc := 56) (f := (0, 0)) (j := 14) (ty := .int) hK (kdm kd_200) rfl ef_12 (by decide) rfl kk_1115 nl_200 (by decide) dd_X12_law_56 rfl rfl rfl rfl rfl ⟨by omega, by omega⟩ ?_
      refine g_iret (pc := 59) hK hr hlocks dd_X12_law_59 rfl ?_
      first | exact g_fin (hF (by first | omega | (subst_vars; omega) | exact ⟨by first | assumption | omega | (subst_vars; first | assumption | omega), by first | assumption | omega | (subst_vars; first | assumption | omega)⟩)) (by first | rfl | omega | (subst_vars; first | rfl | omega)) (by first | rfl | (subst_vars; rfl)) | exact g_fin (hY (by first | omega | (subst_vars; omega) | exact ⟨by first | assumption | omega | (subst_vars; first | assumption | omega), by first | assumption | omega | (subst_vars; first | assumption | omega)⟩)) (by first | rfl | omega | (subst_vars; first | rfl | omega)) (by first | rfl | (subst_vars; rfl)) | exact g_fin (hN (by first | omega | (subst_vars; omega) | exact ⟨by first | assumption | omega | (subst_vars; first | assumption | omega), by first | assumption | omega | (subst_vars; first | assumption | omega)⟩)) (by first | rfl | omega | (subst_vars; first | rfl | omega)) (by first | rfl | (subst_vars; rfl)) | (exfalso; omega)
    · refine g_aloadn (pc := 36) (i := 0) (x := 200) hK dd_X12_law_36 rfl rfl ?_
      refine g_bipush (pc := 37) (x := (-2)) hK dd_X12_law_37 (by decide) ?_
      refine g_callV (pc := 39) (As := [gI (-2)]) hK ws_M_152 md_X12_no ⟨Nat.zero_le _, Nat.zero_le _⟩ ⟨by decide, by decide⟩ (kdm kd_200) rfl rfl dd_X12_law_39 rfl rfl (Nat.le_of_ble_eq_true rfl) (d_no_2 hrg (g_r1 ?_))
      refine g_pop (pc := 42) hK dd_X12_law_42 rfl ?_
      refine g_bipush (pc := 43) (x := (-20)) hK dd_X12_law_43 (by decide) ?_
      refine g_iloadn (pc := 45) (i := 1) (x := fa) hK dd_X12_law_45 rfl rfl ?_
      refine g_isub (pc := 46) (z := (-20) - fa) hK dd_X12_law_46 rfl ?_
      refine g_iret (pc := 47) hK hr hlocks dd_X12_law_47 rfl ?_
      first | exact g_fin (hF (by first | omega | (subst_vars; omega) | exact ⟨by first | assumption | omega | (subst_vars; first | assumption | omega), by first | assumption | omega | (subst_vars; first | assumption | omega)⟩)) (by first | rfl | omega | (subst_vars; first | rfl | omega)) (by first | rfl | (subst_vars; rfl)) | exact g_fin (hY (by first | omega | (subst_vars; omega) | exact ⟨by first | assumption | omega | (subst_vars; first | assumption | omega), by first | assumption | omega | (subst_vars; first | assumption | omega)⟩)) (by first | rfl | omega | (subst_vars; first | rfl | omega)) (by first | rfl | (subst_vars; rfl)) | exact g_fin (hN (by first | omega | (subst_vars; omega) | exact ⟨by first | assumption | omega | (subst_vars; first | assumption | omega), by first | assumption | omega | (subst_vars; first | assumption | omega)⟩)) (by first | rfl | omega | (subst_vars; first | rfl | omega)) (by first | rfl | (subst_vars; rfl)) | (exfalso; omega)
  · refine g_aloadn (pc := 9) (i := 0) (x := 200) hK dd_X12_law_9 rfl rfl ?_
    refine g_bipush (pc := 10) (x := (-6)) hK dd_X12_law_10 (by decide) ?_
    refine g_callV (pc := 12) (As := [gI (-6)]) hK ws_M_152 md_X12_no ⟨Nat.zero_le _, Nat.zero_le _⟩ ⟨by decide, by decide⟩ (kdm kd_200) rfl rfl dd_X12_law_12 rfl rfl (Nat.le_of_ble_eq_true rfl) (d_no_6 hrg (g_r1 ?_))
    refine g_iret (pc := 15) hK hr hlocks dd_X12_law_15 rfl ?_
    first | exact g_fin (hF (by first | omega | (subst_vars; omega) | exact ⟨by first | assumption | omega | (subst_vars; first | assumption | omega), by first | assumption | omega | (subst_vars; first | assumption | omega)⟩)) (by first | rfl | omega | (subst_vars; first | rfl | omega)) (by first | rfl | (subst_vars; rfl)) | exact g_fin (hY (by first | omega | (subst_vars; omega) | exact ⟨by first | assumption | omega | (subst_vars; first | assumption | omega), by first | assumption | omega | (subst_vars; first | assumption | omega)⟩)) (by first | rfl | omega | (subst_vars; first | rfl | omega)) (by first | rfl | (subst_vars; rfl)) | exact g_fin (hN (by first | omega | (subst_vars; omega) | exact ⟨by first | assumption | omega | (subst_vars; first | assumption | omega), by first | assumption | omega | (subst_vars; first | assumption | omega)⟩)) (by first | rfl | omega | (subst_vars; first | rfl | omega)) (by first | rfl | (subst_vars; rfl)) | (exfalso; omega)
set_option maxHeartbeats 4000000 in
set_option maxRecDepth 100000 in
theorem y_feed {l : Launch} {M : Mem} {Pq : Option gV → Mem → Prop} (v : Int) (n : Int) (h_v : inI v) (h_n : inI n) (hrg : rgOK M) (hs : 0 ≤ M 200 16 ∧ M 200 16 ≤ 120) (hB : (¬ (1 ≤ n ∧ n ≤ 4)) → Pq (some (gI (-2))) (rg M 2)) (hF : ((1 ≤ n ∧ n ≤ 4) ∧ 120 < M 200 16 + n) → Pq (some (gI (-6))) (rg M 6)) (hY : ((1 ≤ n ∧ n ≤ 4) ∧ M 200 16 + n ≤ 120) → Pq (some (gI (M 200 16 + n))) (up (sr M 218 (apR (M 218) (M 200 16).toNat v n n.toNat)) 200 16 (M 200 16 + n))) : gCtr l my_X12_feed mb_X12_feed 4 ((some .int)) 2 [gR 200, gI v, gI n] M Pq := by
  refine g_intro (by decide) (Nat.le_of_ble_eq_true rfl) ?_
  intro p e s m args below meth c D cy q A hK hr hlocks hw
  refine g_sub (L' := [(0, gR 200), (1, gI v), (2, gI n)]) [0, 1, 2] rfl ?_
  refine g_iloadn (pc := 0) (i := 2) (x := n) hK dd_X12_feed_0 rfl rfl ?_
  refine g_iconst (pc := 1) (x := 1) hK dd_X12_feed_1 (by decide) ?_
  refine g_icmp_lt (pc := 2) (tgt := 10) hK dd_X12_feed_2 (by decide) h_n (by decide) (fun c1 => ?_) (fun c1 => ?_)
  · refine g_aloadn (pc := 10) (i := 0) (x := 200) hK dd_X12_feed_10 rfl rfl ?_
    refine g_bipush (pc := 11) (x := (-2)) hK dd_X12_feed_11 (by decide) ?_
    refine g_callV (pc := 13) (As := [gI (-2)]) hK ws_M_152 md_X12_no ⟨Nat.zero_le _, Nat.zero_le _⟩ ⟨by decide, by decide⟩ (kdm kd_200) rfl rfl dd_X12_feed_13 rfl rfl (Nat.le_of_ble_eq_true rfl) (d_no_2 hrg (g_r1 ?_))
    refine g_iret (pc := 16) hK hr hlocks dd_X12_feed_16 rfl ?_
    first | exact g_fin (hB (by first | omega | (subst_vars; omega) | exact ⟨by first | assumption | omega | (subst_vars; first | assumption | omega), by first | assumption | omega | (subst_vars; first | assumption | omega)⟩)) (by first | rfl | omega | (subst_vars; first | rfl | omega)) (by first | rfl | (subst_vars; rfl)) | exact g_fin (hY (by first | omega | (subst_vars; omega) | exact ⟨by first | assumption | omega | (subst_vars; first | assumption | omega), by first | assumption | omega | (subst_vars; first | assumption | omega)⟩)) (by first | rfl | omega | (subst_vars; first | rfl | omega)) (by rw [show (n - 1 - i).toNat = n.toNat by omega, show M 200 16 + (n - 1 - i) = M 200 16 + n by omega]) | (exfalso; omega)
  · refine g_iloadn (pc := 5) (i := 2) (x := n) hK dd_X12_feed_5 rfl rfl ?_
    refine g_iconst (pc := 6) (x := 4) hK dd_X12_feed_6 (by decide) ?_
    refine g_icmp_le (pc := 7) (tgt := 17) hK dd_X12_feed_7 (by decide) h_n (by decide) (fun c2 => ?_) (fun c2 => ?_)
    · refine g_aloadn (pc := 17) (i := 0) (x := 200) hK dd_X12_feed_17 rfl rfl ?_
      refine g_geti (pc := 18) (f := (0, 0)) (j := 16) hK (kdm kd_200) rfl ef_12 (by decide) rfl kk_1117 nl_200 dd_X12_feed_18 rfl (fun x3 ex3 rx3 => ?_)
      refine g_iloadn (pc := 21) (i := 2) (x := n) hK dd_X12_feed_21 rfl rfl ?_
      refine g_iadd (pc := 22) (z := x3 + n) hK dd_X12_feed_22 rfl ?_
      refine g_bipush (pc := 23) (x := 120) hK dd_X12_feed_23 (by decide) ?_
      refine g_icmp_le (pc := 25) (tgt := 35) hK dd_X12_feed_25 (by decide) ⟨by omega, by omega⟩ (by decide) (fun c4 => ?_) (fun c4 => ?_)
      · refine g_iloadn (pc := 35) (i := 2) (x := n) hK dd_X12_feed_35 rfl rfl ?_
        refine g_iconst (pc := 36) (x := 1) hK dd_X12_feed_36 (by decide) ?_
        refine g_isub (pc := 37) (z := n - 1) hK dd_X12_feed_37 rfl ?_
        refine g_istoren (pc := 38) (i := 3) (L' := [(0, gR 200), (1, gI v), (2, gI n), (3, gI (n - 1))]) hK dd_X12_feed_38 rfl (by decide) rfl ?_
        have lp7 : ∀ (n5 : Nat) (i : Int), (-1 ≤ i ∧ i ≤ n - 1) → (i + 1).toNat < n5 → G p l e (rmD 2) s m args below meth c D cy q A 0 0 4 (MQ below (gQc D cy q A Pq) args s 0 0 A) 39 [(0, gR 200), (1, gI v), (2, gI n), (3, gI i)] [] (up (sr M 218 (apR (M 218) (M 200 16).toNat v n (n - 1 - i).toNat)) 200 16 (M 200 16 + (n - 1 - i))) := by
          intro n5
          induction n5 with
          | zero => intro i iv8 hm9; exact absurd hm9 (Nat.not_lt_zero _)
          | succ n5 ih6 =>
            intro i iv8 hm9
            refine g_iloadn (pc := 39) (i := 3) (x := i) hK dd_X12_feed_39 rfl rfl ?_
            refine g_if_lt (pc := 40) (tgt := 75) hK dd_X12_feed_40 (by decide) ⟨by omega, by omega⟩ (fun c10 => ?_) (fun c10 => ?_)
            · refine g_aloadn (pc := 75) (i := 0) (x := 200) hK dd_X12_feed_75 rfl rfl ?_
              refine g_geti (pc := 76) (f := (0, 0)) (j := 16) hK (kdm kd_200) rfl ef_12 (by decide) rfl kk_1117 nl_200 dd_X12_feed_76 rfl (fun x11 ex11 rx11 => ?_)
              replace ex11 : x11 = (M 200 16 + (n - 1 - i)) := by first | exact ex11 | (rw [ex11]; simp [up, us, cp, sr])
              refine g_topv (v := gI (M 200 16 + (n - 1 - i))) (by rw [ex11]) ?_
              refine g_iret (pc := 79) hK hr hlocks dd_X12_feed_79 rfl ?_
              exact g_fin (hY (by first | omega | (subst_vars; omega) | exact ⟨by first | assumption | omega | (subst_vars; first | assumption | omega), by first | assumption | omega | (subst_vars; first | assumption | omega)⟩)) (by first | rfl | omega | (subst_vars; first | rfl | omega)) (by rw [show (n - 1 - i).toNat = n.toNat by omega, show M 200 16 + (n - 1 - i) = M 200 16 + n by omega])
            · refine g_aloadn (pc := 43) (i := 0) (x := 200) hK dd_X12_feed_43 rfl rfl ?_
              refine g_getv (pc := 44) (f := (1, 18)) (j := 17) (v := gR 218) hK (kdm kd_200) rfl ef_12 (by decide) rfl kk_1118 dd_X12_feed_44 rfl ?_
              refine g_aloadn (pc := 47) (i := 0) (x := 200) hK dd_X12_feed_47 rfl rfl ?_
              refine g_dup (pc := 48) hK dd_X12_feed_48 rfl ?_
              refine g_geti (pc := 49) (f := (0, 0)) (j := 16) hK (kdm kd_200) rfl ef_12 (by decide) rfl kk_1117 nl_200 dd_X12_feed_49 rfl (fun x12 ex12 rx12 => ?_)
              replace ex12 : x12 = (M 200 16 + (n - 1 - i)) := by first | exact ex12 | (rw [ex12]; simp [up, us, cp, sr])
              refine g_topv (v := gI (M 200 16 + (n - 1 - i))) (by rw [ex12]) ?_
              have hix_ : (M 200 16 + (n - 1 - i)).toNat = (M 200 16).toNat + (n - 1 - i).toNat := by omega
              refine g_dupx1 (pc := 52) hK dd_X12_feed_52 rfl rfl ?_
              refine g_iconst (pc := 53) (x := 1) hK dd_X12_feed_53 (by decide) ?_
              refine g_iadd (pc := 54) (z := (M 200 16 + (n - 1 - i)) + 1) hK dd_X12_feed_54 rfl ?_
              refine g_puti (pc := 55) (f := (0, 0)) (j := 16) (ty := .int) hK (kdm kd_200) rfl ef_12 (by decide) rfl kk_1117 nl_200 (by decide) dd_X12_feed_55 rfl rfl rfl rfl rfl ⟨by omega, by omega⟩ ?_
              refine g_iloadn (pc := 58) (i := 1) (x := v) hK dd_X12_feed_58 rfl rfl ?_
              refine g_bipush (pc := 59) (x := 8) hK dd_X12_feed_59 (by decide) ?_
              refine g_iloadn (pc := 61) (i := 3) (x := i) hK dd_X12_feed_61 rfl rfl ?_
              refine g_imul (pc := 62) (z := 8 * i) hK dd_X12_feed_62 rfl ?_
              refine g_ishr (pc := 63) (z := jshr v (8 * i)) hK dd_X12_feed_63 rfl ?_
              refine g_sipush (pc := 64) (x := 255) hK dd_X12_feed_64 (by decide) ?_
              refine g_iand (pc := 67) (z := jand (jshr v (8 * i)) 255) hK dd_X12_feed_67 rfl ?_
              refine g_iast (pc := 68) hK (kdm kd_218) nl_218 (by decide) (by decide) dd_X12_feed_68 (by omega) (by omega) (jand_in _ _) ?_
              refine g_iinc (pc := 69) (i := 3) (y := i - 1) (L' := [(0, gR 200), (1, gI v), (2, gI n), (3, gI (i - 1))]) hK dd_X12_feed_69 rfl (by omega) (by decide) rfl ?_
              refine g_goto (pc := 72) (tgt := 39) hK dd_X12_feed_72 (by decide) ?_
              refine g_sub (L' := [(0, gR 200), (1, gI v), (2, gI n), (3, gI (i - 1))]) [0, 1, 2, 3] rfl ?_
              refine g_mem (M2 := up (sr M 218 (apR (M 218) (M 200 16).toNat v n (n - 1 - (i - 1)).toNat)) 200 16 (M 200 16 + (n - 1 - (i - 1)))) (by rw [show (n - 1 - (i - 1)).toNat = (n - 1 - i).toNat + 1 by omega, ← apR_s (i := i) (by omega), ← hix_, show M 200 16 + (n - 1 - (i - 1)) = M 200 16 + (n - 1 - i) + 1 by omega]; funext a_ b_; unfold up us sr; by_cases h1_ : a_ = 200 <;> by_cases h2_ : a_ = 218 <;> by_cases h3_ : b_ = 16 <;> simp_all) ?_
              exact ih6 (i - 1) (by omega) (by omega)
        refine g_mem (M2 := up (sr M 218 (apR (M 218) (M 200 16).toNat v n (n - 1 - (n - 1)).toNat)) 200 16 (M 200 16 + (n - 1 - (n - 1)))) (by rw [show (n - 1 - (n - 1)).toNat = 0 by omega, show M 200 16 + (n - 1 - (n - 1)) = M 200 16 by omega, apR_0]; funext a_ b_; unfold up us sr; by_cases h1_ : a_ = 200 <;> by_cases h2_ : a_ = 218 <;> by_cases h3_ : b_ = 16 <;> simp_all) ?_
        refine g_sub (L' := [(0, gR 200), (1, gI v), (2, gI n), (3, gI (n - 1))]) [0, 1, 2, 3] rfl ?_
        exact lp7 _ (n - 1) (by omega) (Nat.lt_succ_self _)
      · refine g_aloadn (pc := 28) (i := 0) (x := 200) hK dd_X12_feed_28 rfl rfl ?_
        refine g_bipush (pc := 29) (x := (-6)) hK dd_X12_feed_29 (by decide) ?_
        refine g_callV (pc := 31) (As := [gI (-6)]) hK ws_M_152 md_X12_no ⟨Nat.zero_le _, Nat.zero_le _⟩ ⟨by decide, by decide⟩ (kdm kd_200) rfl rfl dd_X12_feed_31 rfl rfl (Nat.le_of_ble_eq_true rfl) (d_no_6 hrg (g_r1 ?_))
        refine g_iret (pc := 34) hK hr hlocks dd_X12_feed_34 rfl ?_
        first | exact g_fin (hF (by first | omega | (subst_vars; omega) | exact ⟨by first | assumption | omega | (subst_vars; first | assumption | omega), by first | assumption | omega | (subst_vars; first | assumption | omega)⟩)) (by first | rfl | omega | (subst_vars; first | rfl | omega)) (by first | rfl | (subst_vars; rfl)) | exact g_fin (hY (by first | omega | (subst_vars; omega) | exact ⟨by first | assumption | omega | (subst_vars; first | assumption | omega), by first | assumption | omega | (subst_vars; first | assumption | omega)⟩)) (by first | rfl | omega | (subst_vars; first | rfl | omega)) (by rw [show (n - 1 - i).toNat = n.toNat by omega, show M 200 16 + (n - 1 - i) = M 200 16 + n by omega]) | (exfalso; omega)
    · refine g_aloadn (pc := 10) (i := 0) (x := 200) hK dd_X12_feed_10 rfl rfl ?_
      refine g_bipush (pc := 11) (x := (-2)) hK dd_X12_feed_11 (by decide) ?_
      refine g_callV (pc := 13) (As := [gI (-2)]) hK ws_M_152 md_X12_no ⟨Nat.zero_le _, Nat.zero_le _⟩ ⟨by decide, by decide⟩ (kdm kd_200) rfl rfl dd_X12_feed_13 rfl rfl (Nat.le_of_ble_eq_true rfl) (d_no_2 hrg (g_r1 ?_))
      refine g_iret (pc := 16) hK hr hlocks dd_X12_feed_16 rfl ?_
      first | exact g_fin (hB (by first | omega | (subst_vars; omega) | exact ⟨by first | assumption | omega | (subst_vars; first | assumption | omega), by first | assumption | omega | (subst_vars; first | assumption | omega)⟩)) (by first | rfl | omega | (subst_vars; first | rfl | omega)) (by first | rfl | (subst_vars; rfl)) | exact g_fin (hY (by first | omega | (subst_vars; omega) | exact ⟨by first | assumption | omega | (subst_vars; first | assumption | omega), by first | assumption | omega | (subst_vars; first | assumption | omega)⟩)) (by first | rfl | omega | (subst_vars; first | rfl | omega)) (by rw [show (n - 1 - i).toNat = n.toNat by omega, show M 200 16 + (n - 1 - i) = M 200 16 + n by omega]) | (exfalso; omega)
