/-! shortBy of the reference: what it refuses -/
set_option maxHeartbeats 4000000 in
set_option maxRecDepth 100000 in
theorem y_shortByR {l : Launch} {M : Mem} {Pq : Option gV → Mem → Prop} (sm : Int) (h_sm : inI sm) (hrg : rgOK M) (hbad_ : ¬ (1 ≤ sm ∧ sm ≤ 9999)) (hB : (¬ (1 ≤ sm ∧ sm ≤ 9999)) → Pq (some (gI (-2))) (rg M 2)) : gCtr l my_X12_shortBy mb_X12_shortBy 8 ((some .int)) 2 [gR 200, gI sm] M Pq := by
  refine g_intro (by decide) (Nat.le_of_ble_eq_true rfl) ?_
  intro p e s m args below meth c D cy q A hK hr hlocks hw
  refine g_sub (L' := [(0, gR 200), (1, gI sm)]) [0, 1] rfl ?_
  refine g_iloadn (pc := 0) (i := 1) (x := sm) hK dd_X12_shortBy_0 rfl rfl ?_
  refine g_iconst (pc := 1) (x := 1) hK dd_X12_shortBy_1 (by decide) ?_
  refine g_icmp_lt (pc := 2) (tgt := 12) hK dd_X12_shortBy_2 (by decide) h_sm (by decide) (fun c1 => ?_) (fun c1 => ?_)
  · refine g_aloadn (pc := 12) (i := 0) (x := 200) hK dd_X12_shortBy_12 rfl rfl ?_
    refine g_bipush (pc := 13) (x := (-2)) hK dd_X12_shortBy_13 (by decide) ?_
    refine g_callV (pc := 15) (As := [gI (-2)]) hK ws_M_152 md_X12_no ⟨Nat.zero_le _, Nat.zero_le _⟩ ⟨by decide, by decide⟩ (kdm kd_200) rfl rfl dd_X12_shortBy_15 rfl rfl (Nat.le_of_ble_eq_true rfl) (d_no_2 hrg (g_r1 ?_))
    refine g_iret (pc := 18) hK hr hlocks dd_X12_shortBy_18 rfl ?_
    exact hB (by omega)
  · refine g_iloadn (pc := 5) (i := 1) (x := sm) hK dd_X12_shortBy_5 rfl rfl ?_
    refine g_sipush (pc := 6) (x := 9999) hK dd_X12_shortBy_6 (by decide) ?_
    refine g_icmp_le (pc := 9) (tgt := 19) hK dd_X12_shortBy_9 (by decide) h_sm (by decide) (fun c2 => ?_) (fun c2 => ?_)
    · exfalso; omega
    · refine g_aloadn (pc := 12) (i := 0) (x := 200) hK dd_X12_shortBy_12 rfl rfl ?_
      refine g_bipush (pc := 13) (x := (-2)) hK dd_X12_shortBy_13 (by decide) ?_
      refine g_callV (pc := 15) (As := [gI (-2)]) hK ws_M_152 md_X12_no ⟨Nat.zero_le _, Nat.zero_le _⟩ ⟨by decide, by decide⟩ (kdm kd_200) rfl rfl dd_X12_shortBy_15 rfl rfl (Nat.le_of_ble_eq_true rfl) (d_no_2 hrg (g_r1 ?_))
      refine g_iret (pc := 18) hK hr hlocks dd_X12_shortBy_18 rfl ?_
      exact hB (by omega)
