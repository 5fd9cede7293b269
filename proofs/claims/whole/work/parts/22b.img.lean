set_option maxHeartbeats 4000000 in
set_option maxRecDepth 100000 in
theorem x_things {l : Launch} {M : Mem} {Pq : Option gV → Mem → Prop} (sf : Int) (k : Int) (n : Int) (h_sf : inI sf) (h_k : inI k) (h_n : inI n) (hrf : rfOK M) (hsh : shOK M) (hc : 0 ≤ M 6 6 ∧ M 6 6 ≤ 30) (hB : (¬ ((0 ≤ sf ∧ sf ≤ 7) ∧ 0 ≤ k ∧ k ≤ 5)) → Pq (some (gI (-2))) (rf M 0)) (hO : (((0 ≤ sf ∧ sf ≤ 7) ∧ 0 ≤ k ∧ k ≤ 5) ∧ 10 ≤ M (1 + 96 + 2 * sf.toNat) 1) → Pq (some (gI (-3))) (rf M 1)) (hN : (((0 ≤ sf ∧ sf ≤ 7) ∧ 0 ≤ k ∧ k ≤ 5) ∧ M (1 + 96 + 2 * sf.toNat) 1 = -1) → Pq (some (gI (-4))) (rf M 2)) (hI : ((((0 ≤ sf ∧ sf ≤ 7) ∧ 0 ≤ k ∧ k ≤ 5) ∧ 0 ≤ M (1 + 96 + 2 * sf.toNat) 1 ∧ M (1 + 96 + 2 * sf.toNat) 1 ≤ 4) ∧ ¬ (0 ≤ n ∧ n ≤ M (1 + 96 + 2 * sf.toNat) 2)) → Pq (some (gI (-2))) (rf M 0)) (hY : ∀ (i : Int), (((((0 ≤ sf ∧ sf ≤ 7) ∧ 0 ≤ k ∧ k ≤ 5) ∧ 0 ≤ M (1 + 96 + 2 * sf.toNat) 1 ∧ M (1 + 96 + 2 * sf.toNat) 1 ≤ 4) ∧ 0 ≤ n ∧ n ≤ M (1 + 96 + 2 * sf.toNat) 2) ∧ (0 ≤ i ∧ i ≤ n) ∧ (∀ j : Nat, (j : Int) < i → 0 ≤ (M (1 + 96 + 2 * sf.toNat + 1)) j ∧ (M (1 + 96 + 2 * sf.toNat + 1)) j ≤ 999) ∧ (i < n → ¬ (0 ≤ (M (1 + 96 + 2 * sf.toNat + 1)) i.toNat ∧ (M (1 + 96 + 2 * sf.toNat + 1)) i.toNat ≤ 999) ∨ 30 ≤ M 6 6 + i) ∧ M 6 6 + i ≤ 30) → Pq (some (gI i)) (thsM M (M (1 + 96 + 2 * sf.toNat + 1)) k i.toNat)) : gCtr l my_X11_things mb_X11_things 9 ((some .int)) 4 [gR 0, gI sf, gI k, gI n] M Pq := by
  refine g_intro (by decide) (Nat.le_of_ble_eq_true rfl) ?_
  intro p e s m args below meth c D cy q A hK hr hlocks hw
  refine g_sub (L' := [(0, gR 0), (1, gI sf), (2, gI k), (3, gI n)]) [0, 1, 2, 3] rfl ?_
  refine g_iloadn (pc := 0) (i := 1) (x := sf) hK dd_X11_things_0 rfl rfl ?_
  refine g_callT (pc := 1) (As := [gI sf]) hK ws_X_55 md_X11_isShelf ⟨Nat.zero_le _, Nat.zero_le _⟩ ⟨by decide, by decide⟩ dd_X11_things_1 rfl rfl (Nat.le_of_ble_eq_true rfl) (c_isShelf sf h_sf (fun c1 => g_r1 ?_) (fun c1 => g_r1 ?_))
  · refine g_if_eq (pc := 4) (tgt := 14) hK dd_X11_things_4 (by decide) (by decide) (fun c2 => absurd c2 (by decide)) (fun _ => ?_)
    refine g_iloadn (pc := 7) (i := 2) (x := k) hK dd_X11_things_7 rfl rfl ?_
    refine g_callT (pc := 8) (As := [gI k]) hK ws_X_122 md_X11_isKind ⟨Nat.zero_le _, Nat.zero_le _⟩ ⟨by decide, by decide⟩ dd_X11_things_8 rfl rfl (Nat.le_of_ble_eq_true rfl) (c_isKind k h_k (fun c3 => g_r1 ?_) (fun c3 => g_r1 ?_))
    · refine g_if_ne (pc := 11) (tgt := 21) hK dd_X11_things_11 (by decide) (by decide) (fun _ => ?_) (fun c4 => absurd (by decide) c4)
      refine g_aloadn (pc := 21) (i := 0) (x := 0) hK dd_X11_things_21 rfl rfl ?_
      refine g_iloadn (pc := 22) (i := 1) (x := sf) hK dd_X11_things_22 rfl rfl ?_
      refine g_callV (pc := 23) (As := [gI sf]) hK ws_X_71 md_X11_refusalOfRow ⟨Nat.zero_le _, Nat.zero_le _⟩ ⟨by decide, by decide⟩ (kdm kd_0) rfl rfl dd_X11_things_23 rfl rfl (Nat.le_of_ble_eq_true rfl) (c_refRow sf h_sf (fun c5 => g_r1 ?_) (fun c6 => g_r1 ?_) (fun c7 => g_r1 ?_) (fun c8 => g_r1 ?_))
      · refine g_istore (pc := 26) (i := 4) (L' := [(0, gR 0), (1, gI sf), (2, gI k), (3, gI n), (4, gI (-2))]) hK dd_X11_things_26 (by decide) rfl ?_
        refine g_iload (pc := 28) (i := 4) (x := (-2)) hK dd_X11_things_28 rfl ?_
        refine g_if_eq (pc := 30) (tgt := 40) hK dd_X11_things_30 (by decide) (by decide) (fun c9 => absurd c9 (by decide)) (fun _ => ?_)
        refine g_aloadn (pc := 33) (i := 0) (x := 0) hK dd_X11_things_33 rfl rfl ?_
        refine g_iload (pc := 34) (i := 4) (x := (-2)) hK dd_X11_things_34 rfl ?_
        refine g_callV (pc := 36) (As := [gI (-2)]) hK ws_X_63 md_X11_refuse ⟨Nat.zero_le _, Nat.zero_le _⟩ ⟨by decide, by decide⟩ (kdm kd_0) rfl rfl dd_X11_things_36 rfl rfl (Nat.le_of_ble_eq_true rfl) (c_refuse_0 hrf (g_r1 ?_))
        refine g_iret (pc := 39) hK hr hlocks dd_X11_things_39 rfl ?_
        first | exact g_fin (hB (by first | omega | (subst_vars; omega) | exact ⟨by first | assumption | omega | (subst_vars; first | assumption | omega), by first | assumption | omega | (subst_vars; first | assumption | omega)⟩)) (by first | rfl | omega | (subst_vars; first | rfl | omega)) (by first | rfl | (subst_vars; rfl)) | exact g_fin (hI (by first | omega | (subst_vars; omega) | exact ⟨by first | assumption | omega | (subst_vars; first | assumption | omega), by first | assumption | omega | (subst_vars; first | assumption | omega)⟩)) (by first | rfl | omega | (subst_vars; first | rfl | omega)) (by first | rfl | (subst_vars; rfl)) | exact g_fin (hY i (by exact ⟨by omega, by omega, hall_, by omega, by omega⟩)) (by omega) (by first | rfl | (rw [show n = i by omega])) | (exfalso; omega)
      · refine g_istore (pc := 26) (i := 4) (L' := [(0, gR 0), (1, gI sf), (2, gI k), (3, gI n), (4, gI (-3))]) hK dd_X11_things_26 (by decide) rfl ?_
        refine g_iload (pc := 28) (i := 4) (x := (-3)) hK dd_X11_things_28 rfl ?_
        refine g_if_eq (pc := 30) (tgt := 40) hK dd_X11_things_30 (by decide) (by decide) (fun c10 => absurd c10 (by decide)) (fun _ => ?_)
        refine g_aloadn (pc := 33) (i := 0) (x := 0) hK dd_X11_things_33 rfl rfl ?_
        refine g_iload (pc := 34) (i := 4) (x := (-3)) hK dd_X11_things_34 rfl ?_
        refine g_callV (pc := 36) (As := [gI (-3)]) hK ws_X_63 md_X11_refuse ⟨Nat.zero_le _, Nat.zero_le _⟩ ⟨by decide, by decide⟩ (kdm kd_0) rfl rfl dd_X11_things_36 rfl rfl (Nat.le_of_ble_eq_true rfl) (c_refuse_1 hrf (g_r1 ?_))
        refine g_iret (pc := 39) hK hr hlocks dd_X11_things_39 rfl ?_
        first | exact g_fin (hO (by first | omega | (subst_vars; omega) | exact ⟨by first | assumption | omega | (subst_vars; first | assumption | omega), by first | assumption | omega | (subst_vars; first | assumption | omega)⟩)) (by first | rfl | omega | (subst_vars; first | rfl | omega)) (by first | rfl | (subst_vars; rfl)) | exact g_fin (hY i (by exact ⟨by omega, by omega, hall_, by omega, by omega⟩)) (by omega) (by first | rfl | (rw [show n = i by omega])) | (exfalso; omega)
      · refine g_istore (pc := 26) (i := 4) (L' := [(0, gR 0), (1, gI sf), (2, gI k), (3, gI n), (4, gI (-4))]) hK dd_X11_things_26 (by decide) rfl ?_
        refine g_iload (pc := 28) (i := 4) (x := (-4)) hK dd_X11_things_28 rfl ?_
        refine g_if_eq (pc := 30) (tgt := 40) hK dd_X11_things_30 (by decide) (by decide) (fun c11 => absurd c11 (by decide)) (fun _ => ?_)
        refine g_aloadn (pc := 33) (i := 0) (x := 0) hK dd_X11_things_33 rfl rfl ?_
        refine g_iload (pc := 34) (i := 4) (x := (-4)) hK dd_X11_things_34 rfl ?_
        refine g_callV (pc := 36) (As := [gI (-4)]) hK ws_X_63 md_X11_refuse ⟨Nat.zero_le _, Nat.zero_le _⟩ ⟨by decide, by decide⟩ (kdm kd_0) rfl rfl dd_X11_things_36 rfl rfl (Nat.le_of_ble_eq_true rfl) (c_refuse_2 hrf (g_r1 ?_))
        refine g_iret (pc := 39) hK hr hlocks dd_X11_things_39 rfl ?_
        first | exact g_fin (hN (by first | omega | (subst_vars; omega) | exact ⟨by first | assumption | omega | (subst_vars; first | assumption | omega), by first | assumption | omega | (subst_vars; first | assumption | omega)⟩)) (by first | rfl | omega | (subst_vars; first | rfl | omega)) (by first | rfl | (subst_vars; rfl)) | exact g_fin (hY i (by exact ⟨by omega, by omega, hall_, by omega, by omega⟩)) (by omega) (by first | rfl | (rw [show n = i by omega])) | (exfalso; omega)
      · have hs_ := hsh sf (by omega) (by omega)
        refine g_istore (pc := 26) (i := 4) (L' := [(0, gR 0), (1, gI sf), (2, gI k), (3, gI n), (4, gI 0)]) hK dd_X11_things_26 (by decide) rfl ?_
        refine g_iload (pc := 28) (i := 4) (x := 0) hK dd_X11_things_28 rfl ?_
        refine g_if_eq (pc := 30) (tgt := 40) hK dd_X11_things_30 (by decide) (by decide) (fun _ => ?_) (fun c12 => absurd (by decide) c12)
        refine g_aloadn (pc := 40) (i := 0) (x := 0) hK dd_X11_things_40 rfl rfl ?_
        refine g_getv (pc := 41) (f := (1, 1)) (j := 0) (v := gR 1) hK (kdm kd_0) rfl ef_11 (by decide) rfl kk_382 dd_X11_things_41 rfl ?_
        refine g_iloadn (pc := 44) (i := 1) (x := sf) hK dd_X11_things_44 rfl rfl ?_
        refine g_aald (pc := 45) hK (kdm kd_1) (by decide) dd_X11_things_45 (by omega) (by omega) ?_
        refine g_topv (v := gR (1 + 96 + 2 * sf.toNat)) rfl ?_
        refine g_astore (pc := 46) (i := 5) (L' := [(0, gR 0), (1, gI sf), (2, gI k), (3, gI n), (4, gI 0), (5, gR (1 + 96 + 2 * sf.toNat))]) hK dd_X11_things_46 (by decide) rfl ?_
        refine g_iloadn (pc := 48) (i := 3) (x := n) hK dd_X11_things_48 rfl rfl ?_
        refine g_iconst (pc := 49) (x := 0) hK dd_X11_things_49 (by decide) ?_
        refine g_aload (pc := 50) (i := 5) (x := 1 + 96 + 2 * sf.toNat) hK dd_X11_things_50 rfl ?_
        refine g_geti (pc := 52) (f := (0, 0)) (j := 2) hK (kdm (kd_sh (by omega) (by omega))) rfl ef_7 (by decide) rfl kk_373 (nl_sh (by omega) (by omega)) dd_X11_things_52 rfl (fun x13 ex13 rx13 => ?_)
        refine g_callT (pc := 55) (As := [gI n, gI 0, gI x13]) hK ws_X_59 md_X11_within ⟨Nat.zero_le _, Nat.zero_le _⟩ ⟨by decide, by decide⟩ dd_X11_things_55 rfl rfl (Nat.le_of_ble_eq_true rfl) (c_within n 0 x13 h_n (by decide) rx13 (fun c14 => g_r1 ?_) (fun c14 => g_r1 ?_))
        · refine g_if_ne (pc := 58) (tgt := 68) hK dd_X11_things_58 (by decide) (by decide) (fun _ => ?_) (fun c15 => absurd (by decide) c15)
          refine g_iconst (pc := 68) (x := 0) hK dd_X11_things_68 (by decide) ?_
          refine g_istore (pc := 69) (i := 6) (L' := [(0, gR 0), (1, gI sf), (2, gI k), (3, gI n), (4, gI 0), (5, gR (1 + 96 + 2 * sf.toNat)), (6, gI 0)]) hK dd_X11_things_69 (by decide) rfl ?_
          have lp18 : ∀ (n16 : Nat) (i : Int), (0 ≤ i ∧ i ≤ n) → (∀ j : Nat, (j : Int) < i → 0 ≤ (M (1 + 96 + 2 * sf.toNat + 1)) j ∧ (M (1 + 96 + 2 * sf.toNat + 1)) j ≤ 999) → (M 6 6 + i ≤ 30) → (n - i).toNat < n16 → G p l e (rmD 4) s m args below meth c D cy q A 0 0 9 (MQ below (gQc D cy q A Pq) args s 0 0 A) 71 [(0, gR 0), (1, gI sf), (2, gI k), (3, gI n), (4, gI 0), (5, gR (1 + 96 + 2 * sf.toNat)), (6, gI i)] [] (thsM M (M (1 + 96 + 2 * sf.toNat + 1)) k i.toNat) := by
            intro n16
            induction n16 with
            | zero => intro i iv19 hall_ iv20 hm21; exact absurd hm21 (Nat.not_lt_zero _)
            | succ n16 ih17 =>
              intro i iv19 hall_ iv20 hm21
              refine g_iload (pc := 71) (i := 6) (x := i) hK dd_X11_things_71 rfl ?_
              refine g_iloadn (pc := 73) (i := 3) (x := n) hK dd_X11_things_73 rfl rfl ?_
              refine g_icmp_ge (pc := 74) (tgt := 142) hK dd_X11_things_74 (by decide) ⟨by omega, by omega⟩ h_n (fun c22 => ?_) (fun c22 => ?_)
              · refine g_iloadn (pc := 142) (i := 3) (x := n) hK dd_X11_things_142 rfl rfl ?_
                refine g_iret (pc := 143) hK hr hlocks dd_X11_things_143 rfl ?_
                exact g_fin (hY i (by exact ⟨by omega, by omega, hall_, by omega, by omega⟩)) (by omega) (by first | rfl | (rw [show n = i by omega]))
              · refine g_aload (pc := 77) (i := 5) (x := 1 + 96 + 2 * sf.toNat) hK dd_X11_things_77 rfl ?_
                refine g_iload (pc := 79) (i := 6) (x := i) hK dd_X11_things_79 rfl ?_
                refine g_callV (pc := 81) (As := [gI i]) hK ws_X_109 md_X7_at ⟨Nat.zero_le _, Nat.zero_le _⟩ ⟨by decide, by decide⟩ (kdm (kd_sh (by omega) (by omega))) rfl rfl dd_X11_things_81 rfl rfl (Nat.le_of_ble_eq_true rfl) (c_at sf i (by omega) (by omega) (by rw [thsM_o _ _ _ (by omega)]; exact (hsh sf (by omega) (by omega)).2) ⟨by omega, by omega⟩ (fun c23 => g_r1 ?_) (fun c24 => g_r1 ?_))
                · refine g_topL (fun y25 ey25 => ?_)
                  rw [thsM_o _ _ _ (by omega)] at ey25
                  have cq_ := c23
                  rw [thsM_o _ _ _ (by omega), thsM_o _ _ _ (by omega)] at cq_
                  have hyl_ : inL y25 := by rw [ey25]; exact cq_.2.2.2
                  have hys_ : y25 = (M (1 + 96 + 2 * sf.toNat + 1)) i.toNat := ey25
                  refine g_lstore (pc := 84) (i := 7) (L' := [(0, gR 0), (1, gI sf), (2, gI k), (3, gI n), (4, gI 0), (5, gR (1 + 96 + 2 * sf.toNat)), (6, gI i), (7, gL y25)]) hK dd_X11_things_84 (by decide) rfl ?_
                  refine g_lload (pc := 86) (i := 7) (x := y25) hK dd_X11_things_86 rfl ?_
                  refine g_lconst (pc := 88) (x := 0) hK dd_X11_things_88 (by decide) ?_
                  rcases Int.lt_trichotomy y25 0 with c26 | c27 | c28
                  · refine g_lcmp (pc := 89) (z := (-1)) hK dd_X11_things_89 hyl_ (by decide) (by rw [if_neg (by omega), if_neg (by omega)]) ?_
                    refine g_if_lt (pc := 90) (tgt := 117) hK dd_X11_things_90 (by decide) (by decide) (fun _ => ?_) (fun c29 => absurd (by decide) c29)
                    refine g_iload (pc := 117) (i := 6) (x := i) hK dd_X11_things_117 rfl ?_
                    refine g_iret (pc := 119) hK hr hlocks dd_X11_things_119 rfl ?_
                    exact g_fin (hY i (by exact ⟨by omega, by omega, hall_, by omega, by omega⟩)) (by omega) (by first | rfl | (rw [show n = i by omega]))
                  · refine g_lcmp (pc := 89) (z := 0) hK dd_X11_things_89 hyl_ (by decide) (by rw [if_neg (by omega), if_pos c27]) ?_
                    refine g_if_lt (pc := 90) (tgt := 117) hK dd_X11_things_90 (by decide) (by decide) (fun c30 => absurd c30 (by decide)) (fun _ => ?_)
                    refine g_lload (pc := 93) (i := 7) (x := y25) hK dd_X11_things_93 rfl ?_
                    refine g_ldc2 (pc := 95) (x := 999) hK kk_550 dd_X11_things_95 (by decide) ?_
                    rcases Int.lt_trichotomy y25 999 with c31 | c32 | c33
                    · refine g_lcmp (pc := 98) (z := (-1)) hK dd_X11_things_98 hyl_ (by decide) (by rw [if_neg (by omega), if_neg (by omega)]) ?_
                      refine g_if_gt (pc := 99) (tgt := 117) hK dd_X11_things_99 (by decide) (by decide) (fun c34 => absurd c34 (by decide)) (fun _ => ?_)
                      refine g_aloadn (pc := 102) (i := 0) (x := 0) hK dd_X11_things_102 rfl rfl ?_
                      refine g_getv (pc := 103) (f := (1, 5)) (j := 3) (v := gR 5) hK (kdm kd_0) rfl ef_11 (by decide) rfl kk_385 dd_X11_things_103 rfl ?_
                      refine g_getv (pc := 106) (f := (1, 1)) (j := 0) (v := gR 6) hK (kdm kd_5) rfl ef_1 (by decide) rfl kk_260 dd_X11_things_106 rfl ?_
                      refine g_geti (pc := 109) (f := (0, 0)) (j := 6) hK (kdm kd_6) rfl ef_10 (by decide) rfl kk_90 nl_6 dd_X11_things_109 rfl (fun x35 ex35 rx35 => ?_)
                      rw [thsM_66] at ex35
                      refine g_bipush (pc := 112) (x := 30) hK dd_X11_things_112 (by decide) ?_
                      refine g_icmp_lt (pc := 114) (tgt := 120) hK dd_X11_things_114 (by decide) rx35 (by decide) (fun c36 => ?_) (fun c36 => ?_)
                      · refine g_aloadn (pc := 120) (i := 0) (x := 0) hK dd_X11_things_120 rfl rfl ?_
                        refine g_getv (pc := 121) (f := (1, 5)) (j := 3) (v := gR 5) hK (kdm kd_0) rfl ef_11 (by decide) rfl kk_385 dd_X11_things_121 rfl ?_
                        refine g_getv (pc := 124) (f := (1, 1)) (j := 0) (v := gR 6) hK (kdm kd_5) rfl ef_1 (by decide) rfl kk_260 dd_X11_things_124 rfl ?_
                        refine g_iloadn (pc := 127) (i := 2) (x := k) hK dd_X11_things_127 rfl rfl ?_
                        refine g_lload (pc := 128) (i := 7) (x := y25) hK dd_X11_things_128 rfl ?_
                        refine g_l2i (pc := 130) (z := y25) hK dd_X11_things_130 (rfl) ?_
                        refine g_iconst (pc := 131) (x := 0) hK dd_X11_things_131 (by decide) ?_
                        refine g_callV (pc := 132) (As := [gI k, gI y25, gI 0]) hK ws_X_135 md_X10_add ⟨Nat.zero_le _, Nat.zero_le _⟩ ⟨by decide, by decide⟩ (kdm kd_6) rfl rfl dd_X11_things_132 rfl rfl (Nat.le_of_ble_eq_true rfl) (c_add10 k y25 0 (by rw [thsM_66]; omega) h_k ⟨by omega, by omega⟩ (by decide) (g_r1 ?_))
                        refine g_topI (fun y37 ey37 => ?_)
                        replace ey37 : y37 = (thsM M (M (1 + 96 + 2 * sf.toNat + 1)) k i.toNat) 6 6 := ey37
                        refine g_pop (pc := 135) hK dd_X11_things_135 rfl ?_
                        refine g_iinc (pc := 136) (i := 6) (y := i + 1) (L' := [(0, gR 0), (1, gI sf), (2, gI k), (3, gI n), (4, gI 0), (5, gR (1 + 96 + 2 * sf.toNat)), (6, gI (i + 1)), (7, gL y25)]) hK dd_X11_things_136 rfl rfl (by decide) rfl ?_
                        refine g_goto (pc := 139) (tgt := 71) hK dd_X11_things_139 (by decide) ?_
                        refine g_sub (L' := [(0, gR 0), (1, gI sf), (2, gI k), (3, gI n), (4, gI 0), (5, gR (1 + 96 + 2 * sf.toNat)), (6, gI (i + 1))]) [0, 1, 2, 3, 4, 5, 6] rfl ?_
                        refine g_mem (M2 := thsM M (M (1 + 96 + 2 * sf.toNat + 1)) k (i + 1).toNat) (by rw [tn1 (by omega)]; subst_vars; rfl) ?_
                        exact ih17 (i + 1) (by omega) (fun j hj => by
                          by_cases e : (j : Int) = i
                          · rw [show j = i.toNat by omega, ← hys_]; omega
                          · exact hall_ j (by omega)) (by omega) (by omega)
                      · refine g_iload (pc := 117) (i := 6) (x := i) hK dd_X11_things_117 rfl ?_
                        refine g_iret (pc := 119) hK hr hlocks dd_X11_things_119 rfl ?_
                        exact g_fin (hY i (by exact ⟨by omega, by omega, hall_, by omega, by omega⟩)) (by omega) (by first | rfl | (rw [show n = i by omega]))
                    · refine g_lcmp (pc := 98) (z := 0) hK dd_X11_things_98 hyl_ (by decide) (by rw [if_neg (by omega), if_pos c32]) ?_
                      refine g_if_gt (pc := 99) (tgt := 117) hK dd_X11_things_99 (by decide) (by decide) (fun c38 => absurd c38 (by decide)) (fun _ => ?_)
                      refine g_aloadn (pc := 102) (i := 0) (x := 0) hK dd_X11_things_102 rfl rfl ?_
                      refine g_getv (pc := 103) (f := (1, 5)) (j := 3) (v := gR 5) hK (kdm kd_0) rfl ef_11 (by decide) rfl kk_385 dd_X11_things_103 rfl ?_
                      refine g_getv (pc := 106) (f := (1, 1)) (j := 0) (v := gR 6) hK (kdm kd_5) rfl ef_1 (by decide) rfl kk_260 dd_X11_things_106 rfl ?_
                      refine g_geti (pc := 109) (f := (0, 0)) (j := 6) hK (kdm kd_6) rfl ef_10 (by decide) rfl kk_90 nl_6 dd_X11_things_109 rfl (fun x39 ex39 rx39 => ?_)
                      rw [thsM_66] at ex39
                      refine g_bipush (pc := 112) (x := 30) hK dd_X11_things_112 (by decide) ?_
                      refine g_icmp_lt (pc := 114) (tgt := 120) hK dd_X11_things_114 (by decide) rx39 (by decide) (fun c40 => ?_) (fun c40 => ?_)
                      · refine g_aloadn (pc := 120) (i := 0) (x := 0) hK dd_X11_things_120 rfl rfl ?_
                        refine g_getv (pc := 121) (f := (1, 5)) (j := 3) (v := gR 5) hK (kdm kd_0) rfl ef_11 (by decide) rfl kk_385 dd_X11_things_121 rfl ?_
                        refine g_getv (pc := 124) (f := (1, 1)) (j := 0) (v := gR 6) hK (kdm kd_5) rfl ef_1 (by decide) rfl kk_260 dd_X11_things_124 rfl ?_
                        refine g_iloadn (pc := 127) (i := 2) (x := k) hK dd_X11_things_127 rfl rfl ?_
                        refine g_lload (pc := 128) (i := 7) (x := y25) hK dd_X11_things_128 rfl ?_
                        refine g_l2i (pc := 130) (z := y25) hK dd_X11_things_130 (rfl) ?_
                        refine g_iconst (pc := 131) (x := 0) hK dd_X11_things_131 (by decide) ?_
                        refine g_callV (pc := 132) (As := [gI k, gI y25, gI 0]) hK ws_X_135 md_X10_add ⟨Nat.zero_le _, Nat.zero_le _⟩ ⟨by decide, by decide⟩ (kdm kd_6) rfl rfl dd_X11_things_132 rfl rfl (Nat.le_of_ble_eq_true rfl) (c_add10 k y25 0 (by rw [thsM_66]; omega) h_k ⟨by omega, by omega⟩ (by decide) (g_r1 ?_))
                        refine g_topI (fun y41 ey41 => ?_)
                        replace ey41 : y41 = (thsM M (M (1 + 96 + 2 * sf.toNat + 1)) k i.toNat) 6 6 := ey41
                        refine g_pop (pc := 135) hK dd_X11_things_135 rfl ?_
                        refine g_iinc (pc := 136) (i := 6) (y := i + 1) (L' := [(0, gR 0), (1, gI sf), (2, gI k), (3, gI n), (4, gI 0), (5, gR (1 + 96 + 2 * sf.toNat)), (6, gI (i + 1)), (7, gL y25)]) hK dd_X11_things_136 rfl rfl (by decide) rfl ?_
                        refine g_goto (pc := 139) (tgt := 71) hK dd_X11_things_139 (by decide) ?_
                        refine g_sub (L' := [(0, gR 0), (1, gI sf), (2, gI k), (3, gI n), (4, gI 0), (5, gR (1 + 96 + 2 * sf.toNat)), (6, gI (i + 1))]) [0, 1, 2, 3, 4, 5, 6] rfl ?_
                        refine g_mem (M2 := thsM M (M (1 + 96 + 2 * sf.toNat + 1)) k (i + 1).toNat) (by rw [tn1 (by omega)]; subst_vars; rfl) ?_
                        exact ih17 (i + 1) (by omega) (fun j hj => by
                          by_cases e : (j : Int) = i
                          · rw [show j = i.toNat by omega, ← hys_]; omega
                          · exact hall_ j (by omega)) (by omega) (by omega)
                      · refine g_iload (pc := 117) (i := 6) (x := i) hK dd_X11_things_117 rfl ?_
                        refine g_iret (pc := 119) hK hr hlocks dd_X11_things_119 rfl ?_
                        exact g_fin (hY i (by exact ⟨by omega, by omega, hall_, by omega, by omega⟩)) (by omega) (by first | rfl | (rw [show n = i by omega]))
                    · refine g_lcmp (pc := 98) (z := 1) hK dd_X11_things_98 hyl_ (by decide) (by rw [if_pos (by omega)]) ?_
                      refine g_if_gt (pc := 99) (tgt := 117) hK dd_X11_things_99 (by decide) (by decide) (fun _ => ?_) (fun c42 => absurd (by decide) c42)
                      refine g_iload (pc := 117) (i := 6) (x := i) hK dd_X11_things_117 rfl ?_
                      refine g_iret (pc := 119) hK hr hlocks dd_X11_things_119 rfl ?_
                      exact g_fin (hY i (by exact ⟨by omega, by omega, hall_, by omega, by omega⟩)) (by omega) (by first | rfl | (rw [show n = i by omega]))
                  · refine g_lcmp (pc := 89) (z := 1) hK dd_X11_things_89 hyl_ (by decide) (by rw [if_pos (by omega)]) ?_
                    refine g_if_lt (pc := 90) (tgt := 117) hK dd_X11_things_90 (by decide) (by decide) (fun c43 => absurd c43 (by decide)) (fun _ => ?_)
                    refine g_lload (pc := 93) (i := 7) (x := y25) hK dd_X11_things_93 rfl ?_
                    refine g_ldc2 (pc := 95) (x := 999) hK kk_550 dd_X11_things_95 (by decide) ?_
                    rcases Int.lt_trichotomy y25 999 with c44 | c45 | c46
                    · refine g_lcmp (pc := 98) (z := (-1)) hK dd_X11_things_98 hyl_ (by decide) (by rw [if_neg (by omega), if_neg (by omega)]) ?_
                      refine g_if_gt (pc := 99) (tgt := 117) hK dd_X11_things_99 (by decide) (by decide) (fun c47 => absurd c47 (by decide)) (fun _ => ?_)
                      refine g_aloadn (pc := 102) (i := 0) (x := 0) hK dd_X11_things_102 rfl rfl ?_
                      refine g_getv (pc := 103) (f := (1, 5)) (j := 3) (v := gR 5) hK (kdm kd_0) rfl ef_11 (by decide) rfl kk_385 dd_X11_things_103 rfl ?_
                      refine g_getv (pc := 106) (f := (1, 1)) (j := 0) (v := gR 6) hK (kdm kd_5) rfl ef_1 (by decide) rfl kk_260 dd_X11_things_106 rfl ?_
                      refine g_geti (pc := 109) (f := (0, 0)) (j := 6) hK (kdm kd_6) rfl ef_10 (by decide) rfl kk_90 nl_6 dd_X11_things_109 rfl (fun x48 ex48 rx48 => ?_)
                      rw [thsM_66] at ex48
                      refine g_bipush (pc := 112) (x := 30) hK dd_X11_things_112 (by decide) ?_
                      refine g_icmp_lt (pc := 114) (tgt := 120) hK dd_X11_things_114 (by decide) rx48 (by decide) (fun c49 => ?_) (fun c49 => ?_)
                      · refine g_aloadn (pc := 120) (i := 0) (x := 0) hK dd_X11_things_120 rfl rfl ?_
                        refine g_getv (pc := 121) (f := (1, 5)) (j := 3) (v := gR 5) hK (kdm kd_0) rfl ef_11 (by decide) rfl kk_385 dd_X11_things_121 rfl ?_
                        refine g_getv (pc := 124) (f := (1, 1)) (j := 0) (v := gR 6) hK (kdm kd_5) rfl ef_1 (by decide) rfl kk_260 dd_X11_things_124 rfl ?_
                        refine g_iloadn (pc := 127) (i := 2) (x := k) hK dd_X11_things_127 rfl rfl ?_
                        refine g_lload (pc := 128) (i := 7) (x := y25) hK dd_X11_things_128 rfl ?_
                        refine g_l2i (pc := 130) (z := y25) hK dd_X11_things_130 (rfl) ?_
                        refine g_iconst (pc := 131) (x := 0) hK dd_X11_things_131 (by decide) ?_
                        refine g_callV (pc := 132) (As := [gI k, gI y25, gI 0]) hK ws_X_135 md_X10_add ⟨Nat.zero_le _, Nat.zero_le _⟩ ⟨by decide, by decide⟩ (kdm kd_6) rfl rfl dd_X11_things_132 rfl rfl (Nat.le_of_ble_eq_true rfl) (c_add10 k y25 0 (by rw [thsM_66]; omega) h_k ⟨by omega, by omega⟩ (by decide) (g_r1 ?_))
                        refine g_topI (fun y50 ey50 => ?_)
                        replace ey50 : y50 = (thsM M (M (1 + 96 + 2 * sf.toNat + 1)) k i.toNat) 6 6 := ey50
                        refine g_pop (pc := 135) hK dd_X11_things_135 rfl ?_
                        refine g_iinc (pc := 136) (i := 6) (y := i + 1) (L' := [(0, gR 0), (1, gI sf), (2, gI k), (3, gI n), (4, gI 0), (5, gR (1 + 96 + 2 * sf.toNat)), (6, gI (i + 1)), (7, gL y25)]) hK dd_X11_things_136 rfl rfl (by decide) rfl ?_
                        refine g_goto (pc := 139) (tgt := 71) hK dd_X11_things_139 (by decide) ?_
                        refine g_sub (L' := [(0, gR 0), (1, gI sf), (2, gI k), (3, gI n), (4, gI 0), (5, gR (1 + 96 + 2 * sf.toNat)), (6, gI (i + 1))]) [0, 1, 2, 3, 4, 5, 6] rfl ?_
                        refine g_mem (M2 := thsM M (M (1 + 96 + 2 * sf.toNat + 1)) k (i + 1).toNat) (by rw [tn1 (by omega)]; subst_vars; rfl) ?_
                        exact ih17 (i + 1) (by omega) (fun j hj => by
                          by_cases e : (j : Int) = i
                          · rw [show j = i.toNat by omega, ← hys_]; omega
                          · exact hall_ j (by omega)) (by omega) (by omega)
                      · refine g_iload (pc := 117) (i := 6) (x := i) hK dd_X11_things_117 rfl ?_
                        refine g_iret (pc := 119) hK hr hlocks dd_X11_things_119 rfl ?_
                        exact g_fin (hY i (by exact ⟨by omega, by omega, hall_, by omega, by omega⟩)) (by omega) (by first | rfl | (rw [show n = i by omega]))
                    · refine g_lcmp (pc := 98) (z := 0) hK dd_X11_things_98 hyl_ (by decide) (by rw [if_neg (by omega), if_pos c45]) ?_
                      refine g_if_gt (pc := 99) (tgt := 117) hK dd_X11_things_99 (by decide) (by decide) (fun c51 => absurd c51 (by decide)) (fun _ => ?_)
                      refine g_aloadn (pc := 102) (i := 0) (x := 0) hK dd_X11_things_102 rfl rfl ?_
                      refine g_getv (pc := 103) (f := (1, 5)) (j := 3) (v := gR 5) hK (kdm kd_0) rfl ef_11 (by decide) rfl kk_385 dd_X11_things_103 rfl ?_
                      refine g_getv (pc := 106) (f := (1, 1)) (j := 0) (v := gR 6) hK (kdm kd_5) rfl ef_1 (by decide) rfl kk_260 dd_X11_things_106 rfl ?_
                      refine g_geti (pc := 109) (f := (0, 0)) (j := 6) hK (kdm kd_6) rfl ef_10 (by decide) rfl kk_90 nl_6 dd_X11_things_109 rfl (fun x52 ex52 rx52 => ?_)
                      rw [thsM_66] at ex52
                      refine g_bipush (pc := 112) (x := 30) hK dd_X11_things_112 (by decide) ?_
                      refine g_icmp_lt (pc := 114) (tgt := 120) hK dd_X11_things_114 (by decide) rx52 (by decide) (fun c53 => ?_) (fun c53 => ?_)
                      · refine g_aloadn (pc := 120) (i := 0) (x := 0) hK dd_X11_things_120 rfl rfl ?_
                        refine g_getv (pc := 121) (f := (1, 5)) (j := 3) (v := gR 5) hK (kdm kd_0) rfl ef_11 (by decide) rfl kk_385 dd_X11_things_121 rfl ?_
                        refine g_getv (pc := 124) (f := (1, 1)) (j := 0) (v := gR 6) hK (kdm kd_5) rfl ef_1 (by decide) rfl kk_260 dd_X11_things_124 rfl ?_
                        refine g_iloadn (pc := 127) (i := 2) (x := k) hK dd_X11_things_127 rfl rfl ?_
                        refine g_lload (pc := 128) (i := 7) (x := y25) hK dd_X11_things_128 rfl ?_
                        refine g_l2i (pc := 130) (z := y25) hK dd_X11_things_130 (rfl) ?_
                        refine g_iconst (pc := 131) (x := 0) hK dd_X11_things_131 (by decide) ?_
                        refine g_callV (pc := 132) (As := [gI k, gI y25, gI 0]) hK ws_X_135 md_X10_add ⟨Nat.zero_le _, Nat.zero_le _⟩ ⟨by decide, by decide⟩ (kdm kd_6) rfl rfl dd_X11_things_132 rfl rfl (Nat.le_of_ble_eq_true rfl) (c_add10 k y25 0 (by rw [thsM_66]; omega) h_k ⟨by omega, by omega⟩ (by decide) (g_r1 ?_))
                        refine g_topI (fun y54 ey54 => ?_)
                        replace ey54 : y54 = (thsM M (M (1 + 96 + 2 * sf.toNat + 1)) k i.toNat) 6 6 := ey54
                        refine g_pop (pc := 135) hK dd_X11_things_135 rfl ?_
                        refine g_iinc (pc := 136) (i := 6) (y := i + 1) (L' := [(0, gR 0), (1, gI sf), (2, gI k), (3, gI n), (4, gI 0), (5, gR (1 + 96 + 2 * sf.toNat)), (6, gI (i + 1)), (7, gL y25)]) hK dd_X11_things_136 rfl rfl (by decide) rfl ?_
                        refine g_goto (pc := 139) (tgt := 71) hK dd_X11_things_139 (by decide) ?_
                        refine g_sub (L' := [(0, gR 0), (1, gI sf), (2, gI k), (3, gI n), (4, gI 0), (5, gR (1 + 96 + 2 * sf.toNat)), (6, gI (i + 1))]) [0, 1, 2, 3, 4, 5, 6] rfl ?_
                        refine g_mem (M2 := thsM M (M (1 + 96 + 2 * sf.toNat + 1)) k (i + 1).toNat) (by rw [tn1 (by omega)]; subst_vars; rfl) ?_
                        exact ih17 (i + 1) (by omega) (fun j hj => by
                          by_cases e : (j : Int) = i
                          · rw [show j = i.toNat by omega, ← hys_]; omega
                          · exact hall_ j (by omega)) (by omega) (by omega)
                      · refine g_iload (pc := 117) (i := 6) (x := i) hK dd_X11_things_117 rfl ?_
                        refine g_iret (pc := 119) hK hr hlocks dd_X11_things_119 rfl ?_
                        exact g_fin (hY i (by exact ⟨by omega, by omega, hall_, by omega, by omega⟩)) (by omega) (by first | rfl | (rw [show n = i by omega]))
                    · refine g_lcmp (pc := 98) (z := 1) hK dd_X11_things_98 hyl_ (by decide) (by rw [if_pos (by omega)]) ?_
                      refine g_if_gt (pc := 99) (tgt := 117) hK dd_X11_things_99 (by decide) (by decide) (fun _ => ?_) (fun c55 => absurd (by decide) c55)
                      refine g_iload (pc := 117) (i := 6) (x := i) hK dd_X11_things_117 rfl ?_
                      refine g_iret (pc := 119) hK hr hlocks dd_X11_things_119 rfl ?_
                      exact g_fin (hY i (by exact ⟨by omega, by omega, hall_, by omega, by omega⟩)) (by omega) (by first | rfl | (rw [show n = i by omega]))
                · exfalso
                  have cq_ := c24
                  rw [thsM_o _ _ _ (by omega)] at cq_
                  omega
          refine g_mem (M2 := thsM M (M (1 + 96 + 2 * sf.toNat + 1)) k (0 : Int).toNat) (rfl) ?_
          refine g_sub (L' := [(0, gR 0), (1, gI sf), (2, gI k), (3, gI n), (4, gI 0), (5, gR (1 + 96 + 2 * sf.toNat)), (6, gI 0)]) [0, 1, 2, 3, 4, 5, 6] rfl ?_
          exact lp18 _ 0 (by omega) (fun j hj => absurd hj (by omega)) (by omega) (Nat.lt_succ_self _)
        · refine g_if_ne (pc := 58) (tgt := 68) hK dd_X11_things_58 (by decide) (by decide) (fun c56 => absurd c56 (by decide)) (fun _ => ?_)
          refine g_aloadn (pc := 61) (i := 0) (x := 0) hK dd_X11_things_61 rfl rfl ?_
          refine g_bipush (pc := 62) (x := (-2)) hK dd_X11_things_62 (by decide) ?_
          refine g_callV (pc := 64) (As := [gI (-2)]) hK ws_X_63 md_X11_refuse ⟨Nat.zero_le _, Nat.zero_le _⟩ ⟨by decide, by decide⟩ (kdm kd_0) rfl rfl dd_X11_things_64 rfl rfl (Nat.le_of_ble_eq_true rfl) (c_refuse_0 hrf (g_r1 ?_))
          refine g_iret (pc := 67) hK hr hlocks dd_X11_things_67 rfl ?_
          first | exact g_fin (hB (by first | omega | (subst_vars; omega) | exact ⟨by first | assumption | omega | (subst_vars; first | assumption | omega), by first | assumption | omega | (subst_vars; first | assumption | omega)⟩)) (by first | rfl | omega | (subst_vars; first | rfl | omega)) (by first | rfl | (subst_vars; rfl)) | exact g_fin (hI (by first | omega | (subst_vars; omega) | exact ⟨by first | assumption | omega | (subst_vars; first | assumption | omega), by first | assumption | omega | (subst_vars; first | assumption | omega)⟩)) (by first | rfl | omega | (subst_vars; first | rfl | omega)) (by first | rfl | (subst_vars; rfl)) | exact g_fin (hY i (by exact ⟨by omega, by omega, hall_, by omega, by omega⟩)) (by omega) (by first | rfl | (rw [show n = i by omega])) | (exfalso; omega)
    · refine g_if_ne (pc := 11) (tgt := 21) hK dd_X11_things_11 (by decide) (by decide) (fun c57 => absurd c57 (by decide)) (fun _ => ?_)
      refine g_aloadn (pc := 14) (i := 0) (x := 0) hK dd_X11_things_14 rfl rfl ?_
      refine g_bipush (pc := 15) (x := (-2)) hK dd_X11_things_15 (by decide) ?_
      refine g_callV (pc := 17) (As := [gI (-2)]) hK ws_X_63 md_X11_refuse ⟨Nat.zero_le _, Nat.zero_le _⟩ ⟨by decide, by decide⟩ (kdm kd_0) rfl rfl dd_X11_things_17 rfl rfl (Nat.le_of_ble_eq_true rfl) (c_refuse_0 hrf (g_r1 ?_))
      refine g_iret (pc := 20) hK hr hlocks dd_X11_things_20 rfl ?_
      first | exact g_fin (hB (by first | omega | (subst_vars; omega) | exact ⟨by first | assumption | omega | (subst_vars; first | assumption | omega), by first | assumption | omega | (subst_vars; first | assumption | omega)⟩)) (by first | rfl | omega | (subst_vars; first | rfl | omega)) (by first | rfl | (subst_vars; rfl)) | exact g_fin (hI (by first | omega | (subst_vars; omega) | exact ⟨by first | assumption | omega | (subst_vars; first | assumption | omega), by first | assumption | omega | (subst_vars; first | assumption | omega)⟩)) (by first | rfl | omega | (subst_vars; first | rfl | omega)) (by first | rfl | (subst_vars; rfl)) | exact g_fin (hY i (by exact ⟨by omega, by omega, hall_, by omega, by omega⟩)) (by omega) (by first | rfl | (rw [show n = i by omega])) | (exfalso; omega)
  · refine g_if_eq (pc := 4) (tgt := 14) hK dd_X11_things_4 (by decide) (by decide) (fun _ => ?_) (fun c58 => absurd (by decide) c58)
    refine g_aloadn (pc := 14) (i := 0) (x := 0) hK dd_X11_things_14 rfl rfl ?_
    refine g_bipush (pc := 15) (x := (-2)) hK dd_X11_things_15 (by decide) ?_
    refine g_callV (pc := 17) (As := [gI (-2)]) hK ws_X_63 md_X11_refuse ⟨Nat.zero_le _, Nat.zero_le _⟩ ⟨by decide, by decide⟩ (kdm kd_0) rfl rfl dd_X11_things_17 rfl rfl (Nat.le_of_ble_eq_true rfl) (c_refuse_0 hrf (g_r1 ?_))
    refine g_iret (pc := 20) hK hr hlocks dd_X11_things_20 rfl ?_
    first | exact g_fin (hB (by first | omega | (subst_vars; omega) | exact ⟨by first | assumption | omega | (subst_vars; first | assumption | omega), by first | assumption | omega | (subst_vars; first | assumption | omega)⟩)) (by first | rfl | omega | (subst_vars; first | rfl | omega)) (by first | rfl | (subst_vars; rfl)) | exact g_fin (hI (by first | omega | (subst_vars; omega) | exact ⟨by first | assumption | omega | (subst_vars; first | assumption | omega), by first | assumption | omega | (subst_vars; first | assumption | omega)⟩)) (by first | rfl | omega | (subst_vars; first | rfl | omega)) (by first | rfl | (subst_vars; rfl)) | exact g_fin (hY i (by exact ⟨by omega, by omega, hall_, by omega, by omega⟩)) (by omega) (by first | rfl | (rw [show n = i by omega])) | (exfalso; omega)
set_option maxHeartbeats 4000000 in
set_option maxRecDepth 100000 in
theorem y_things {l : Launch} {M : Mem} {Pq : Option gV → Mem → Prop} (sf : Int) (k : Int) (n : Int) (h_sf : inI sf) (h_k : inI k) (h_n : inI n) (hrg : rgOK M) (hho : hoOK M) (hmc : 0 ≤ M 200 3 ∧ M 200 3 ≤ 30) (hB : (¬ ((0 ≤ sf ∧ sf < 8) ∧ 0 ≤ k ∧ k < 6)) → Pq (some (gI (-2))) (rg M 2)) (hO : (((0 ≤ sf ∧ sf < 8) ∧ 0 ≤ k ∧ k < 6) ∧ 0 ≤ M 201 sf.toNat ∧ M 201 sf.toNat < 100) → Pq (some (gI (-3))) (rg M 3)) (hN : (((0 ≤ sf ∧ sf < 8) ∧ 0 ≤ k ∧ k < 6) ∧ M 201 sf.toNat < 0) → Pq (some (gI (-4))) (rg M 4)) (hI : ((((0 ≤ sf ∧ sf < 8) ∧ 0 ≤ k ∧ k < 6) ∧ 100 ≤ M 201 sf.toNat) ∧ ¬ (0 ≤ n ∧ n ≤ M 202 sf.toNat)) → Pq (some (gI (-2))) (rg M 2)) (hY : ∀ (i : Int), (((((0 ≤ sf ∧ sf < 8) ∧ 0 ≤ k ∧ k < 6) ∧ 100 ≤ M 201 sf.toNat) ∧ 0 ≤ n ∧ n ≤ M 202 sf.toNat) ∧ (0 ≤ i ∧ i ≤ n) ∧ (∀ j : Nat, (j : Int) < i → 0 ≤ (fun z => M 203 (40 * sf.toNat + z)) j ∧ (fun z => M 203 (40 * sf.toNat + z)) j ≤ 999) ∧ (i < n → ¬ (0 ≤ (fun z => M 203 (40 * sf.toNat + z)) i.toNat ∧ (fun z => M 203 (40 * sf.toNat + z)) i.toNat ≤ 999) ∨ 30 ≤ M 200 3 + i) ∧ M 200 3 + i ≤ 30) → Pq (some (gI i)) (thsR M (fun z => M 203 (40 * sf.toNat + z)) k i.toNat)) : gCtr l my_X12_things mb_X12_things 8 ((some .int)) 3 [gR 200, gI sf, gI k, gI n] M Pq := by
  refine g_intro (by decide) (Nat.le_of_ble_eq_true rfl) ?_
  intro p e s m args below meth c D cy q A hK hr hlocks hw
  refine g_sub (L' := [(0, gR 200), (1, gI sf), (2, gI k), (3, gI n)]) [0, 1, 2, 3] rfl ?_
  refine g_aloadn (pc := 0) (i := 0) (x := 200) hK dd_X12_things_0 rfl rfl ?_
  refine g_iloadn (pc := 1) (i := 1) (x := sf) hK dd_X12_things_1 rfl rfl ?_
  refine g_callV (pc := 2) (As := [gI sf]) hK ws_M_148 md_X12_isShelf ⟨Nat.zero_le _, Nat.zero_le _⟩ ⟨by decide, by decide⟩ (kdm kd_200) rfl rfl dd_X12_things_2 rfl rfl (Nat.le_of_ble_eq_true rfl) (d_isShelf sf h_sf (fun c1 => g_r1 ?_) (fun c1 => g_r1 ?_))
  · refine g_if_eq (pc := 5) (tgt := 16) hK dd_X12_things_5 (by decide) (by decide) (fun c2 => absurd c2 (by decide)) (fun _ => ?_)
    refine g_aloadn (pc := 8) (i := 0) (x := 200) hK dd_X12_things_8 rfl rfl ?_
    refine g_iloadn (pc := 9) (i := 2) (x := k) hK dd_X12_things_9 rfl rfl ?_
    refine g_callV (pc := 10) (As := [gI k]) hK ws_M_168 md_X12_isKind ⟨Nat.zero_le _, Nat.zero_le _⟩ ⟨by decide, by decide⟩ (kdm kd_200) rfl rfl dd_X12_things_10 rfl rfl (Nat.le_of_ble_eq_true rfl) (d_isKind k h_k (fun c3 => g_r1 ?_) (fun c3 => g_r1 ?_))
    · refine g_if_ne (pc := 13) (tgt := 23) hK dd_X12_things_13 (by decide) (by decide) (fun _ => ?_) (fun c4 => absurd (by decide) c4)
      refine g_aloadn (pc := 23) (i := 0) (x := 200) hK dd_X12_things_23 rfl rfl ?_
      refine g_iloadn (pc := 24) (i := 1) (x := sf) hK dd_X12_things_24 rfl rfl ?_
      refine g_callV (pc := 25) (As := [gI sf]) hK ws_M_159 md_X12_noRow ⟨Nat.zero_le _, Nat.zero_le _⟩ ⟨by decide, by decide⟩ (kdm kd_200) rfl rfl dd_X12_things_25 rfl rfl (Nat.le_of_ble_eq_true rfl) (d_noRow sf h_sf (fun c5 => g_r1 ?_) (fun c6 => g_r1 ?_) (fun c7 => g_r1 ?_) (fun c8 => g_r1 ?_))
      · refine g_istore (pc := 28) (i := 4) (L' := [(0, gR 200), (1, gI sf), (2, gI k), (3, gI n), (4, gI (-2))]) hK dd_X12_things_28 (by decide) rfl ?_
        refine g_iload (pc := 30) (i := 4) (x := (-2)) hK dd_X12_things_30 rfl ?_
        refine g_if_ge (pc := 32) (tgt := 42) hK dd_X12_things_32 (by decide) (by decide) (fun c9 => absurd c9 (by decide)) (fun _ => ?_)
        refine g_aloadn (pc := 35) (i := 0) (x := 200) hK dd_X12_things_35 rfl rfl ?_
        refine g_iload (pc := 36) (i := 4) (x := (-2)) hK dd_X12_things_36 rfl ?_
        refine g_callV (pc := 38) (As := [gI (-2)]) hK ws_M_152 md_X12_no ⟨Nat.zero_le _, Nat.zero_le _⟩ ⟨by decide, by decide⟩ (kdm kd_200) rfl rfl dd_X12_things_38 rfl rfl (Nat.le_of_ble_eq_true rfl) (d_no_2 hrg (g_r1 ?_))
        refine g_iret (pc := 41) hK hr hlocks dd_X12_things_41 rfl ?_
        first | exact g_fin (hB (by first | omega | (subst_vars; omega) | exact ⟨by first | assumption | omega | (subst_vars; first | assumption | omega), by first | assumption | omega | (subst_vars; first | assumption | omega)⟩)) (by first | rfl | omega | (subst_vars; first | rfl | omega)) (by first | rfl | (subst_vars; rfl)) | exact g_fin (hI (by first | omega | (subst_vars; omega) | exact ⟨by first | assumption | omega | (subst_vars; first | assumption | omega), by first | assumption | omega | (subst_vars; first | assumption | omega)⟩)) (by first | rfl | omega | (subst_vars; first | rfl | omega)) (by first | rfl | (subst_vars; rfl)) | exact g_fin (hY i (by exact ⟨by omega, by omega, hall_, fun q_ => by first | omega | (left; show ¬ (0 ≤ M 203 (40 * sf.toNat + i.toNat) ∧ M 203 (40 * sf.toNat + i.toNat) ≤ 999); omega), by omega⟩)) (by omega) (by rfl) | (exfalso; omega)
      · refine g_istore (pc := 28) (i := 4) (L' := [(0, gR 200), (1, gI sf), (2, gI k), (3, gI n), (4, gI (-3))]) hK dd_X12_things_28 (by decide) rfl ?_
        refine g_iload (pc := 30) (i := 4) (x := (-3)) hK dd_X12_things_30 rfl ?_
        refine g_if_ge (pc := 32) (tgt := 42) hK dd_X12_things_32 (by decide) (by decide) (fun c10 => absurd c10 (by decide)) (fun _ => ?_)
        refine g_aloadn (pc := 35) (i := 0) (x := 200) hK dd_X12_things_35 rfl rfl ?_
        refine g_iload (pc := 36) (i := 4) (x := (-3)) hK dd_X12_things_36 rfl ?_
        refine g_callV (pc := 38) (As := [gI (-3)]) hK ws_M_152 md_X12_no ⟨Nat.zero_le _, Nat.zero_le _⟩ ⟨by decide, by decide⟩ (kdm kd_200) rfl rfl dd_X12_things_38 rfl rfl (Nat.le_of_ble_eq_true rfl) (d_no_3 hrg (g_r1 ?_))
        refine g_iret (pc := 41) hK hr hlocks dd_X12_things_41 rfl ?_
        first | exact g_fin (hO (by first | omega | (subst_vars; omega) | exact ⟨by first | assumption | omega | (subst_vars; first | assumption | omega), by first | assumption | omega | (subst_vars; first | assumption | omega)⟩)) (by first | rfl | omega | (subst_vars; first | rfl | omega)) (by first | rfl | (subst_vars; rfl)) | exact g_fin (hY i (by exact ⟨by omega, by omega, hall_, fun q_ => by first | omega | (left; show ¬ (0 ≤ M 203 (40 * sf.toNat + i.toNat) ∧ M 203 (40 * sf.toNat + i.toNat) ≤ 999); omega), by omega⟩)) (by omega) (by rfl) | (exfalso; omega)
      · refine g_istore (pc := 28) (i := 4) (L' := [(0, gR 200), (1, gI sf), (2, gI k), (3, gI n), (4, gI (-4))]) hK dd_X12_things_28 (by decide) rfl ?_
        refine g_iload (pc := 30) (i := 4) (x := (-4)) hK dd_X12_things_30 rfl ?_
        refine g_if_ge (pc := 32) (tgt := 42) hK dd_X12_things_32 (by decide) (by decide) (fun c11 => absurd c11 (by decide)) (fun _ => ?_)
        refine g_aloadn (pc := 35) (i := 0) (x := 200) hK dd_X12_things_35 rfl rfl ?_
        refine g_iload (pc := 36) (i := 4) (x := (-4)) hK dd_X12_things_36 rfl ?_
        refine g_callV (pc := 38) (As := [gI (-4)]) hK ws_M_152 md_X12_no ⟨Nat.zero_le _, Nat.zero_le _⟩ ⟨by decide, by decide⟩ (kdm kd_200) rfl rfl dd_X12_things_38 rfl rfl (Nat.le_of_ble_eq_true rfl) (d_no_4 hrg (g_r1 ?_))
        refine g_iret (pc := 41) hK hr hlocks dd_X12_things_41 rfl ?_
        first | exact g_fin (hN (by first | omega | (subst_vars; omega) | exact ⟨by first | assumption | omega | (subst_vars; first | assumption | omega), by first | assumption | omega | (subst_vars; first | assumption | omega)⟩)) (by first | rfl | omega | (subst_vars; first | rfl | omega)) (by first | rfl | (subst_vars; rfl)) | exact g_fin (hY i (by exact ⟨by omega, by omega, hall_, fun q_ => by first | omega | (left; show ¬ (0 ≤ M 203 (40 * sf.toNat + i.toNat) ∧ M 203 (40 * sf.toNat + i.toNat) ≤ 999); omega), by omega⟩)) (by omega) (by rfl) | (exfalso; omega)
      · have hs_ := hho sf.toNat (by omega)
        refine g_istore (pc := 28) (i := 4) (L' := [(0, gR 200), (1, gI sf), (2, gI k), (3, gI n), (4, gI 0)]) hK dd_X12_things_28 (by decide) rfl ?_
        refine g_iload (pc := 30) (i := 4) (x := 0) hK dd_X12_things_30 rfl ?_
        refine g_if_ge (pc := 32) (tgt := 42) hK dd_X12_things_32 (by decide) (by decide) (fun _ => ?_) (fun c12 => absurd (by decide) c12)
        refine g_iloadn (pc := 42) (i := 3) (x := n) hK dd_X12_things_42 rfl rfl ?_
        refine g_if_lt (pc := 43) (tgt := 56) hK dd_X12_things_43 (by decide) h_n (fun c13 => ?_) (fun c13 => ?_)
        · refine g_aloadn (pc := 56) (i := 0) (x := 200) hK dd_X12_things_56 rfl rfl ?_
          refine g_bipush (pc := 57) (x := (-2)) hK dd_X12_things_57 (by decide) ?_
          refine g_callV (pc := 59) (As := [gI (-2)]) hK ws_M_152 md_X12_no ⟨Nat.zero_le _, Nat.zero_le _⟩ ⟨by decide, by decide⟩ (kdm kd_200) rfl rfl dd_X12_things_59 rfl rfl (Nat.le_of_ble_eq_true rfl) (d_no_2 hrg (g_r1 ?_))
          refine g_iret (pc := 62) hK hr hlocks dd_X12_things_62 rfl ?_
          first | exact g_fin (hB (by first | omega | (subst_vars; omega) | exact ⟨by first | assumption | omega | (subst_vars; first | assumption | omega), by first | assumption | omega | (subst_vars; first | assumption | omega)⟩)) (by first | rfl | omega | (subst_vars; first | rfl | omega)) (by first | rfl | (subst_vars; rfl)) | exact g_fin (hI (by first | omega | (subst_vars; omega) | exact ⟨by first | assumption | omega | (subst_vars; first | assumption | omega), by first | assumption | omega | (subst_vars; first | assumption | omega)⟩)) (by first | rfl | omega | (subst_vars; first | rfl | omega)) (by first | rfl | (subst_vars; rfl)) | exact g_fin (hY i (by exact ⟨by omega, by omega, hall_, fun q_ => by first | omega | (left; show ¬ (0 ≤ M 203 (40 * sf.toNat + i.toNat) ∧ M 203 (40 * sf.toNat + i.toNat) ≤ 999); omega), by omega⟩)) (by omega) (by rfl) | (exfalso; omega)
        · refine g_iloadn (pc := 46) (i := 3) (x := n) hK dd_X12_things_46 rfl rfl ?_
          refine g_aloadn (pc := 47) (i := 0) (x := 200) hK dd_X12_things_47 rfl rfl ?_
          refine g_getv (pc := 48) (f := (1, 2)) (j := 1) (v := gR 202) hK (kdm kd_200) rfl ef_12 (by decide) rfl kk_1102 dd_X12_things_48 rfl ?_
          refine g_iloadn (pc := 51) (i := 1) (x := sf) hK dd_X12_things_51 rfl rfl ?_
          refine g_iald (pc := 52) hK (kdm kd_202) nl_202 (by decide) dd_X12_things_52 (by omega) (by omega) (fun x14 ex14 rx14 => ?_)
          refine g_icmp_le (pc := 53) (tgt := 63) hK dd_X12_things_53 (by decide) h_n rx14 (fun c15 => ?_) (fun c15 => ?_)
          · refine g_iconst (pc := 63) (x := 0) hK dd_X12_things_63 (by decide) ?_
            refine g_istore (pc := 64) (i := 5) (L' := [(0, gR 200), (1, gI sf), (2, gI k), (3, gI n), (4, gI 0), (5, gI 0)]) hK dd_X12_things_64 (by decide) rfl ?_
            have lp18 : ∀ (n16 : Nat) (i : Int), (0 ≤ i ∧ i ≤ n) → (∀ j : Nat, (j : Int) < i → 0 ≤ (fun z => M 203 (40 * sf.toNat + z)) j ∧ (fun z => M 203 (40 * sf.toNat + z)) j ≤ 999) → (M 200 3 + i ≤ 30) → (n - i).toNat < n16 → G p l e (rmD 3) s m args below meth c D cy q A 0 0 8 (MQ below (gQc D cy q A Pq) args s 0 0 A) 66 [(0, gR 200), (1, gI sf), (2, gI k), (3, gI n), (4, gI 0), (5, gI i)] [] (thsR M (fun z => M 203 (40 * sf.toNat + z)) k i.toNat) := by
              intro n16
              induction n16 with
              | zero => intro i iv19 hall_ iv20 hm21; exact absurd hm21 (Nat.not_lt_zero _)
              | succ n16 ih17 =>
                intro i iv19 hall_ iv20 hm21
                refine g_iload (pc := 66) (i := 5) (x := i) hK dd_X12_things_66 rfl ?_
                refine g_iloadn (pc := 68) (i := 3) (x := n) hK dd_X12_things_68 rfl rfl ?_
                refine g_icmp_ge (pc := 69) (tgt := 130) hK dd_X12_things_69 (by decide) ⟨by omega, by omega⟩ h_n (fun c22 => ?_) (fun c22 => ?_)
                · refine g_iload (pc := 130) (i := 5) (x := i) hK dd_X12_things_130 rfl ?_
                  refine g_iret (pc := 132) hK hr hlocks dd_X12_things_132 rfl ?_
                  exact g_fin (hY i (by exact ⟨by omega, by omega, hall_, fun q_ => by first | omega | (left; show ¬ (0 ≤ M 203 (40 * sf.toNat + i.toNat) ∧ M 203 (40 * sf.toNat + i.toNat) ≤ 999); omega), by omega⟩)) (by omega) (by rfl)
                · refine g_aloadn (pc := 72) (i := 0) (x := 200) hK dd_X12_things_72 rfl rfl ?_
                  refine g_geti (pc := 73) (f := (0, 0)) (j := 3) hK (kdm kd_200) rfl ef_12 (by decide) rfl kk_1104 nl_200 dd_X12_things_73 rfl (fun x23 ex23 rx23 => ?_)
                  rw [thsR_c] at ex23
                  refine g_bipush (pc := 76) (x := 30) hK dd_X12_things_76 (by decide) ?_
                  refine g_icmp_ge (pc := 78) (tgt := 130) hK dd_X12_things_78 (by decide) rx23 (by decide) (fun c24 => ?_) (fun c24 => ?_)
                  · refine g_iload (pc := 130) (i := 5) (x := i) hK dd_X12_things_130 rfl ?_
                    refine g_iret (pc := 132) hK hr hlocks dd_X12_things_132 rfl ?_
                    exact g_fin (hY i (by exact ⟨by omega, by omega, hall_, fun q_ => by first | omega | (left; show ¬ (0 ≤ M 203 (40 * sf.toNat + i.toNat) ∧ M 203 (40 * sf.toNat + i.toNat) ≤ 999); omega), by omega⟩)) (by omega) (by rfl)
                  · refine g_aloadn (pc := 81) (i := 0) (x := 200) hK dd_X12_things_81 rfl rfl ?_
                    refine g_getv (pc := 82) (f := (1, 3)) (j := 2) (v := gR 203) hK (kdm kd_200) rfl ef_12 (by decide) rfl kk_1103 dd_X12_things_82 rfl ?_
                    refine g_bipush (pc := 85) (x := 40) hK dd_X12_things_85 (by decide) ?_
                    refine g_iloadn (pc := 87) (i := 1) (x := sf) hK dd_X12_things_87 rfl rfl ?_
                    refine g_imul (pc := 88) (z := 40 * sf) hK dd_X12_things_88 rfl ?_
                    refine g_iload (pc := 89) (i := 5) (x := i) hK dd_X12_things_89 rfl ?_
                    refine g_iadd (pc := 91) (z := (40 * sf) + i) hK dd_X12_things_91 rfl ?_
                    refine g_lald (pc := 92) hK (kdm kd_203) yl_203 (by decide) dd_X12_things_92 (by omega) (by omega) (fun x25 ex25 rx25 => ?_)
                    rw [thsR_o _ _ _ (by decide)] at ex25
                    have hw_ : x25 = M 203 (40 * sf.toNat + i.toNat) := by rw [ex25, show (40 * sf + i).toNat = 40 * sf.toNat + i.toNat by omega]
                    refine g_lstore (pc := 93) (i := 6) (L' := [(0, gR 200), (1, gI sf), (2, gI k), (3, gI n), (4, gI 0), (5, gI i), (6, gL x25)]) hK dd_X12_things_93 (by decide) rfl ?_
                    refine g_lload (pc := 95) (i := 6) (x := x25) hK dd_X12_things_95 rfl ?_
                    refine g_lconst (pc := 97) (x := 0) hK dd_X12_things_97 (by decide) ?_
                    rcases Int.lt_trichotomy x25 0 with c26 | c27 | c28
                    · refine g_lcmp (pc := 98) (z := (-1)) hK dd_X12_things_98 rx25 (by decide) (by rw [if_neg (by omega), if_neg (by omega)]) ?_
                      refine g_if_lt (pc := 99) (tgt := 130) hK dd_X12_things_99 (by decide) (by decide) (fun _ => ?_) (fun c29 => absurd (by decide) c29)
                      refine g_iload (pc := 130) (i := 5) (x := i) hK dd_X12_things_130 rfl ?_
                      refine g_iret (pc := 132) hK hr hlocks dd_X12_things_132 rfl ?_
                      exact g_fin (hY i (by exact ⟨by omega, by omega, hall_, fun q_ => by first | omega | (left; show ¬ (0 ≤ M 203 (40 * sf.toNat + i.toNat) ∧ M 203 (40 * sf.toNat + i.toNat) ≤ 999); omega), by omega⟩)) (by omega) (by rfl)
                    · refine g_lcmp (pc := 98) (z := 0) hK dd_X12_things_98 rx25 (by decide) (by rw [if_neg (by omega), if_pos c27]) ?_
                      refine g_if_lt (pc := 99) (tgt := 130) hK dd_X12_things_99 (by decide) (by decide) (fun c30 => absurd c30 (by decide)) (fun _ => ?_)
                      refine g_lload (pc := 102) (i := 6) (x := x25) hK dd_X12_things_102 rfl ?_
                      refine g_ldc2 (pc := 104) (x := 999) hK kk_1336 dd_X12_things_104 (by decide) ?_
                      rcases Int.lt_trichotomy x25 999 with c31 | c32 | c33
                      · refine g_lcmp (pc := 107) (z := (-1)) hK dd_X12_things_107 rx25 (by decide) (by rw [if_neg (by omega), if_neg (by omega)]) ?_
                        refine g_if_le (pc := 108) (tgt := 114) hK dd_X12_things_108 (by decide) (by decide) (fun _ => ?_) (fun c34 => absurd (by decide) c34)
                        refine g_aloadn (pc := 114) (i := 0) (x := 200) hK dd_X12_things_114 rfl rfl ?_
                        refine g_iloadn (pc := 115) (i := 2) (x := k) hK dd_X12_things_115 rfl rfl ?_
                        refine g_lload (pc := 116) (i := 6) (x := x25) hK dd_X12_things_116 rfl ?_
                        refine g_l2i (pc := 118) (z := x25) hK dd_X12_things_118 (rfl) ?_
                        refine g_iconst (pc := 119) (x := 0) hK dd_X12_things_119 (by decide) ?_
                        refine g_callV (pc := 120) (As := [gI k, gI x25, gI 0]) hK ws_M_186 md_X12_thing ⟨Nat.zero_le _, Nat.zero_le _⟩ ⟨by decide, by decide⟩ (kdm kd_200) rfl rfl dd_X12_things_120 rfl rfl (Nat.le_of_ble_eq_true rfl) (y_thing k x25 0 h_k ⟨by omega, by omega⟩ (by decide) (rgOK_ths hrg) (by rw [thsR_c]; omega) (fun c35 => g_r1 ?_) (fun c36 => g_r1 ?_) (fun c37 => g_r1 ?_))
                        · exfalso; omega
                        · exfalso
                          rw [thsR_c] at c36
                          omega
                        · refine g_topI (fun y38 ey38 => ?_)
                          refine g_pop (pc := 123) hK dd_X12_things_123 rfl ?_
                          refine g_iinc (pc := 124) (i := 5) (y := i + 1) (L' := [(0, gR 200), (1, gI sf), (2, gI k), (3, gI n), (4, gI 0), (5, gI (i + 1)), (6, gL x25)]) hK dd_X12_things_124 rfl rfl (by decide) rfl ?_
                          refine g_goto (pc := 127) (tgt := 66) hK dd_X12_things_127 (by decide) ?_
                          refine g_sub (L' := [(0, gR 200), (1, gI sf), (2, gI k), (3, gI n), (4, gI 0), (5, gI (i + 1))]) [0, 1, 2, 3, 4, 5] rfl ?_
                          refine g_mem (M2 := thsR M (fun z => M 203 (40 * sf.toNat + z)) k (i + 1).toNat) (by rw [tn1 (by omega)]; show _ = addM _ k (M 203 (40 * sf.toNat + i.toNat)) 0; rw [← hw_]) ?_
                          exact ih17 (i + 1) (by omega) (fun j hj => by
                            by_cases e : (j : Int) = i
                            · show 0 ≤ M 203 (40 * sf.toNat + j) ∧ M 203 (40 * sf.toNat + j) ≤ 999
                              rw [show j = i.toNat by omega, ← hw_]; omega
                            · exact hall_ j (by omega)) (by omega) (by omega)
                      · refine g_lcmp (pc := 107) (z := 0) hK dd_X12_things_107 rx25 (by decide) (by rw [if_neg (by omega), if_pos c32]) ?_
                        refine g_if_le (pc := 108) (tgt := 114) hK dd_X12_things_108 (by decide) (by decide) (fun _ => ?_) (fun c39 => absurd (by decide) c39)
                        refine g_aloadn (pc := 114) (i := 0) (x := 200) hK dd_X12_things_114 rfl rfl ?_
                        refine g_iloadn (pc := 115) (i := 2) (x := k) hK dd_X12_things_115 rfl rfl ?_
                        refine g_lload (pc := 116) (i := 6) (x := x25) hK dd_X12_things_116 rfl ?_
                        refine g_l2i (pc := 118) (z := x25) hK dd_X12_things_118 (rfl) ?_
                        refine g_iconst (pc := 119) (x := 0) hK dd_X12_things_119 (by decide) ?_
                        refine g_callV (pc := 120) (As := [gI k, gI x25, gI 0]) hK ws_M_186 md_X12_thing ⟨Nat.zero_le _, Nat.zero_le _⟩ ⟨by decide, by decide⟩ (kdm kd_200) rfl rfl dd_X12_things_120 rfl rfl (Nat.le_of_ble_eq_true rfl) (y_thing k x25 0 h_k ⟨by omega, by omega⟩ (by decide) (rgOK_ths hrg) (by rw [thsR_c]; omega) (fun c40 => g_r1 ?_) (fun c41 => g_r1 ?_) (fun c42 => g_r1 ?_))
                        · exfalso; omega
                        · exfalso
                          rw [thsR_c] at c41
                          omega
                        · refine g_topI (fun y43 ey43 => ?_)
                          refine g_pop (pc := 123) hK dd_X12_things_123 rfl ?_
                          refine g_iinc (pc := 124) (i := 5) (y := i + 1) (L' := [(0, gR 200), (1, gI sf), (2, gI k), (3, gI n), (4, gI 0), (5, gI (i + 1)), (6, gL x25)]) hK dd_X12_things_124 rfl rfl (by decide) rfl ?_
                          refine g_goto (pc := 127) (tgt := 66) hK dd_X12_things_127 (by decide) ?_
                          refine g_sub (L' := [(0, gR 200), (1, gI sf), (2, gI k), (3, gI n), (4, gI 0), (5, gI (i + 1))]) [0, 1, 2, 3, 4, 5] rfl ?_
                          refine g_mem (M2 := thsR M (fun z => M 203 (40 * sf.toNat + z)) k (i + 1).toNat) (by rw [tn1 (by omega)]; show _ = addM _ k (M 203 (40 * sf.toNat + i.toNat)) 0; rw [← hw_]) ?_
                          exact ih17 (i + 1) (by omega) (fun j hj => by
                            by_cases e : (j : Int) = i
                            · show 0 ≤ M 203 (40 * sf.toNat + j) ∧ M 203 (40 * sf.toNat + j) ≤ 999
                              rw [show j = i.toNat by omega, ← hw_]; omega
                            · exact hall_ j (by omega)) (by omega) (by omega)
                      · refine g_lcmp (pc := 107) (z := 1) hK dd_X12_things_107 rx25 (by decide) (by rw [if_pos (by omega)]) ?_
                        refine g_if_le (pc := 108) (tgt := 114) hK dd_X12_things_108 (by decide) (by decide) (fun c44 => absurd c44 (by decide)) (fun _ => ?_)
                        refine g_goto (pc := 111) (tgt := 130) hK dd_X12_things_111 (by decide) ?_
                        refine g_iload (pc := 130) (i := 5) (x := i) hK dd_X12_things_130 rfl ?_
                        refine g_iret (pc := 132) hK hr hlocks dd_X12_things_132 rfl ?_
                        exact g_fin (hY i (by exact ⟨by omega, by omega, hall_, fun q_ => by first | omega | (left; show ¬ (0 ≤ M 203 (40 * sf.toNat + i.toNat) ∧ M 203 (40 * sf.toNat + i.toNat) ≤ 999); omega), by omega⟩)) (by omega) (by rfl)
                    · refine g_lcmp (pc := 98) (z := 1) hK dd_X12_things_98 rx25 (by decide) (by rw [if_pos (by omega)]) ?_
                      refine g_if_lt (pc := 99) (tgt := 130) hK dd_X12_things_99 (by decide) (by decide) (fun c45 => absurd c45 (by decide)) (fun _ => ?_)
                      refine g_lload (pc := 102) (i := 6) (x := x25) hK dd_X12_things_102 rfl ?_
                      refine g_ldc2 (pc := 104) (x := 999) hK kk_1336 dd_X12_things_104 (by decide) ?_
                      rcases Int.lt_trichotomy x25 999 with c46 | c47 | c48
                      · refine g_lcmp (pc := 107) (z := (-1)) hK dd_X12_things_107 rx25 (by decide) (by rw [if_neg (by omega), if_neg (by omega)]) ?_
                        refine g_if_le (pc := 108) (tgt := 114) hK dd_X12_things_108 (by decide) (by decide) (fun _ => ?_) (fun c49 => absurd (by decide) c49)
                        refine g_aloadn (pc := 114) (i := 0) (x := 200) hK dd_X12_things_114 rfl rfl ?_
                        refine g_iloadn (pc := 115) (i := 2) (x := k) hK dd_X12_things_115 rfl rfl ?_
                        refine g_lload (pc := 116) (i := 6) (x := x25) hK dd_X12_things_116 rfl ?_
                        refine g_l2i (pc := 118) (z := x25) hK dd_X12_things_118 (rfl) ?_
                        refine g_iconst (pc := 119) (x := 0) hK dd_X12_things_119 (by decide) ?_
                        refine g_callV (pc := 120) (As := [gI k, gI x25, gI 0]) hK ws_M_186 md_X12_thing ⟨Nat.zero_le _, Nat.zero_le _⟩ ⟨by decide, by decide⟩ (kdm kd_200) rfl rfl dd_X12_things_120 rfl rfl (Nat.le_of_ble_eq_true rfl) (y_thing k x25 0 h_k ⟨by omega, by omega⟩ (by decide) (rgOK_ths hrg) (by rw [thsR_c]; omega) (fun c50 => g_r1 ?_) (fun c51 => g_r1 ?_) (fun c52 => g_r1 ?_))
                        · exfalso; omega
                        · exfalso
                          rw [thsR_c] at c51
                          omega
                        · refine g_topI (fun y53 ey53 => ?_)
                          refine g_pop (pc := 123) hK dd_X12_things_123 rfl ?_
                          refine g_iinc (pc := 124) (i := 5) (y := i + 1) (L' := [(0, gR 200), (1, gI sf), (2, gI k), (3, gI n), (4, gI 0), (5, gI (i + 1)), (6, gL x25)]) hK dd_X12_things_124 rfl rfl (by decide) rfl ?_
                          refine g_goto (pc := 127) (tgt := 66) hK dd_X12_things_127 (by decide) ?_
                          refine g_sub (L' := [(0, gR 200), (1, gI sf), (2, gI k), (3, gI n), (4, gI 0), (5, gI (i + 1))]) [0, 1, 2, 3, 4, 5] rfl ?_
                          refine g_mem (M2 := thsR M (fun z => M 203 (40 * sf.toNat + z)) k (i + 1).toNat) (by rw [tn1 (by omega)]; show _ = addM _ k (M 203 (40 * sf.toNat + i.toNat)) 0; rw [← hw_]) ?_
                          exact ih17 (i + 1) (by omega) (fun j hj => by
                            by_cases e : (j : Int) = i
                            · show 0 ≤ M 203 (40 * sf.toNat + j) ∧ M 203 (40 * sf.toNat + j) ≤ 999
                              rw [show j = i.toNat by omega, ← hw_]; omega
                            · exact hall_ j (by omega)) (by omega) (by omega)
                      · refine g_lcmp (pc := 107) (z := 0) hK dd_X12_things_107 rx25 (by decide) (by rw [if_neg (by omega), if_pos c47]) ?_
                        refine g_if_le (pc := 108) (tgt := 114) hK dd_X12_things_108 (by decide) (by decide) (fun _ => ?_) (fun c54 => absurd (by decide) c54)
                        refine g_aloadn (pc := 114) (i := 0) (x := 200) hK dd_X12_things_114 rfl rfl ?_
                        refine g_iloadn (pc := 115) (i := 2) (x := k) hK dd_X12_things_115 rfl rfl ?_
                        refine g_lload (pc := 116) (i := 6) (x := x25) hK dd_X12_things_116 rfl ?_
                        refine g_l2i (pc := 118) (z := x25) hK dd_X12_things_118 (rfl) ?_
                        refine g_iconst (pc := 119) (x := 0) hK dd_X12_things_119 (by decide) ?_
                        refine g_callV (pc := 120) (As := [gI k, gI x25, gI 0]) hK ws_M_186 md_X12_thing ⟨Nat.zero_le _, Nat.zero_le _⟩ ⟨by decide, by decide⟩ (kdm kd_200) rfl rfl dd_X12_things_120 rfl rfl (Nat.le_of_ble_eq_true rfl) (y_thing k x25 0 h_k ⟨by omega, by omega⟩ (by decide) (rgOK_ths hrg) (by rw [thsR_c]; omega) (fun c55 => g_r1 ?_) (fun c56 => g_r1 ?_) (fun c57 => g_r1 ?_))
                        · exfalso; omega
                        · exfalso
                          rw [thsR_c] at c56
                          omega
                        · refine g_topI (fun y58 ey58 => ?_)
                          refine g_pop (pc := 123) hK dd_X12_things_123 rfl ?_
                          refine g_iinc (pc := 124) (i := 5) (y := i + 1) (L' := [(0, gR 200), (1, gI sf), (2, gI k), (3, gI n), (4, gI 0), (5, gI (i + 1)), (6, gL x25)]) hK dd_X12_things_124 rfl rfl (by decide) rfl ?_
                          refine g_goto (pc := 127) (tgt := 66) hK dd_X12_things_127 (by decide) ?_
                          refine g_sub (L' := [(0, gR 200), (1, gI sf), (2, gI k), (3, gI n), (4, gI 0), (5, gI (i + 1))]) [0, 1, 2, 3, 4, 5] rfl ?_
                          refine g_mem (M2 := thsR M (fun z => M 203 (40 * sf.toNat + z)) k (i + 1).toNat) (by rw [tn1 (by omega)]; show _ = addM _ k (M 203 (40 * sf.toNat + i.toNat)) 0; rw [← hw_]) ?_
                          exact ih17 (i + 1) (by omega) (fun j hj => by
                            by_cases e : (j : Int) = i
                            · show 0 ≤ M 203 (40 * sf.toNat + j) ∧ M 203 (40 * sf.toNat + j) ≤ 999
                              rw [show j = i.toNat by omega, ← hw_]; omega
                            · exact hall_ j (by omega)) (by omega) (by omega)
                      · refine g_lcmp (pc := 107) (z := 1) hK dd_X12_things_107 rx25 (by decide) (by rw [if_pos (by omega)]) ?_
                        refine g_if_le (pc := 108) (tgt := 114) hK dd_X12_things_108 (by decide) (by decide) (fun c59 => absurd c59 (by decide)) (fun _ => ?_)
                        refine g_goto (pc := 111) (tgt := 130) hK dd_X12_things_111 (by decide) ?_
                        refine g_iload (pc := 130) (i := 5) (x := i) hK dd_X12_things_130 rfl ?_
                        refine g_iret (pc := 132) hK hr hlocks dd_X12_things_132 rfl ?_
                        exact g_fin (hY i (by exact ⟨by omega, by omega, hall_, fun q_ => by first | omega | (left; show ¬ (0 ≤ M 203 (40 * sf.toNat + i.toNat) ∧ M 203 (40 * sf.toNat + i.toNat) ≤ 999); omega), by omega⟩)) (by omega) (by rfl)
            refine g_mem (M2 := thsR M (fun z => M 203 (40 * sf.toNat + z)) k (0 : Int).toNat) (rfl) ?_
            refine g_sub (L' := [(0, gR 200), (1, gI sf), (2, gI k), (3, gI n), (4, gI 0), (5, gI 0)]) [0, 1, 2, 3, 4, 5] rfl ?_
            exact lp18 _ 0 (by omega) (fun j hj => absurd hj (by omega)) (by omega) (Nat.lt_succ_self _)
          · refine g_aloadn (pc := 56) (i := 0) (x := 200) hK dd_X12_things_56 rfl rfl ?_
            refine g_bipush (pc := 57) (x := (-2)) hK dd_X12_things_57 (by decide) ?_
            refine g_callV (pc := 59) (As := [gI (-2)]) hK ws_M_152 md_X12_no ⟨Nat.zero_le _, Nat.zero_le _⟩ ⟨by decide, by decide⟩ (kdm kd_200) rfl rfl dd_X12_things_59 rfl rfl (Nat.le_of_ble_eq_true rfl) (d_no_2 hrg (g_r1 ?_))
            refine g_iret (pc := 62) hK hr hlocks dd_X12_things_62 rfl ?_
            first | exact g_fin (hB (by first | omega | (subst_vars; omega) | exact ⟨by first | assumption | omega | (subst_vars; first | assumption | omega), by first | assumption | omega | (subst_vars; first | assumption | omega)⟩)) (by first | rfl | omega | (subst_vars; first | rfl | omega)) (by first | rfl | (subst_vars; rfl)) | exact g_fin (hI (by first | omega | (subst_vars; omega) | exact ⟨by first | assumption | omega | (subst_vars; first | assumption | omega), by first | assumption | omega | (subst_vars; first | assumption | omega)⟩)) (by first | rfl | omega | (subst_vars; first | rfl | omega)) (by first | rfl | (subst_vars; rfl)) | exact g_fin (hY i (by exact ⟨by omega, by omega, hall_, fun q_ => by first | omega | (left; show ¬ (0 ≤ M 203 (40 * sf.toNat + i.toNat) ∧ M 203 (40 * sf.toNat + i.toNat) ≤ 999); omega), by omega⟩)) (by omega) (by rfl) | (exfalso; omega)
    · refine g_if_ne (pc := 13) (tgt := 23) hK dd_X12_things_13 (by decide) (by decide) (fun c60 => absurd c60 (by decide)) (fun _ => ?_)
      refine g_aloadn (pc := 16) (i := 0) (x := 200) hK dd_X12_things_16 rfl rfl ?_
      refine g_bipush (pc := 17) (x := (-2)) hK dd_X12_things_17 (by decide) ?_
      refine g_callV (pc := 19) (As := [gI (-2)]) hK ws_M_152 md_X12_no ⟨Nat.zero_le _, Nat.zero_le _⟩ ⟨by decide, by decide⟩ (kdm kd_200) rfl rfl dd_X12_things_19 rfl rfl (Nat.le_of_ble_eq_true rfl) (d_no_2 hrg (g_r1 ?_))
      refine g_iret (pc := 22) hK hr hlocks dd_X12_things_22 rfl ?_
      first | exact g_fin (hB (by first | omega | (subst_vars; omega) | exact ⟨by first | assumption | omega | (subst_vars; first | assumption | omega), by first | assumption | omega | (subst_vars; first | assumption | omega)⟩)) (by first | rfl | omega | (subst_vars; first | rfl | omega)) (by first | rfl | (subst_vars; rfl)) | exact g_fin (hI (by first | omega | (subst_vars; omega) | exact ⟨by first | assumption | omega | (subst_vars; first | assumption | omega), by first | assumption | omega | (subst_vars; first | assumption | omega)⟩)) (by first | rfl | omega | (subst_vars; first | rfl | omega)) (by first | rfl | (subst_vars; rfl)) | exact g_fin (hY i (by exact ⟨by omega, by omega, hall_, fun q_ => by first | omega | (left; show ¬ (0 ≤ M 203 (40 * sf.toNat + i.toNat) ∧ M 203 (40 * sf.toNat + i.toNat) ≤ 999); omega), by omega⟩)) (by omega) (by rfl) | (exfalso; omega)
  · refine g_if_eq (pc := 5) (tgt := 16) hK dd_X12_things_5 (by decide) (by decide) (fun _ => ?_) (fun c61 => absurd (by decide) c61)
    refine g_aloadn (pc := 16) (i := 0) (x := 200) hK dd_X12_things_16 rfl rfl ?_
    refine g_bipush (pc := 17) (x := (-2)) hK dd_X12_things_17 (by decide) ?_
    refine g_callV (pc := 19) (As := [gI (-2)]) hK ws_M_152 md_X12_no ⟨Nat.zero_le _, Nat.zero_le _⟩ ⟨by decide, by decide⟩ (kdm kd_200) rfl rfl dd_X12_things_19 rfl rfl (Nat.le_of_ble_eq_true rfl) (d_no_2 hrg (g_r1 ?_))
    refine g_iret (pc := 22) hK hr hlocks dd_X12_things_22 rfl ?_
    first | exact g_fin (hB (by first | omega | (subst_vars; omega) | exact ⟨by first | assumption | omega | (subst_vars; first | assumption | omega), by first | assumption | omega | (subst_vars; first | assumption | omega)⟩)) (by first | rfl | omega | (subst_vars; first | rfl | omega)) (by first | rfl | (subst_vars; rfl)) | exact g_fin (hI (by first | omega | (subst_vars; omega) | exact ⟨by first | assumption | omega | (subst_vars; first | assumption | omega), by first | assumption | omega | (subst_vars; first | assumption | omega)⟩)) (by first | rfl | omega | (subst_vars; first | rfl | omega)) (by first | rfl | (subst_vars; rfl)) | exact g_fin (hY i (by exact ⟨by omega, by omega, hall_, fun q_ => by first | omega | (left; show ¬ (0 ≤ M 203 (40 * sf.toNat + i.toNat) ∧ M 203 (40 * sf.toNat + i.toNat) ≤ 999); omega), by omega⟩)) (by omega) (by rfl) | (exfalso; omega)
