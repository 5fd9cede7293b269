set_option maxHeartbeats 4000000 in
set_option maxRecDepth 100000 in
theorem y_copy {l : Launch} {M : Mem} {Pq : Option gV → Mem → Prop} (sp : Int) (sq : Int) (i : Int) (j : Int) (n : Int) (h_sp : inI sp) (h_sq : inI sq) (h_i : inI i) (h_j : inI j) (h_n : inI n) (hrg : rgOK M) (hho : hoOK M) (hmc : 0 ≤ M 200 3 ∧ M 200 3 ≤ 30) (hB : (¬ ((0 ≤ sp ∧ sp < 8) ∧ 0 ≤ sq ∧ sq < 8)) → Pq (some (gI (-2))) (rg M 2)) (hO : (((0 ≤ sp ∧ sp < 8) ∧ 0 ≤ sq ∧ sq < 8) ∧ ((0 ≤ M 201 sp.toNat ∧ M 201 sp.toNat < 100) ∨ (0 ≤ M 201 sq.toNat ∧ M 201 sq.toNat < 100) ∨ (100 ≤ M 201 sp.toNat ∧ 100 ≤ M 201 sq.toNat ∧ ¬ M 201 sp.toNat = M 201 sq.toNat))) → Pq (some (gI (-3))) (rg M 3)) (hN : (((0 ≤ sp ∧ sp < 8) ∧ 0 ≤ sq ∧ sq < 8) ∧ ¬ ((0 ≤ M 201 sp.toNat ∧ M 201 sp.toNat < 100) ∨ (0 ≤ M 201 sq.toNat ∧ M 201 sq.toNat < 100) ∨ (100 ≤ M 201 sp.toNat ∧ 100 ≤ M 201 sq.toNat ∧ ¬ M 201 sp.toNat = M 201 sq.toNat)) ∧ (M 201 sp.toNat < 0 ∨ M 201 sq.toNat < 0)) → Pq (some (gI (-4))) (rg M 4)) (hP : (((0 ≤ sp ∧ sp < 8) ∧ 0 ≤ sq ∧ sq < 8) ∧ ¬ ((0 ≤ M 201 sp.toNat ∧ M 201 sp.toNat < 100) ∨ (0 ≤ M 201 sq.toNat ∧ M 201 sq.toNat < 100) ∨ (100 ≤ M 201 sp.toNat ∧ 100 ≤ M 201 sq.toNat ∧ ¬ M 201 sp.toNat = M 201 sq.toNat)) ∧ ¬ (M 201 sp.toNat < 0 ∨ M 201 sq.toNat < 0) ∧ ¬ (0 ≤ n ∧ 0 ≤ i ∧ 0 ≤ j ∧ i + n ≤ M 202 sp.toNat ∧ j + n ≤ M 202 sq.toNat)) → Pq (some (gI (-2))) (rg M 2)) (hY : (((0 ≤ sp ∧ sp < 8) ∧ 0 ≤ sq ∧ sq < 8) ∧ ¬ ((0 ≤ M 201 sp.toNat ∧ M 201 sp.toNat < 100) ∨ (0 ≤ M 201 sq.toNat ∧ M 201 sq.toNat < 100) ∨ (100 ≤ M 201 sp.toNat ∧ 100 ≤ M 201 sq.toNat ∧ ¬ M 201 sp.toNat = M 201 sq.toNat)) ∧ ¬ (M 201 sp.toNat < 0 ∨ M 201 sq.toNat < 0) ∧ (0 ≤ n ∧ 0 ≤ i ∧ 0 ≤ j ∧ i + n ≤ M 202 sp.toNat ∧ j + n ≤ M 202 sq.toNat)) → Pq (some (gI n)) (cp M 203 (M 203) (40 * sp + i).toNat (40 * sq + j).toNat n.toNat)) : gCtr l my_X12_copy mb_X12_copy 7 ((some .int)) 2 [gR 200, gI sp, gI sq, gI i, gI j, gI n] M Pq := by
  refine g_intro (by decide) (Nat.le_of_ble_eq_true rfl) ?_
  intro p e s m args below meth c D cy q A hK hr hlocks hw
  refine g_sub (L' := [(0, gR 200), (1, gI sp), (2, gI sq), (3, gI i), (4, gI j), (5, gI n)]) [0, 1, 2, 3, 4, 5] rfl ?_
  refine g_aloadn (pc := 0) (i := 0) (x := 200) hK dd_X12_copy_0 rfl rfl ?_
  refine g_iloadn (pc := 1) (i := 1) (x := sp) hK dd_X12_copy_1 rfl rfl ?_
  refine g_callV (pc := 2) (As := [gI sp]) hK ws_M_148 md_X12_isShelf ⟨Nat.zero_le _, Nat.zero_le _⟩ ⟨by decide, by decide⟩ (kdm kd_200) rfl rfl dd_X12_copy_2 rfl rfl (Nat.le_of_ble_eq_true rfl) (d_isShelf sp h_sp (fun c1 => g_r1 ?_) (fun c1 => g_r1 ?_))
  · refine g_if_eq (pc := 5) (tgt := 16) hK dd_X12_copy_5 (by decide) (by decide) (fun c2 => absurd c2 (by decide)) (fun _ => ?_)
    refine g_aloadn (pc := 8) (i := 0) (x := 200) hK dd_X12_copy_8 rfl rfl ?_
    refine g_iloadn (pc := 9) (i := 2) (x := sq) hK dd_X12_copy_9 rfl rfl ?_
    refine g_callV (pc := 10) (As := [gI sq]) hK ws_M_148 md_X12_isShelf ⟨Nat.zero_le _, Nat.zero_le _⟩ ⟨by decide, by decide⟩ (kdm kd_200) rfl rfl dd_X12_copy_10 rfl rfl (Nat.le_of_ble_eq_true rfl) (d_isShelf sq h_sq (fun c3 => g_r1 ?_) (fun c3 => g_r1 ?_))
    · refine g_if_ne (pc := 13) (tgt := 23) hK dd_X12_copy_13 (by decide) (by decide) (fun _ => ?_) (fun c4 => absurd (by decide) c4)
      have hs1_ := hho sp.toNat (by omega)
      have hs2_ := hho sq.toNat (by omega)
      refine g_aloadn (pc := 23) (i := 0) (x := 200) hK dd_X12_copy_23 rfl rfl ?_
      refine g_iloadn (pc := 24) (i := 1) (x := sp) hK dd_X12_copy_24 rfl rfl ?_
      refine g_callV (pc := 25) (As := [gI sp]) hK ws_M_156 md_X12_holdsThing ⟨Nat.zero_le _, Nat.zero_le _⟩ ⟨by decide, by decide⟩ (kdm kd_200) rfl rfl dd_X12_copy_25 rfl rfl (Nat.le_of_ble_eq_true rfl) (d_holdsThing sp (by omega) (by omega) (fun c5 => g_r1 ?_) (fun c5 => g_r1 ?_))
      · refine g_if_ne (pc := 28) (tgt := 70) hK dd_X12_copy_28 (by decide) (by decide) (fun _ => ?_) (fun c6 => absurd (by decide) c6)
        refine g_aloadn (pc := 70) (i := 0) (x := 200) hK dd_X12_copy_70 rfl rfl ?_
        refine g_bipush (pc := 71) (x := (-3)) hK dd_X12_copy_71 (by decide) ?_
        refine g_callV (pc := 73) (As := [gI (-3)]) hK ws_M_152 md_X12_no ⟨Nat.zero_le _, Nat.zero_le _⟩ ⟨by decide, by decide⟩ (kdm kd_200) rfl rfl dd_X12_copy_73 rfl rfl (Nat.le_of_ble_eq_true rfl) (d_no_3 hrg (g_r1 ?_))
        refine g_iret (pc := 76) hK hr hlocks dd_X12_copy_76 rfl ?_
        first | exact g_fin (hO (by first | omega | (subst_vars; omega) | exact ⟨by first | assumption | omega | (subst_vars; first | assumption | omega), by first | assumption | omega | (subst_vars; first | assumption | omega)⟩)) (by first | rfl | omega | (subst_vars; first | rfl | omega)) (by first | rfl | (subst_vars; rfl)) | exact g_fin (hY (by first | omega | (subst_vars; omega) | exact ⟨by first | assumption | omega | (subst_vars; first | assumption | omega), by first | assumption | omega | (subst_vars; first | assumption | omega)⟩)) (by first | rfl | omega | (subst_vars; first | rfl | omega)) (by rw [show ki = n by omega]) | (exfalso; omega)
      · refine g_if_ne (pc := 28) (tgt := 70) hK dd_X12_copy_28 (by decide) (by decide) (fun c7 => absurd c7 (by decide)) (fun _ => ?_)
        refine g_aloadn (pc := 31) (i := 0) (x := 200) hK dd_X12_copy_31 rfl rfl ?_
        refine g_iloadn (pc := 32) (i := 2) (x := sq) hK dd_X12_copy_32 rfl rfl ?_
        refine g_callV (pc := 33) (As := [gI sq]) hK ws_M_156 md_X12_holdsThing ⟨Nat.zero_le _, Nat.zero_le _⟩ ⟨by decide, by decide⟩ (kdm kd_200) rfl rfl dd_X12_copy_33 rfl rfl (Nat.le_of_ble_eq_true rfl) (d_holdsThing sq (by omega) (by omega) (fun c8 => g_r1 ?_) (fun c8 => g_r1 ?_))
        · refine g_if_ne (pc := 36) (tgt := 70) hK dd_X12_copy_36 (by decide) (by decide) (fun _ => ?_) (fun c9 => absurd (by decide) c9)
          refine g_aloadn (pc := 70) (i := 0) (x := 200) hK dd_X12_copy_70 rfl rfl ?_
          refine g_bipush (pc := 71) (x := (-3)) hK dd_X12_copy_71 (by decide) ?_
          refine g_callV (pc := 73) (As := [gI (-3)]) hK ws_M_152 md_X12_no ⟨Nat.zero_le _, Nat.zero_le _⟩ ⟨by decide, by decide⟩ (kdm kd_200) rfl rfl dd_X12_copy_73 rfl rfl (Nat.le_of_ble_eq_true rfl) (d_no_3 hrg (g_r1 ?_))
          refine g_iret (pc := 76) hK hr hlocks dd_X12_copy_76 rfl ?_
          first | exact g_fin (hO (by first | omega | (subst_vars; omega) | exact ⟨by first | assumption | omega | (subst_vars; first | assumption | omega), by first | assumption | omega | (subst_vars; first | assumption | omega)⟩)) (by first | rfl | omega | (subst_vars; first | rfl | omega)) (by first | rfl | (subst_vars; rfl)) | exact g_fin (hY (by first | omega | (subst_vars; omega) | exact ⟨by first | assumption | omega | (subst_vars; first | assumption | omega), by first | assumption | omega | (subst_vars; first | assumption | omega)⟩)) (by first | rfl | omega | (subst_vars; first | rfl | omega)) (by rw [show ki = n by omega]) | (exfalso; omega)
        · refine g_if_ne (pc := 36) (tgt := 70) hK dd_X12_copy_36 (by decide) (by decide) (fun c10 => absurd c10 (by decide)) (fun _ => ?_)
          refine g_aloadn (pc := 39) (i := 0) (x := 200) hK dd_X12_copy_39 rfl rfl ?_
          refine g_iloadn (pc := 40) (i := 1) (x := sp) hK dd_X12_copy_40 rfl rfl ?_
          refine g_callV (pc := 41) (As := [gI sp]) hK ws_M_162 md_X12_isRow ⟨Nat.zero_le _, Nat.zero_le _⟩ ⟨by decide, by decide⟩ (kdm kd_200) rfl rfl dd_X12_copy_41 rfl rfl (Nat.le_of_ble_eq_true rfl) (d_isRow sp (by omega) (by omega) (fun c11 => g_r1 ?_) (fun c11 => g_r1 ?_))
          · refine g_if_eq (pc := 44) (tgt := 77) hK dd_X12_copy_44 (by decide) (by decide) (fun c12 => absurd c12 (by decide)) (fun _ => ?_)
            refine g_aloadn (pc := 47) (i := 0) (x := 200) hK dd_X12_copy_47 rfl rfl ?_
            refine g_iloadn (pc := 48) (i := 2) (x := sq) hK dd_X12_copy_48 rfl rfl ?_
            refine g_callV (pc := 49) (As := [gI sq]) hK ws_M_162 md_X12_isRow ⟨Nat.zero_le _, Nat.zero_le _⟩ ⟨by decide, by decide⟩ (kdm kd_200) rfl rfl dd_X12_copy_49 rfl rfl (Nat.le_of_ble_eq_true rfl) (d_isRow sq (by omega) (by omega) (fun c13 => g_r1 ?_) (fun c13 => g_r1 ?_))
            · refine g_if_eq (pc := 52) (tgt := 77) hK dd_X12_copy_52 (by decide) (by decide) (fun c14 => absurd c14 (by decide)) (fun _ => ?_)
              refine g_aloadn (pc := 55) (i := 0) (x := 200) hK dd_X12_copy_55 rfl rfl ?_
              refine g_getv (pc := 56) (f := (1, 1)) (j := 0) (v := gR 201) hK (kdm kd_200) rfl ef_12 (by decide) rfl kk_1101 dd_X12_copy_56 rfl ?_
              refine g_iloadn (pc := 59) (i := 1) (x := sp) hK dd_X12_copy_59 rfl rfl ?_
              refine g_iald (pc := 60) hK (kdm kd_201) nl_201 (by decide) dd_X12_copy_60 (by omega) (by omega) (fun x15 ex15 rx15 => ?_)
              refine g_aloadn (pc := 61) (i := 0) (x := 200) hK dd_X12_copy_61 rfl rfl ?_
              refine g_getv (pc := 62) (f := (1, 1)) (j := 0) (v := gR 201) hK (kdm kd_200) rfl ef_12 (by decide) rfl kk_1101 dd_X12_copy_62 rfl ?_
              refine g_iloadn (pc := 65) (i := 2) (x := sq) hK dd_X12_copy_65 rfl rfl ?_
              refine g_iald (pc := 66) hK (kdm kd_201) nl_201 (by decide) dd_X12_copy_66 (by omega) (by omega) (fun x16 ex16 rx16 => ?_)
              refine g_icmp_eq (pc := 67) (tgt := 77) hK dd_X12_copy_67 (by decide) rx15 rx16 (fun c17 => ?_) (fun c17 => ?_)
              · refine g_aloadn (pc := 77) (i := 0) (x := 200) hK dd_X12_copy_77 rfl rfl ?_
                refine g_getv (pc := 78) (f := (1, 1)) (j := 0) (v := gR 201) hK (kdm kd_200) rfl ef_12 (by decide) rfl kk_1101 dd_X12_copy_78 rfl ?_
                refine g_iloadn (pc := 81) (i := 1) (x := sp) hK dd_X12_copy_81 rfl rfl ?_
                refine g_iald (pc := 82) hK (kdm kd_201) nl_201 (by decide) dd_X12_copy_82 (by omega) (by omega) (fun x18 ex18 rx18 => ?_)
                refine g_if_lt (pc := 83) (tgt := 95) hK dd_X12_copy_83 (by decide) rx18 (fun c19 => ?_) (fun c19 => ?_)
                · refine g_aloadn (pc := 95) (i := 0) (x := 200) hK dd_X12_copy_95 rfl rfl ?_
                  refine g_bipush (pc := 96) (x := (-4)) hK dd_X12_copy_96 (by decide) ?_
                  refine g_callV (pc := 98) (As := [gI (-4)]) hK ws_M_152 md_X12_no ⟨Nat.zero_le _, Nat.zero_le _⟩ ⟨by decide, by decide⟩ (kdm kd_200) rfl rfl dd_X12_copy_98 rfl rfl (Nat.le_of_ble_eq_true rfl) (d_no_4 hrg (g_r1 ?_))
                  refine g_iret (pc := 101) hK hr hlocks dd_X12_copy_101 rfl ?_
                  first | exact g_fin (hN (by first | omega | (subst_vars; omega) | exact ⟨by first | assumption | omega | (subst_vars; first | assumption | omega), by first | assumption | omega | (subst_vars; first | assumption | omega)⟩)) (by first | rfl | omega | (subst_vars; first | rfl | omega)) (by first | rfl | (subst_vars; rfl)) | exact g_fin (hY (by first | omega | (subst_vars; omega) | exact ⟨by first | assumption | omega | (subst_vars; first | assumption | omega), by first | assumption | omega | (subst_vars; first | assumption | omega)⟩)) (by first | rfl | omega | (subst_vars; first | rfl | omega)) (by rw [show ki = n by omega]) | (exfalso; omega)
                · refine g_aloadn (pc := 86) (i := 0) (x := 200) hK dd_X12_copy_86 rfl rfl ?_
                  refine g_getv (pc := 87) (f := (1, 1)) (j := 0) (v := gR 201) hK (kdm kd_200) rfl ef_12 (by decide) rfl kk_1101 dd_X12_copy_87 rfl ?_
                  refine g_iloadn (pc := 90) (i := 2) (x := sq) hK dd_X12_copy_90 rfl rfl ?_
                  refine g_iald (pc := 91) hK (kdm kd_201) nl_201 (by decide) dd_X12_copy_91 (by omega) (by omega) (fun x20 ex20 rx20 => ?_)
                  refine g_if_ge (pc := 92) (tgt := 102) hK dd_X12_copy_92 (by decide) rx20 (fun c21 => ?_) (fun c21 => ?_)
                  · refine g_iload (pc := 102) (i := 5) (x := n) hK dd_X12_copy_102 rfl ?_
                    refine g_if_lt (pc := 104) (tgt := 151) hK dd_X12_copy_104 (by decide) h_n (fun c22 => ?_) (fun c22 => ?_)
                    · refine g_aloadn (pc := 151) (i := 0) (x := 200) hK dd_X12_copy_151 rfl rfl ?_
                      refine g_bipush (pc := 152) (x := (-2)) hK dd_X12_copy_152 (by decide) ?_
                      refine g_callV (pc := 154) (As := [gI (-2)]) hK ws_M_152 md_X12_no ⟨Nat.zero_le _, Nat.zero_le _⟩ ⟨by decide, by decide⟩ (kdm kd_200) rfl rfl dd_X12_copy_154 rfl rfl (Nat.le_of_ble_eq_true rfl) (d_no_2 hrg (g_r1 ?_))
                      refine g_iret (pc := 157) hK hr hlocks dd_X12_copy_157 rfl ?_
                      first | exact g_fin (hB (by first | omega | (subst_vars; omega) | exact ⟨by first | assumption | omega | (subst_vars; first | assumption | omega), by first | assumption | omega | (subst_vars; first | assumption | omega)⟩)) (by first | rfl | omega | (subst_vars; first | rfl | omega)) (by first | rfl | (subst_vars; rfl)) | exact g_fin (hP (by first | omega | (subst_vars; omega) | exact ⟨by first | assumption | omega | (subst_vars; first | assumption | omega), by first | assumption | omega | (subst_vars; first | assumption | omega)⟩)) (by first | rfl | omega | (subst_vars; first | rfl | omega)) (by first | rfl | (subst_vars; rfl)) | exact g_fin (hY (by first | omega | (subst_vars; omega) | exact ⟨by first | assumption | omega | (subst_vars; first | assumption | omega), by first | assumption | omega | (subst_vars; first | assumption | omega)⟩)) (by first | rfl | omega | (subst_vars; first | rfl | omega)) (by rw [show ki = n by omega]) | (exfalso; omega)
                    · refine g_iloadn (pc := 107) (i := 3) (x := i) hK dd_X12_copy_107 rfl rfl ?_
                      refine g_if_lt (pc := 108) (tgt := 151) hK dd_X12_copy_108 (by decide) h_i (fun c23 => ?_) (fun c23 => ?_)
                      · refine g_aloadn (pc := 151) (i := 0) (x := 200) hK dd_X12_copy_151 rfl rfl ?_
                        refine g_bipush (pc := 152) (x := (-2)) hK dd_X12_copy_152 (by decide) ?_
                        refine g_callV (pc := 154) (As := [gI (-2)]) hK ws_M_152 md_X12_no ⟨Nat.zero_le _, Nat.zero_le _⟩ ⟨by decide, by decide⟩ (kdm kd_200) rfl rfl dd_X12_copy_154 rfl rfl (Nat.le_of_ble_eq_true rfl) (d_no_2 hrg (g_r1 ?_))
                        refine g_iret (pc := 157) hK hr hlocks dd_X12_copy_157 rfl ?_
                        first | exact g_fin (hB (by first | omega | (subst_vars; omega) | exact ⟨by first | assumption | omega | (subst_vars; first | assumption | omega), by first | assumption | omega | (subst_vars; first | assumption | omega)⟩)) (by first | rfl | omega | (subst_vars; first | rfl | omega)) (by first | rfl | (subst_vars; rfl)) | exact g_fin (hP (by first | omega | (subst_vars; omega) | exact ⟨by first | assumption | omega | (subst_vars; first | assumption | omega), by first | assumption | omega | (subst_vars; first | assumption | omega)⟩)) (by first | rfl | omega | (subst_vars; first | rfl | omega)) (by first | rfl | (subst_vars; rfl)) | exact g_fin (hY (by first | omega | (subst_vars; omega) | exact ⟨by first | assumption | omega | (subst_vars; first | assumption | omega), by first | assumption | omega | (subst_vars; first | assumption | omega)⟩)) (by first | rfl | omega | (subst_vars; first | rfl | omega)) (by rw [show ki = n by omega]) | (exfalso; omega)
                      · refine g_iload (pc := 111) (i := 4) (x := j) hK dd_X12_copy_111 rfl ?_
                        refine g_if_lt (pc := 113) (tgt := 151) hK dd_X12_copy_113 (by decide) h_j (fun c24 => ?_) (fun c24 => ?_)
                        · refine g_aloadn (pc := 151) (i := 0) (x := 200) hK dd_X12_copy_151 rfl rfl ?_
                          refine g_bipush (pc := 152) (x := (-2)) hK dd_X12_copy_152 (by decide) ?_
                          refine g_callV (pc := 154) (As := [gI (-2)]) hK ws_M_152 md_X12_no ⟨Nat.zero_le _, Nat.zero_le _⟩ ⟨by decide, by decide⟩ (kdm kd_200) rfl rfl dd_X12_copy_154 rfl rfl (Nat.le_of_ble_eq_true rfl) (d_no_2 hrg (g_r1 ?_))
                          refine g_iret (pc := 157) hK hr hlocks dd_X12_copy_157 rfl ?_
                          first | exact g_fin (hB (by first | omega | (subst_vars; omega) | exact ⟨by first | assumption | omega | (subst_vars; first | assumption | omega), by first | assumption | omega | (subst_vars; first | assumption | omega)⟩)) (by first | rfl | omega | (subst_vars; first | rfl | omega)) (by first | rfl | (subst_vars; rfl)) | exact g_fin (hP (by first | omega | (subst_vars; omega) | exact ⟨by first | assumption | omega | (subst_vars; first | assumption | omega), by first | assumption | omega | (subst_vars; first | assumption | omega)⟩)) (by first | rfl | omega | (subst_vars; first | rfl | omega)) (by first | rfl | (subst_vars; rfl)) | exact g_fin (hY (by first | omega | (subst_vars; omega) | exact ⟨by first | assumption | omega | (subst_vars; first | assumption | omega), by first | assumption | omega | (subst_vars; first | assumption | omega)⟩)) (by first | rfl | omega | (subst_vars; first | rfl | omega)) (by rw [show ki = n by omega]) | (exfalso; omega)
                        · refine g_iloadn (pc := 116) (i := 3) (x := i) hK dd_X12_copy_116 rfl rfl ?_
                          refine g_i2l (pc := 117) hK dd_X12_copy_117 h_i ?_
                          refine g_iload (pc := 118) (i := 5) (x := n) hK dd_X12_copy_118 rfl ?_
                          refine g_i2l (pc := 120) hK dd_X12_copy_120 h_n ?_
                          refine g_ladd (pc := 121) (z := i + n) hK dd_X12_copy_121 rfl ?_
                          refine g_aloadn (pc := 122) (i := 0) (x := 200) hK dd_X12_copy_122 rfl rfl ?_
                          refine g_getv (pc := 123) (f := (1, 2)) (j := 1) (v := gR 202) hK (kdm kd_200) rfl ef_12 (by decide) rfl kk_1102 dd_X12_copy_123 rfl ?_
                          refine g_iloadn (pc := 126) (i := 1) (x := sp) hK dd_X12_copy_126 rfl rfl ?_
                          refine g_iald (pc := 127) hK (kdm kd_202) nl_202 (by decide) dd_X12_copy_127 (by omega) (by omega) (fun x25 ex25 rx25 => ?_)
                          refine g_i2l (pc := 128) hK dd_X12_copy_128 rx25 ?_
                          rcases Int.lt_trichotomy (i + n) x25 with c26 | c27 | c28
                          · refine g_lcmp (pc := 129) (z := (-1)) hK dd_X12_copy_129 ⟨by omega, by omega⟩ (inL_of rx25) (by rw [if_neg (by omega), if_neg (by omega)]) ?_
                            refine g_if_gt (pc := 130) (tgt := 151) hK dd_X12_copy_130 (by decide) (by decide) (fun c29 => absurd c29 (by decide)) (fun _ => ?_)
                            refine g_iload (pc := 133) (i := 4) (x := j) hK dd_X12_copy_133 rfl ?_
                            refine g_i2l (pc := 135) hK dd_X12_copy_135 h_j ?_
                            refine g_iload (pc := 136) (i := 5) (x := n) hK dd_X12_copy_136 rfl ?_
                            refine g_i2l (pc := 138) hK dd_X12_copy_138 h_n ?_
                            refine g_ladd (pc := 139) (z := j + n) hK dd_X12_copy_139 rfl ?_
                            refine g_aloadn (pc := 140) (i := 0) (x := 200) hK dd_X12_copy_140 rfl rfl ?_
                            refine g_getv (pc := 141) (f := (1, 2)) (j := 1) (v := gR 202) hK (kdm kd_200) rfl ef_12 (by decide) rfl kk_1102 dd_X12_copy_141 rfl ?_
                            refine g_iloadn (pc := 144) (i := 2) (x := sq) hK dd_X12_copy_144 rfl rfl ?_
                            refine g_iald (pc := 145) hK (kdm kd_202) nl_202 (by decide) dd_X12_copy_145 (by omega) (by omega) (fun x30 ex30 rx30 => ?_)
                            refine g_i2l (pc := 146) hK dd_X12_copy_146 rx30 ?_
                            rcases Int.lt_trichotomy (j + n) x30 with c31 | c32 | c33
                            · refine g_lcmp (pc := 147) (z := (-1)) hK dd_X12_copy_147 ⟨by omega, by omega⟩ (inL_of rx30) (by rw [if_neg (by omega), if_neg (by omega)]) ?_
                              refine g_if_le (pc := 148) (tgt := 158) hK dd_X12_copy_148 (by decide) (by decide) (fun _ => ?_) (fun c34 => absurd (by decide) c34)
                              refine g_iloadn (pc := 158) (i := 1) (x := sp) hK dd_X12_copy_158 rfl rfl ?_
                              refine g_iloadn (pc := 159) (i := 2) (x := sq) hK dd_X12_copy_159 rfl rfl ?_
                              refine g_icmp_ne (pc := 160) (tgt := 218) hK dd_X12_copy_160 (by decide) h_sp h_sq (fun c35 => ?_) (fun c35 => ?_)
                              · refine g_iconst (pc := 218) (x := 0) hK dd_X12_copy_218 (by decide) ?_
                                refine g_istore (pc := 219) (i := 6) (L' := [(0, gR 200), (1, gI sp), (2, gI sq), (3, gI i), (4, gI j), (5, gI n), (6, gI 0)]) hK dd_X12_copy_219 (by decide) rfl ?_
                                have lp38 : ∀ (n36 : Nat) (ki : Int), (0 ≤ ki ∧ ki ≤ n) → (n - ki).toNat < n36 → G p l e (rmD 2) s m args below meth c D cy q A 0 0 7 (MQ below (gQc D cy q A Pq) args s 0 0 A) 221 [(0, gR 200), (1, gI sp), (2, gI sq), (3, gI i), (4, gI j), (5, gI n), (6, gI ki)] [] (cp M 203 (M 203) (40 * sp + i).toNat (40 * sq + j).toNat ki.toNat) := by
                                  intro n36
                                  induction n36 with
                                  | zero => intro ki iv39 hm40; exact absurd hm40 (Nat.not_lt_zero _)
                                  | succ n36 ih37 =>
                                    intro ki iv39 hm40
                                    refine g_iload (pc := 221) (i := 6) (x := ki) hK dd_X12_copy_221 rfl ?_
                                    refine g_iload (pc := 223) (i := 5) (x := n) hK dd_X12_copy_223 rfl ?_
                                    refine g_icmp_ge (pc := 225) (tgt := 263) hK dd_X12_copy_225 (by decide) ⟨by omega, by omega⟩ h_n (fun c41 => ?_) (fun c41 => ?_)
                                    · refine g_iload (pc := 263) (i := 5) (x := n) hK dd_X12_copy_263 rfl ?_
                                      refine g_iret (pc := 265) hK hr hlocks dd_X12_copy_265 rfl ?_
                                      first | exact g_fin (hB (by first | omega | (subst_vars; omega) | exact ⟨by first | assumption | omega | (subst_vars; first | assumption | omega), by first | assumption | omega | (subst_vars; first | assumption | omega)⟩)) (by first | rfl | omega | (subst_vars; first | rfl | omega)) (by first | rfl | (subst_vars; rfl)) | exact g_fin (hO (by first | omega | (subst_vars; omega) | exact ⟨by first | assumption | omega | (subst_vars; first | assumption | omega), by first | assumption | omega | (subst_vars; first | assumption | omega)⟩)) (by first | rfl | omega | (subst_vars; first | rfl | omega)) (by first | rfl | (subst_vars; rfl)) | exact g_fin (hN (by first | omega | (subst_vars; omega) | exact ⟨by first | assumption | omega | (subst_vars; first | assumption | omega), by first | assumption | omega | (subst_vars; first | assumption | omega)⟩)) (by first | rfl | omega | (subst_vars; first | rfl | omega)) (by first | rfl | (subst_vars; rfl)) | exact g_fin (hP (by first | omega | (subst_vars; omega) | exact ⟨by first | assumption | omega | (subst_vars; first | assumption | omega), by first | assumption | omega | (subst_vars; first | assumption | omega)⟩)) (by first | rfl | omega | (subst_vars; first | rfl | omega)) (by first | rfl | (subst_vars; rfl)) | exact g_fin (hY (by first | omega | (subst_vars; omega) | exact ⟨by first | assumption | omega | (subst_vars; first | assumption | omega), by first | assumption | omega | (subst_vars; first | assumption | omega)⟩)) (by first | rfl | omega | (subst_vars; first | rfl | omega)) (by rw [show ki = n by omega]) | (exfalso; omega)
                                    · refine g_aloadn (pc := 228) (i := 0) (x := 200) hK dd_X12_copy_228 rfl rfl ?_
                                      refine g_getv (pc := 229) (f := (1, 3)) (j := 2) (v := gR 203) hK (kdm kd_200) rfl ef_12 (by decide) rfl kk_1103 dd_X12_copy_229 rfl ?_
                                      refine g_bipush (pc := 232) (x := 40) hK dd_X12_copy_232 (by decide) ?_
                                      refine g_iloadn (pc := 234) (i := 2) (x := sq) hK dd_X12_copy_234 rfl rfl ?_
                                      refine g_imul (pc := 235) (z := 40 * sq) hK dd_X12_copy_235 rfl ?_
                                      refine g_iload (pc := 236) (i := 4) (x := j) hK dd_X12_copy_236 rfl ?_
                                      refine g_iadd (pc := 238) (z := (40 * sq) + j) hK dd_X12_copy_238 rfl ?_
                                      refine g_iload (pc := 239) (i := 6) (x := ki) hK dd_X12_copy_239 rfl ?_
                                      refine g_iadd (pc := 241) (z := ((40 * sq) + j) + ki) hK dd_X12_copy_241 rfl ?_
                                      refine g_aloadn (pc := 242) (i := 0) (x := 200) hK dd_X12_copy_242 rfl rfl ?_
                                      refine g_getv (pc := 243) (f := (1, 3)) (j := 2) (v := gR 203) hK (kdm kd_200) rfl ef_12 (by decide) rfl kk_1103 dd_X12_copy_243 rfl ?_
                                      refine g_bipush (pc := 246) (x := 40) hK dd_X12_copy_246 (by decide) ?_
                                      refine g_iloadn (pc := 248) (i := 1) (x := sp) hK dd_X12_copy_248 rfl rfl ?_
                                      refine g_imul (pc := 249) (z := 40 * sp) hK dd_X12_copy_249 rfl ?_
                                      refine g_iloadn (pc := 250) (i := 3) (x := i) hK dd_X12_copy_250 rfl rfl ?_
                                      refine g_iadd (pc := 251) (z := (40 * sp) + i) hK dd_X12_copy_251 rfl ?_
                                      refine g_iload (pc := 252) (i := 6) (x := ki) hK dd_X12_copy_252 rfl ?_
                                      refine g_iadd (pc := 254) (z := ((40 * sp) + i) + ki) hK dd_X12_copy_254 rfl ?_
                                      refine g_lald (pc := 255) hK (kdm kd_203) yl_203 (by decide) dd_X12_copy_255 (by omega) (by omega) (fun x42 ex42 rx42 => ?_)
                                      have ex_ := ex42
                                      refine g_last (pc := 256) hK (kdm kd_203) yl_203 (by decide) (by decide) dd_X12_copy_256 (by omega) (by omega) rx42 ?_
                                      refine g_iinc (pc := 257) (i := 6) (y := ki + 1) (L' := [(0, gR 200), (1, gI sp), (2, gI sq), (3, gI i), (4, gI j), (5, gI n), (6, gI (ki + 1))]) hK dd_X12_copy_257 rfl rfl (by decide) rfl ?_
                                      refine g_goto (pc := 260) (tgt := 221) hK dd_X12_copy_260 (by decide) ?_
                                      refine g_sub (L' := [(0, gR 200), (1, gI sp), (2, gI sq), (3, gI i), (4, gI j), (5, gI n), (6, gI (ki + 1))]) [0, 1, 2, 3, 4, 5, 6] rfl ?_
                                      refine g_mem (M2 := cp M 203 (M 203) (40 * sp + i).toNat (40 * sq + j).toNat (ki + 1).toNat) (by rw [tn1 (by omega), show (40 * sq + j + ki).toNat = (40 * sq + j).toNat + ki.toNat by omega]; refine cp_as (ex_.trans ?_); rw [cp_rd (by omega)]; congr 1; omega) ?_
                                      exact ih37 (ki + 1) (by omega) (by omega)
                                refine g_mem (M2 := cp M 203 (M 203) (40 * sp + i).toNat (40 * sq + j).toNat (0 : Int).toNat) (cp_0.symm) ?_
                                refine g_sub (L' := [(0, gR 200), (1, gI sp), (2, gI sq), (3, gI i), (4, gI j), (5, gI n), (6, gI 0)]) [0, 1, 2, 3, 4, 5, 6] rfl ?_
                                exact lp38 _ 0 (by omega) (Nat.lt_succ_self _)
                              · refine g_iloadn (pc := 163) (i := 3) (x := i) hK dd_X12_copy_163 rfl rfl ?_
                                refine g_iload (pc := 164) (i := 4) (x := j) hK dd_X12_copy_164 rfl ?_
                                refine g_icmp_ge (pc := 166) (tgt := 218) hK dd_X12_copy_166 (by decide) h_i h_j (fun c43 => ?_) (fun c43 => ?_)
                                · refine g_iconst (pc := 218) (x := 0) hK dd_X12_copy_218 (by decide) ?_
                                  refine g_istore (pc := 219) (i := 6) (L' := [(0, gR 200), (1, gI sp), (2, gI sq), (3, gI i), (4, gI j), (5, gI n), (6, gI 0)]) hK dd_X12_copy_219 (by decide) rfl ?_
                                  have lp46 : ∀ (n44 : Nat) (ki : Int), (0 ≤ ki ∧ ki ≤ n) → (n - ki).toNat < n44 → G p l e (rmD 2) s m args below meth c D cy q A 0 0 7 (MQ below (gQc D cy q A Pq) args s 0 0 A) 221 [(0, gR 200), (1, gI sp), (2, gI sq), (3, gI i), (4, gI j), (5, gI n), (6, gI ki)] [] (cp M 203 (M 203) (40 * sp + i).toNat (40 * sq + j).toNat ki.toNat) := by
                                    intro n44
                                    induction n44 with
                                    | zero => intro ki iv47 hm48; exact absurd hm48 (Nat.not_lt_zero _)
                                    | succ n44 ih45 =>
                                      intro ki iv47 hm48
                                      refine g_iload (pc := 221) (i := 6) (x := ki) hK dd_X12_copy_221 rfl ?_
                                      refine g_iload (pc := 223) (i := 5) (x := n) hK dd_X12_copy_223 rfl ?_
                                      refine g_icmp_ge (pc := 225) (tgt := 263) hK dd_X12_copy_225 (by decide) ⟨by omega, by omega⟩ h_n (fun c49 => ?_) (fun c49 => ?_)
                                      · refine g_iload (pc := 263) (i := 5) (x := n) hK dd_X12_copy_263 rfl ?_
                                        refine g_iret (pc := 265) hK hr hlocks dd_X12_copy_265 rfl ?_
                                        first | exact g_fin (hB (by first | omega | (subst_vars; omega) | exact ⟨by first | assumption | omega | (subst_vars; first | assumption | omega), by first | assumption | omega | (subst_vars; first | assumption | omega)⟩)) (by first | rfl | omega | (subst_vars; first | rfl | omega)) (by first | rfl | (subst_vars; rfl)) | exact g_fin (hO (by first | omega | (subst_vars; omega) | exact ⟨by first | assumption | omega | (subst_vars; first | assumption | omega), by first | assumption | omega | (subst_vars; first | assumption | omega)⟩)) (by first | rfl | omega | (subst_vars; first | rfl | omega)) (by first | rfl | (subst_vars; rfl)) | exact g_fin (hN (by first | omega | (subst_vars; omega) | exact ⟨by first | assumption | omega | (subst_vars; first | assumption | omega), by first | assumption | omega | (subst_vars; first | assumption | omega)⟩)) (by first | rfl | omega | (subst_vars; first | rfl | omega)) (by first | rfl | (subst_vars; rfl)) | exact g_fin (hP (by first | omega | (subst_vars; omega) | exact ⟨by first | assumption | omega | (subst_vars; first | assumption | omega), by first | assumption | omega | (subst_vars; first | assumption | omega)⟩)) (by first | rfl | omega | (subst_vars; first | rfl | omega)) (by first | rfl | (subst_vars; rfl)) | exact g_fin (hY (by first | omega | (subst_vars; omega) | exact ⟨by first | assumption | omega | (subst_vars; first | assumption | omega), by first | assumption | omega | (subst_vars; first | assumption | omega)⟩)) (by first | rfl | omega | (subst_vars; first | rfl | omega)) (by rw [show ki = n by omega]) | (exfalso; omega)
                                      · refine g_aloadn (pc := 228) (i := 0) (x := 200) hK dd_X12_copy_228 rfl rfl ?_
                                        refine g_getv (pc := 229) (f := (1, 3)) (j := 2) (v := gR 203) hK (kdm kd_200) rfl ef_12 (by decide) rfl kk_1103 dd_X12_copy_229 rfl ?_
                                        refine g_bipush (pc := 232) (x := 40) hK dd_X12_copy_232 (by decide) ?_
                                        refine g_iloadn (pc := 234) (i := 2) (x := sq) hK dd_X12_copy_234 rfl rfl ?_
                                        refine g_imul (pc := 235) (z := 40 * sq) hK dd_X12_copy_235 rfl ?_
                                        refine g_iload (pc := 236) (i := 4) (x := j) hK dd_X12_copy_236 rfl ?_
                                        refine g_iadd (pc := 238) (z := (40 * sq) + j) hK dd_X12_copy_238 rfl ?_
                                        refine g_iload (pc := 239) (i := 6) (x := ki) hK dd_X12_copy_239 rfl ?_
                                        refine g_iadd (pc := 241) (z := ((40 * sq) + j) + ki) hK dd_X12_copy_241 rfl ?_
                                        refine g_aloadn (pc := 242) (i := 0) (x := 200) hK dd_X12_copy_242 rfl rfl ?_
                                        refine g_getv (pc := 243) (f := (1, 3)) (j := 2) (v := gR 203) hK (kdm kd_200) rfl ef_12 (by decide) rfl kk_1103 dd_X12_copy_243 rfl ?_
                                        refine g_bipush (pc := 246) (x := 40) hK dd_X12_copy_246 (by decide) ?_
                                        refine g_iloadn (pc := 248) (i := 1) (x := sp) hK dd_X12_copy_248 rfl rfl ?_
                                        refine g_imul (pc := 249) (z := 40 * sp) hK dd_X12_copy_249 rfl ?_
                                        refine g_iloadn (pc := 250) (i := 3) (x := i) hK dd_X12_copy_250 rfl rfl ?_
                                        refine g_iadd (pc := 251) (z := (40 * sp) + i) hK dd_X12_copy_251 rfl ?_
                                        refine g_iload (pc := 252) (i := 6) (x := ki) hK dd_X12_copy_252 rfl ?_
                                        refine g_iadd (pc := 254) (z := ((40 * sp) + i) + ki) hK dd_X12_copy_254 rfl ?_
                                        refine g_lald (pc := 255) hK (kdm kd_203) yl_203 (by decide) dd_X12_copy_255 (by omega) (by omega) (fun x50 ex50 rx50 => ?_)
                                        have ex_ := ex50
                                        refine g_last (pc := 256) hK (kdm kd_203) yl_203 (by decide) (by decide) dd_X12_copy_256 (by omega) (by omega) rx50 ?_
                                        refine g_iinc (pc := 257) (i := 6) (y := ki + 1) (L' := [(0, gR 200), (1, gI sp), (2, gI sq), (3, gI i), (4, gI j), (5, gI n), (6, gI (ki + 1))]) hK dd_X12_copy_257 rfl rfl (by decide) rfl ?_
                                        refine g_goto (pc := 260) (tgt := 221) hK dd_X12_copy_260 (by decide) ?_
                                        refine g_sub (L' := [(0, gR 200), (1, gI sp), (2, gI sq), (3, gI i), (4, gI j), (5, gI n), (6, gI (ki + 1))]) [0, 1, 2, 3, 4, 5, 6] rfl ?_
                                        refine g_mem (M2 := cp M 203 (M 203) (40 * sp + i).toNat (40 * sq + j).toNat (ki + 1).toNat) (by rw [tn1 (by omega), show (40 * sq + j + ki).toNat = (40 * sq + j).toNat + ki.toNat by omega]; refine cp_as (ex_.trans ?_); rw [cp_rd (by omega)]; congr 1; omega) ?_
                                        exact ih45 (ki + 1) (by omega) (by omega)
                                  refine g_mem (M2 := cp M 203 (M 203) (40 * sp + i).toNat (40 * sq + j).toNat (0 : Int).toNat) (cp_0.symm) ?_
                                  refine g_sub (L' := [(0, gR 200), (1, gI sp), (2, gI sq), (3, gI i), (4, gI j), (5, gI n), (6, gI 0)]) [0, 1, 2, 3, 4, 5, 6] rfl ?_
                                  exact lp46 _ 0 (by omega) (Nat.lt_succ_self _)
                                · refine g_iload (pc := 169) (i := 5) (x := n) hK dd_X12_copy_169 rfl ?_
                                  refine g_iconst (pc := 171) (x := 1) hK dd_X12_copy_171 (by decide) ?_
                                  refine g_isub (pc := 172) (z := n - 1) hK dd_X12_copy_172 rfl ?_
                                  refine g_istore (pc := 173) (i := 6) (L' := [(0, gR 200), (1, gI sp), (2, gI sq), (3, gI i), (4, gI j), (5, gI n), (6, gI (n - 1))]) hK dd_X12_copy_173 (by decide) rfl ?_
                                  have lp53 : ∀ (n51 : Nat) (kd : Int), (-1 ≤ kd ∧ kd < n) → (kd + 1).toNat < n51 → G p l e (rmD 2) s m args below meth c D cy q A 0 0 7 (MQ below (gQc D cy q A Pq) args s 0 0 A) 175 [(0, gR 200), (1, gI sp), (2, gI sq), (3, gI i), (4, gI j), (5, gI n), (6, gI kd)] [] (cp M 203 (M 203) (40 * sp + i + kd + 1).toNat (40 * sq + j + kd + 1).toNat (n - 1 - kd).toNat) := by
                                    intro n51
                                    induction n51 with
                                    | zero => intro kd iv54 hm55; exact absurd hm55 (Nat.not_lt_zero _)
                                    | succ n51 ih52 =>
                                      intro kd iv54 hm55
                                      refine g_iload (pc := 175) (i := 6) (x := kd) hK dd_X12_copy_175 rfl ?_
                                      refine g_if_lt (pc := 177) (tgt := 215) hK dd_X12_copy_177 (by decide) ⟨by omega, by omega⟩ (fun c56 => ?_) (fun c56 => ?_)
                                      · refine g_goto (pc := 215) (tgt := 263) hK dd_X12_copy_215 (by decide) ?_
                                        refine g_iload (pc := 263) (i := 5) (x := n) hK dd_X12_copy_263 rfl ?_
                                        refine g_iret (pc := 265) hK hr hlocks dd_X12_copy_265 rfl ?_
                                        first | exact g_fin (hB (by first | omega | (subst_vars; omega) | exact ⟨by first | assumption | omega | (subst_vars; first | assumption | omega), by first | assumption | omega | (subst_vars; first | assumption | omega)⟩)) (by first | rfl | omega | (subst_vars; first | rfl | omega)) (by first | rfl | (subst_vars; rfl)) | exact g_fin (hO (by first | omega | (subst_vars; omega) | exact ⟨by first | assumption | omega | (subst_vars; first | assumption | omega), by first | assumption | omega | (subst_vars; first | assumption | omega)⟩)) (by first | rfl | omega | (subst_vars; first | rfl | omega)) (by first | rfl | (subst_vars; rfl)) | exact g_fin (hN (by first | omega | (subst_vars; omega) | exact ⟨by first | assumption | omega | (subst_vars; first | assumption | omega), by first | assumption | omega | (subst_vars; first | assumption | omega)⟩)) (by first | rfl | omega | (subst_vars; first | rfl | omega)) (by first | rfl | (subst_vars; rfl)) | exact g_fin (hP (by first | omega | (subst_vars; omega) | exact ⟨by first | assumption | omega | (subst_vars; first | assumption | omega), by first | assumption | omega | (subst_vars; first | assumption | omega)⟩)) (by first | rfl | omega | (subst_vars; first | rfl | omega)) (by first | rfl | (subst_vars; rfl)) | exact g_fin (hY (by first | omega | (subst_vars; omega) | exact ⟨by first | assumption | omega | (subst_vars; first | assumption | omega), by first | assumption | omega | (subst_vars; first | assumption | omega)⟩)) (by first | rfl | omega | (subst_vars; first | rfl | omega)) (by rw [show kd = -1 by omega, show (40 * sp + i + -1 + 1).toNat = (40 * sp + i).toNat by omega, show (40 * sq + j + -1 + 1).toNat = (40 * sq + j).toNat by omega, show (n - 1 - -1).toNat = n.toNat by omega]) | (exfalso; omega)
                                      · refine g_aloadn (pc := 180) (i := 0) (x := 200) hK dd_X12_copy_180 rfl rfl ?_
                                        refine g_getv (pc := 181) (f := (1, 3)) (j := 2) (v := gR 203) hK (kdm kd_200) rfl ef_12 (by decide) rfl kk_1103 dd_X12_copy_181 rfl ?_
                                        refine g_bipush (pc := 184) (x := 40) hK dd_X12_copy_184 (by decide) ?_
                                        refine g_iloadn (pc := 186) (i := 2) (x := sq) hK dd_X12_copy_186 rfl rfl ?_
                                        refine g_imul (pc := 187) (z := 40 * sq) hK dd_X12_copy_187 rfl ?_
                                        refine g_iload (pc := 188) (i := 4) (x := j) hK dd_X12_copy_188 rfl ?_
                                        refine g_iadd (pc := 190) (z := (40 * sq) + j) hK dd_X12_copy_190 rfl ?_
                                        refine g_iload (pc := 191) (i := 6) (x := kd) hK dd_X12_copy_191 rfl ?_
                                        refine g_iadd (pc := 193) (z := ((40 * sq) + j) + kd) hK dd_X12_copy_193 rfl ?_
                                        refine g_aloadn (pc := 194) (i := 0) (x := 200) hK dd_X12_copy_194 rfl rfl ?_
                                        refine g_getv (pc := 195) (f := (1, 3)) (j := 2) (v := gR 203) hK (kdm kd_200) rfl ef_12 (by decide) rfl kk_1103 dd_X12_copy_195 rfl ?_
                                        refine g_bipush (pc := 198) (x := 40) hK dd_X12_copy_198 (by decide) ?_
                                        refine g_iloadn (pc := 200) (i := 1) (x := sp) hK dd_X12_copy_200 rfl rfl ?_
                                        refine g_imul (pc := 201) (z := 40 * sp) hK dd_X12_copy_201 rfl ?_
                                        refine g_iloadn (pc := 202) (i := 3) (x := i) hK dd_X12_copy_202 rfl rfl ?_
                                        refine g_iadd (pc := 203) (z := (40 * sp) + i) hK dd_X12_copy_203 rfl ?_
                                        refine g_iload (pc := 204) (i := 6) (x := kd) hK dd_X12_copy_204 rfl ?_
                                        refine g_iadd (pc := 206) (z := ((40 * sp) + i) + kd) hK dd_X12_copy_206 rfl ?_
                                        refine g_lald (pc := 207) hK (kdm kd_203) yl_203 (by decide) dd_X12_copy_207 (by omega) (by omega) (fun x57 ex57 rx57 => ?_)
                                        have ex_ := ex57
                                        refine g_last (pc := 208) hK (kdm kd_203) yl_203 (by decide) (by decide) dd_X12_copy_208 (by omega) (by omega) rx57 ?_
                                        refine g_iinc (pc := 209) (i := 6) (y := kd - 1) (L' := [(0, gR 200), (1, gI sp), (2, gI sq), (3, gI i), (4, gI j), (5, gI n), (6, gI (kd - 1))]) hK dd_X12_copy_209 rfl (by omega) (by decide) rfl ?_
                                        refine g_goto (pc := 212) (tgt := 175) hK dd_X12_copy_212 (by decide) ?_
                                        refine g_sub (L' := [(0, gR 200), (1, gI sp), (2, gI sq), (3, gI i), (4, gI j), (5, gI n), (6, gI (kd - 1))]) [0, 1, 2, 3, 4, 5, 6] rfl ?_
                                        refine g_mem (M2 := cp M 203 (M 203) (40 * sp + i + (kd - 1) + 1).toNat (40 * sq + j + (kd - 1) + 1).toNat (n - 1 - (kd - 1)).toNat) (by rw [show (40 * sp + i + kd + 1).toNat = (40 * sp + i + kd).toNat + 1 by omega, show (40 * sq + j + kd + 1).toNat = (40 * sq + j + kd).toNat + 1 by omega]; rw [show (40 * sp + i + (kd - 1) + 1).toNat = (40 * sp + i + kd).toNat by omega, show (40 * sq + j + (kd - 1) + 1).toNat = (40 * sq + j + kd).toNat by omega, show (n - 1 - (kd - 1)).toNat = (n - 1 - kd).toNat + 1 by omega]; refine cp_ds (ex_.trans ?_); rw [show (40 * sp + i + kd + 1).toNat = (40 * sp + i + kd).toNat + 1 by omega, show (40 * sq + j + kd + 1).toNat = (40 * sq + j + kd).toNat + 1 by omega, cp_rd (by omega)]) ?_
                                        exact ih52 (kd - 1) (by omega) (by omega)
                                  refine g_mem (M2 := cp M 203 (M 203) (40 * sp + i + (n - 1) + 1).toNat (40 * sq + j + (n - 1) + 1).toNat (n - 1 - (n - 1)).toNat) (by rw [show (n - 1 - (n - 1)).toNat = 0 by omega]; exact cp_0.symm) ?_
                                  refine g_sub (L' := [(0, gR 200), (1, gI sp), (2, gI sq), (3, gI i), (4, gI j), (5, gI n), (6, gI (n - 1))]) [0, 1, 2, 3, 4, 5, 6] rfl ?_
                                  exact lp53 _ (n - 1) (by omega) (Nat.lt_succ_self _)
                            · refine g_lcmp (pc := 147) (z := 0) hK dd_X12_copy_147 ⟨by omega, by omega⟩ (inL_of rx30) (by rw [if_neg (by omega), if_pos c32]) ?_
                              refine g_if_le (pc := 148) (tgt := 158) hK dd_X12_copy_148 (by decide) (by decide) (fun _ => ?_) (fun c58 => absurd (by decide) c58)
                              refine g_iloadn (pc := 158) (i := 1) (x := sp) hK dd_X12_copy_158 rfl rfl ?_
                              refine g_iloadn (pc := 159) (i := 2) (x := sq) hK dd_X12_copy_159 rfl rfl ?_
                              refine g_icmp_ne (pc := 160) (tgt := 218) hK dd_X12_copy_160 (by decide) h_sp h_sq (fun c59 => ?_) (fun c59 => ?_)
                              · refine g_iconst (pc := 218) (x := 0) hK dd_X12_copy_218 (by decide) ?_
                                refine g_istore (pc := 219) (i := 6) (L' := [(0, gR 200), (1, gI sp), (2, gI sq), (3, gI i), (4, gI j), (5, gI n), (6, gI 0)]) hK dd_X12_copy_219 (by decide) rfl ?_
                                have lp62 : ∀ (n60 : Nat) (ki : Int), (0 ≤ ki ∧ ki ≤ n) → (n - ki).toNat < n60 → G p l e (rmD 2) s m args below meth c D cy q A 0 0 7 (MQ below (gQc D cy q A Pq) args s 0 0 A) 221 [(0, gR 200), (1, gI sp), (2, gI sq), (3, gI i), (4, gI j), (5, gI n), (6, gI ki)] [] (cp M 203 (M 203) (40 * sp + i).toNat (40 * sq + j).toNat ki.toNat) := by
                                  intro n60
                                  induction n60 with
                                  | zero => intro ki iv63 hm64; exact absurd hm64 (Nat.not_lt_zero _)
                                  | succ n60 ih61 =>
                                    intro ki iv63 hm64
                                    refine g_iload (pc := 221) (i := 6) (x := ki) hK dd_X12_copy_221 rfl ?_
                                    refine g_iload (pc := 223) (i := 5) (x := n) hK dd_X12_copy_223 rfl ?_
                                    refine g_icmp_ge (pc := 225) (tgt := 263) hK dd_X12_copy_225 (by decide) ⟨by omega, by omega⟩ h_n (fun c65 => ?_) (fun c65 => ?_)
                                    · refine g_iload (pc := 263) (i := 5) (x := n) hK dd_X12_copy_263 rfl ?_
                                      refine g_iret (pc := 265) hK hr hlocks dd_X12_copy_265 rfl ?_
                                      first | exact g_fin (hB (by first | omega | (subst_vars; omega) | exact ⟨by first | assumption | omega | (subst_vars; first | assumption | omega), by first | assumption | omega | (subst_vars; first | assumption | omega)⟩)) (by first | rfl | omega | (subst_vars; first | rfl | omega)) (by first | rfl | (subst_vars; rfl)) | exact g_fin (hO (by first | omega | (subst_vars; omega) | exact ⟨by first | assumption | omega | (subst_vars; first | assumption | omega), by first | assumption | omega | (subst_vars; first | assumption | omega)⟩)) (by first | rfl | omega | (subst_vars; first | rfl | omega)) (by first | rfl | (subst_vars; rfl)) | exact g_fin (hN (by first | omega | (subst_vars; omega) | exact ⟨by first | assumption | omega | (subst_vars; first | assumption | omega), by first | assumption | omega | (subst_vars; first | assumption | omega)⟩)) (by first | rfl | omega | (subst_vars; first | rfl | omega)) (by first | rfl | (subst_vars; rfl)) | exact g_fin (hP (by first | omega | (subst_vars; omega) | exact ⟨by first | assumption | omega | (subst_vars; first | assumption | omega), by first | assumption | omega | (subst_vars; first | assumption | omega)⟩)) (by first | rfl | omega | (subst_vars; first | rfl | omega)) (by first | rfl | (subst_vars; rfl)) | exact g_fin (hY (by first | omega | (subst_vars; omega) | exact ⟨by first | assumption | omega | (subst_vars; first | assumption | omega), by first | assumption | omega | (subst_vars; first | assumption | omega)⟩)) (by first | rfl | omega | (subst_vars; first | rfl | omega)) (by rw [show ki = n by omega]) | (exfalso; omega)
                                    · refine g_aloadn (pc := 228) (i := 0) (x := 200) hK dd_X12_copy_228 rfl rfl ?_
                                      refine g_getv (pc := 229) (f := (1, 3)) (j := 2) (v := gR 203) hK (kdm kd_200) rfl ef_12 (by decide) rfl kk_1103 dd_X12_copy_229 rfl ?_
                                      refine g_bipush (pc := 232) (x := 40) hK dd_X12_copy_232 (by decide) ?_
                                      refine g_iloadn (pc := 234) (i := 2) (x := sq) hK dd_X12_copy_234 rfl rfl ?_
                                      refine g_imul (pc := 235) (z := 40 * sq) hK dd_X12_copy_235 rfl ?_
                                      refine g_iload (pc := 236) (i := 4) (x := j) hK dd_X12_copy_236 rfl ?_
                                      refine g_iadd (pc := 238) (z := (40 * sq) + j) hK dd_X12_copy_238 rfl ?_
                                      refine g_iload (pc := 239) (i := 6) (x := ki) hK dd_X12_copy_239 rfl ?_
                                      refine g_iadd (pc := 241) (z := ((40 * sq) + j) + ki) hK dd_X12_copy_241 rfl ?_
                                      refine g_aloadn (pc := 242) (i := 0) (x := 200) hK dd_X12_copy_242 rfl rfl ?_
                                      refine g_getv (pc := 243) (f := (1, 3)) (j := 2) (v := gR 203) hK (kdm kd_200) rfl ef_12 (by decide) rfl kk_1103 dd_X12_copy_243 rfl ?_
                                      refine g_bipush (pc := 246) (x := 40) hK dd_X12_copy_246 (by decide) ?_
                                      refine g_iloadn (pc := 248) (i := 1) (x := sp) hK dd_X12_copy_248 rfl rfl ?_
                                      refine g_imul (pc := 249) (z := 40 * sp) hK dd_X12_copy_249 rfl ?_
                                      refine g_iloadn (pc := 250) (i := 3) (x := i) hK dd_X12_copy_250 rfl rfl ?_
                                      refine g_iadd (pc := 251) (z := (40 * sp) + i) hK dd_X12_copy_251 rfl ?_
                                      refine g_iload (pc := 252) (i := 6) (x := ki) hK dd_X12_copy_252 rfl ?_
                                      refine g_iadd (pc := 254) (z := ((40 * sp) + i) + ki) hK dd_X12_copy_254 rfl ?_
                                      refine g_lald (pc := 255) hK (kdm kd_203) yl_203 (by decide) dd_X12_copy_255 (by omega) (by omega) (fun x66 ex66 rx66 => ?_)
                                      have ex_ := ex66
                                      refine g_last (pc := 256) hK (kdm kd_203) yl_203 (by decide) (by decide) dd_X12_copy_256 (by omega) (by omega) rx66 ?_
                                      refine g_iinc (pc := 257) (i := 6) (y := ki + 1) (L' := [(0, gR 200), (1, gI sp), (2, gI sq), (3, gI i), (4, gI j), (5, gI n), (6, gI (ki + 1))]) hK dd_X12_copy_257 rfl rfl (by decide) rfl ?_
                                      refine g_goto (pc := 260) (tgt := 221) hK dd_X12_copy_260 (by decide) ?_
                                      refine g_sub (L' := [(0, gR 200), (1, gI sp), (2, gI sq), (3, gI i), (4, gI j), (5, gI n), (6, gI (ki + 1))]) [0, 1, 2, 3, 4, 5, 6] rfl ?_
                                      refine g_mem (M2 := cp M 203 (M 203) (40 * sp + i).toNat (40 * sq + j).toNat (ki + 1).toNat) (by rw [tn1 (by omega), show (40 * sq + j + ki).toNat = (40 * sq + j).toNat + ki.toNat by omega]; refine cp_as (ex_.trans ?_); rw [cp_rd (by omega)]; congr 1; omega) ?_
                                      exact ih61 (ki + 1) (by omega) (by omega)
                                refine g_mem (M2 := cp M 203 (M 203) (40 * sp + i).toNat (40 * sq + j).toNat (0 : Int).toNat) (cp_0.symm) ?_
                                refine g_sub (L' := [(0, gR 200), (1, gI sp), (2, gI sq), (3, gI i), (4, gI j), (5, gI n), (6, gI 0)]) [0, 1, 2, 3, 4, 5, 6] rfl ?_
                                exact lp62 _ 0 (by omega) (Nat.lt_succ_self _)
                              · refine g_iloadn (pc := 163) (i := 3) (x := i) hK dd_X12_copy_163 rfl rfl ?_
                                refine g_iload (pc := 164) (i := 4) (x := j) hK dd_X12_copy_164 rfl ?_
                                refine g_icmp_ge (pc := 166) (tgt := 218) hK dd_X12_copy_166 (by decide) h_i h_j (fun c67 => ?_) (fun c67 => ?_)
                                · refine g_iconst (pc := 218) (x := 0) hK dd_X12_copy_218 (by decide) ?_
                                  refine g_istore (pc := 219) (i := 6) (L' := [(0, gR 200), (1, gI sp), (2, gI sq), (3, gI i), (4, gI j), (5, gI n), (6, gI 0)]) hK dd_X12_copy_219 (by decide) rfl ?_
                                  have lp70 : ∀ (n68 : Nat) (ki : Int), (0 ≤ ki ∧ ki ≤ n) → (n - ki).toNat < n68 → G p l e (rmD 2) s m args below meth c D cy q A 0 0 7 (MQ below (gQc D cy q A Pq) args s 0 0 A) 221 [(0, gR 200), (1, gI sp), (2, gI sq), (3, gI i), (4, gI j), (5, gI n), (6, gI ki)] [] (cp M 203 (M 203) (40 * sp + i).toNat (40 * sq + j).toNat ki.toNat) := by
                                    intro n68
                                    induction n68 with
                                    | zero => intro ki iv71 hm72; exact absurd hm72 (Nat.not_lt_zero _)
                                    | succ n68 ih69 =>
                                      intro ki iv71 hm72
                                      refine g_iload (pc := 221) (i := 6) (x := ki) hK dd_X12_copy_221 rfl ?_
                                      refine g_iload (pc := 223) (i := 5) (x := n) hK dd_X12_copy_223 rfl ?_
                                      refine g_icmp_ge (pc := 225) (tgt := 263) hK dd_X12_copy_225 (by decide) ⟨by omega, by omega⟩ h_n (fun c73 => ?_) (fun c73 => ?_)
                                      · refine g_iload (pc := 263) (i := 5) (x := n) hK dd_X12_copy_263 rfl ?_
                                        refine g_iret (pc := 265) hK hr hlocks dd_X12_copy_265 rfl ?_
                                        first | exact g_fin (hB (by first | omega | (subst_vars; omega) | exact ⟨by first | assumption | omega | (subst_vars; first | assumption | omega), by first | assumption | omega | (subst_vars; first | assumption | omega)⟩)) (by first | rfl | omega | (subst_vars; first | rfl | omega)) (by first | rfl | (subst_vars; rfl)) | exact g_fin (hO (by first | omega | (subst_vars; omega) | exact ⟨by first | assumption | omega | (subst_vars; first | assumption | omega), by first | assumption | omega | (subst_vars; first | assumption | omega)⟩)) (by first | rfl | omega | (subst_vars; first | rfl | omega)) (by first | rfl | (subst_vars; rfl)) | exact g_fin (hN (by first | omega | (subst_vars; omega) | exact ⟨by first | assumption | omega | (subst_vars; first | assumption | omega), by first | assumption | omega | (subst_vars; first | assumption | omega)⟩)) (by first | rfl | omega | (subst_vars; first | rfl | omega)) (by first | rfl | (subst_vars; rfl)) | exact g_fin (hP (by first | omega | (subst_vars; omega) | exact ⟨by first | assumption | omega | (subst_vars; first | assumption | omega), by first | assumption | omega | (subst_vars; first | assumption | omega)⟩)) (by first | rfl | omega | (subst_vars; first | rfl | omega)) (by first | rfl | (subst_vars; rfl)) | exact g_fin (hY (by first | omega | (subst_vars; omega) | exact ⟨by first | assumption | omega | (subst_vars; first | assumption | omega), by first | assumption | omega | (subst_vars; first | assumption | omega)⟩)) (by first | rfl | omega | (subst_vars; first | rfl | omega)) (by rw [show ki = n by omega]) | (exfalso; omega)
                                      · refine g_aloadn (pc := 228) (i := 0) (x := 200) hK dd_X12_copy_228 rfl rfl ?_
                                        refine g_getv (pc := 229) (f := (1, 3)) (j := 2) (v := gR 203) hK (kdm kd_200) rfl ef_12 (by decide) rfl kk_1103 dd_X12_copy_229 rfl ?_
                                        refine g_bipush (pc := 232) (x := 40) hK dd_X12_copy_232 (by decide) ?_
                                        refine g_iloadn (pc := 234) (i := 2) (x := sq) hK dd_X12_copy_234 rfl rfl ?_
                                        refine g_imul (pc := 235) (z := 40 * sq) hK dd_X12_copy_235 rfl ?_
                                        refine g_iload (pc := 236) (i := 4) (x := j) hK dd_X12_copy_236 rfl ?_
                                        refine g_iadd (pc := 238) (z := (40 * sq) + j) hK dd_X12_copy_238 rfl ?_
                                        refine g_iload (pc := 239) (i := 6) (x := ki) hK dd_X12_copy_239 rfl ?_
                                        refine g_iadd (pc := 241) (z := ((40 * sq) + j) + ki) hK dd_X12_copy_241 rfl ?_
                                        refine g_aloadn (pc := 242) (i := 0) (x := 200) hK dd_X12_copy_242 rfl rfl ?_
                                        refine g_getv (pc := 243) (f := (1, 3)) (j := 2) (v := gR 203) hK (kdm kd_200) rfl ef_12 (by decide) rfl kk_1103 dd_X12_copy_243 rfl ?_
                                        refine g_bipush (pc := 246) (x := 40) hK dd_X12_copy_246 (by decide) ?_
                                        refine g_iloadn (pc := 248) (i := 1) (x := sp) hK dd_X12_copy_248 rfl rfl ?_
                                        refine g_imul (pc := 249) (z := 40 * sp) hK dd_X12_copy_249 rfl ?_
                                        refine g_iloadn (pc := 250) (i := 3) (x := i) hK dd_X12_copy_250 rfl rfl ?_
                                        refine g_iadd (pc := 251) (z := (40 * sp) + i) hK dd_X12_copy_251 rfl ?_
                                        refine g_iload (pc := 252) (i := 6) (x := ki) hK dd_X12_copy_252 rfl ?_
                                        refine g_iadd (pc := 254) (z := ((40 * sp) + i) + ki) hK dd_X12_copy_254 rfl ?_
                                        refine g_lald (pc := 255) hK (kdm kd_203) yl_203 (by decide) dd_X12_copy_255 (by omega) (by omega) (fun x74 ex74 rx74 => ?_)
                                        have ex_ := ex74
                                        refine g_last (pc := 256) hK (kdm kd_203) yl_203 (by decide) (by decide) dd_X12_copy_256 (by omega) (by omega) rx74 ?_
                                        refine g_iinc (pc := 257) (i := 6) (y := ki + 1) (L' := [(0, gR 200), (1, gI sp), (2, gI sq), (3, gI i), (4, gI j), (5, gI n), (6, gI (ki + 1))]) hK dd_X12_copy_257 rfl rfl (by decide) rfl ?_
                                        refine g_goto (pc := 260) (tgt := 221) hK dd_X12_copy_260 (by decide) ?_
                                        refine g_sub (L' := [(0, gR 200), (1, gI sp), (2, gI sq), (3, gI i), (4, gI j), (5, gI n), (6, gI (ki + 1))]) [0, 1, 2, 3, 4, 5, 6] rfl ?_
                                        refine g_mem (M2 := cp M 203 (M 203) (40 * sp + i).toNat (40 * sq + j).toNat (ki + 1).toNat) (by rw [tn1 (by omega), show (40 * sq + j + ki).toNat = (40 * sq + j).toNat + ki.toNat by omega]; refine cp_as (ex_.trans ?_); rw [cp_rd (by omega)]; congr 1; omega) ?_
                                        exact ih69 (ki + 1) (by omega) (by omega)
                                  refine g_mem (M2 := cp M 203 (M 203) (40 * sp + i).toNat (40 * sq + j).toNat (0 : Int).toNat) (cp_0.symm) ?_
                                  refine g_sub (L' := [(0, gR 200), (1, gI sp), (2, gI sq), (3, gI i), (4, gI j), (5, gI n), (6, gI 0)]) [0, 1, 2, 3, 4, 5, 6] rfl ?_
                                  exact lp70 _ 0 (by omega) (Nat.lt_succ_self _)
                                · refine g_iload (pc := 169) (i := 5) (x := n) hK dd_X12_copy_169 rfl ?_
                                  refine g_iconst (pc := 171) (x := 1) hK dd_X12_copy_171 (by decide) ?_
                                  refine g_isub (pc := 172) (z := n - 1) hK dd_X12_copy_172 rfl ?_
                                  refine g_istore (pc := 173) (i := 6) (L' := [(0, gR 200), (1, gI sp), (2, gI sq), (3, gI i), (4, gI j), (5, gI n), (6, gI (n - 1))]) hK dd_X12_copy_173 (by decide) rfl ?_
                                  have lp77 : ∀ (n75 : Nat) (kd : Int), (-1 ≤ kd ∧ kd < n) → (kd + 1).toNat < n75 → G p l e (rmD 2) s m args below meth c D cy q A 0 0 7 (MQ below (gQc D cy q A Pq) args s 0 0 A) 175 [(0, gR 200), (1, gI sp), (2, gI sq), (3, gI i), (4, gI j), (5, gI n), (6, gI kd)] [] (cp M 203 (M 203) (40 * sp + i + kd + 1).toNat (40 * sq + j + kd + 1).toNat (n - 1 - kd).toNat) := by
                                    intro n75
                                    induction n75 with
                                    | zero => intro kd iv78 hm79; exact absurd hm79 (Nat.not_lt_zero _)
                                    | succ n75 ih76 =>
                                      intro kd iv78 hm79
                                      refine g_iload (pc := 175) (i := 6) (x := kd) hK dd_X12_copy_175 rfl ?_
                                      refine g_if_lt (pc := 177) (tgt := 215) hK dd_X12_copy_177 (by decide) ⟨by omega, by omega⟩ (fun c80 => ?_) (fun c80 => ?_)
                                      · refine g_goto (pc := 215) (tgt := 263) hK dd_X12_copy_215 (by decide) ?_
                                        refine g_iload (pc := 263) (i := 5) (x := n) hK dd_X12_copy_263 rfl ?_
                                        refine g_iret (pc := 265) hK hr hlocks dd_X12_copy_265 rfl ?_
                                        first | exact g_fin (hB (by first | omega | (subst_vars; omega) | exact ⟨by first | assumption | omega | (subst_vars; first | assumption | omega), by first | assumption | omega | (subst_vars; first | assumption | omega)⟩)) (by first | rfl | omega | (subst_vars; first | rfl | omega)) (by first | rfl | (subst_vars; rfl)) | exact g_fin (hO (by first | omega | (subst_vars; omega) | exact ⟨by first | assumption | omega | (subst_vars; first | assumption | omega), by first | assumption | omega | (subst_vars; first | assumption | omega)⟩)) (by first | rfl | omega | (subst_vars; first | rfl | omega)) (by first | rfl | (subst_vars; rfl)) | exact g_fin (hN (by first | omega | (subst_vars; omega) | exact ⟨by first | assumption | omega | (subst_vars; first | assumption | omega), by first | assumption | omega | (subst_vars; first | assumption | omega)⟩)) (by first | rfl | omega | (subst_vars; first | rfl | omega)) (by first | rfl | (subst_vars; rfl)) | exact g_fin (hP (by first | omega | (subst_vars; omega) | exact ⟨by first | assumption | omega | (subst_vars; first | assumption | omega), by first | assumption | omega | (subst_vars; first | assumption | omega)⟩)) (by first | rfl | omega | (subst_vars; first | rfl | omega)) (by first | rfl | (subst_vars; rfl)) | exact g_fin (hY (by first | omega | (subst_vars; omega) | exact ⟨by first | assumption | omega | (subst_vars; first | assumption | omega), by first | assumption | omega | (subst_vars; first | assumption | omega)⟩)) (by first | rfl | omega | (subst_vars; first | rfl | omega)) (by rw [show kd = -1 by omega, show (40 * sp + i + -1 + 1).toNat = (40 * sp + i).toNat by omega, show (40 * sq + j + -1 + 1).toNat = (40 * sq + j).toNat by omega, show (n - 1 - -1).toNat = n.toNat by omega]) | (exfalso; omega)
                                      · refine g_aloadn (pc := 180) (i := 0) (x := 200) hK dd_X12_copy_180 rfl rfl ?_
                                        refine g_getv (pc := 181) (f := (1, 3)) (j := 2) (v := gR 203) hK (kdm kd_200) rfl ef_12 (by decide) rfl kk_1103 dd_X12_copy_181 rfl ?_
                                        refine g_bipush (pc := 184) (x := 40) hK dd_X12_copy_184 (by decide) ?_
                                        refine g_iloadn (pc := 186) (i := 2) (x := sq) hK dd_X12_copy_186 rfl rfl ?_
                                        refine g_imul (pc := 187) (z := 40 * sq) hK dd_X12_copy_187 rfl ?_
                                        refine g_iload (pc := 188) (i := 4) (x := j) hK dd_X12_copy_188 rfl ?_
                                        refine g_iadd (pc := 190) (z := (40 * sq) + j) hK dd_X12_copy_190 rfl ?_
                                        refine g_iload (pc := 191) (i := 6) (x := kd) hK dd_X12_copy_191 rfl ?_
                                        refine g_iadd (pc := 193) (z := ((40 * sq) + j) + kd) hK dd_X12_copy_193 rfl ?_
                                        refine g_aloadn (pc := 194) (i := 0) (x := 200) hK dd_X12_copy_194 rfl rfl ?_
                                        refine g_getv (pc := 195) (f := (1, 3)) (j := 2) (v := gR 203) hK (kdm kd_200) rfl ef_12 (by decide) rfl kk_1103 dd_X12_copy_195 rfl ?_
                                        refine g_bipush (pc := 198) (x := 40) hK dd_X12_copy_198 (by decide) ?_
                                        refine g_iloadn (pc := 200) (i := 1) (x := sp) hK dd_X12_copy_200 rfl rfl ?_
                                        refine g_imul (pc := 201) (z := 40 * sp) hK dd_X12_copy_201 rfl ?_
                                        refine g_iloadn (pc := 202) (i := 3) (x := i) hK dd_X12_copy_202 rfl rfl ?_
                                        refine g_iadd (pc := 203) (z := (40 * sp) + i) hK dd_X12_copy_203 rfl ?_
                                        refine g_iload (pc := 204) (i := 6) (x := kd) hK dd_X12_copy_204 rfl ?_
                                        refine g_iadd (pc := 206) (z := ((40 * sp) + i) + kd) hK dd_X12_copy_206 rfl ?_
                                        refine g_lald (pc := 207) hK (kdm kd_203) yl_203 (by decide) dd_X12_copy_207 (by omega) (by omega) (fun x81 ex81 rx81 => ?_)
                                        have ex_ := ex81
                                        refine g_last (pc := 208) hK (kdm kd_203) yl_203 (by decide) (by decide) dd_X12_copy_208 (by omega) (by omega) rx81 ?_
                                        refine g_iinc (pc := 209) (i := 6) (y := kd - 1) (L' := [(0, gR 200), (1, gI sp), (2, gI sq), (3, gI i), (4, gI j), (5, gI n), (6, gI (kd - 1))]) hK dd_X12_copy_209 rfl (by omega) (by decide) rfl ?_
                                        refine g_goto (pc := 212) (tgt := 175) hK dd_X12_copy_212 (by decide) ?_
                                        refine g_sub (L' := [(0, gR 200), (1, gI sp), (2, gI sq), (3, gI i), (4, gI j), (5, gI n), (6, gI (kd - 1))]) [0, 1, 2, 3, 4, 5, 6] rfl ?_
                                        refine g_mem (M2 := cp M 203 (M 203) (40 * sp + i + (kd - 1) + 1).toNat (40 * sq + j + (kd - 1) + 1).toNat (n - 1 - (kd - 1)).toNat) (by rw [show (40 * sp + i + kd + 1).toNat = (40 * sp + i + kd).toNat + 1 by omega, show (40 * sq + j + kd + 1).toNat = (40 * sq + j + kd).toNat + 1 by omega]; rw [show (40 * sp + i + (kd - 1) + 1).toNat = (40 * sp + i + kd).toNat by omega, show (40 * sq + j + (kd - 1) + 1).toNat = (40 * sq + j + kd).toNat by omega, show (n - 1 - (kd - 1)).toNat = (n - 1 - kd).toNat + 1 by omega]; refine cp_ds (ex_.trans ?_); rw [show (40 * sp + i + kd + 1).toNat = (40 * sp + i + kd).toNat + 1 by omega, show (40 * sq + j + kd + 1).toNat = (40 * sq + j + kd).toNat + 1 by omega, cp_rd (by omega)]) ?_
                                        exact ih76 (kd - 1) (by omega) (by omega)
                                  refine g_mem (M2 := cp M 203 (M 203) (40 * sp + i + (n - 1) + 1).toNat (40 * sq + j + (n - 1) + 1).toNat (n - 1 - (n - 1)).toNat) (by rw [show (n - 1 - (n - 1)).toNat = 0 by omega]; exact cp_0.symm) ?_
                                  refine g_sub (L' := [(0, gR 200), (1, gI sp), (2, gI sq), (3, gI i), (4, gI j), (5, gI n), (6, gI (n - 1))]) [0, 1, 2, 3, 4, 5, 6] rfl ?_
                                  exact lp77 _ (n - 1) (by omega) (Nat.lt_succ_self _)
                            · refine g_lcmp (pc := 147) (z := 1) hK dd_X12_copy_147 ⟨by omega, by omega⟩ (inL_of rx30) (by rw [if_pos (by omega)]) ?_
                              refine g_if_le (pc := 148) (tgt := 158) hK dd_X12_copy_148 (by decide) (by decide) (fun c82 => absurd c82 (by decide)) (fun _ => ?_)
                              refine g_aloadn (pc := 151) (i := 0) (x := 200) hK dd_X12_copy_151 rfl rfl ?_
                              refine g_bipush (pc := 152) (x := (-2)) hK dd_X12_copy_152 (by decide) ?_
                              refine g_callV (pc := 154) (As := [gI (-2)]) hK ws_M_152 md_X12_no ⟨Nat.zero_le _, Nat.zero_le _⟩ ⟨by decide, by decide⟩ (kdm kd_200) rfl rfl dd_X12_copy_154 rfl rfl (Nat.le_of_ble_eq_true rfl) (d_no_2 hrg (g_r1 ?_))
                              refine g_iret (pc := 157) hK hr hlocks dd_X12_copy_157 rfl ?_
                              first | exact g_fin (hB (by first | omega | (subst_vars; omega) | exact ⟨by first | assumption | omega | (subst_vars; first | assumption | omega), by first | assumption | omega | (subst_vars; first | assumption | omega)⟩)) (by first | rfl | omega | (subst_vars; first | rfl | omega)) (by first | rfl | (subst_vars; rfl)) | exact g_fin (hP (by first | omega | (subst_vars; omega) | exact ⟨by first | assumption | omega | (subst_vars; first | assumption | omega), by first | assumption | omega | (subst_vars; first | assumption | omega)⟩)) (by first | rfl | omega | (subst_vars; first | rfl | omega)) (by first | rfl | (subst_vars; rfl)) | exact g_fin (hY (by first | omega | (subst_vars; omega) | exact ⟨by first | assumption | omega | (subst_vars; first | assumption | omega), by first | assumption | omega | (subst_vars; first | assumption | omega)⟩)) (by first | rfl | omega | (subst_vars; first | rfl | omega)) (by rw [show ki = n by omega]) | (exfalso; omega)
                          · refine g_lcmp (pc := 129) (z := 0) hK dd_X12_copy_129 ⟨by omega, by omega⟩ (inL_of rx25) (by rw [if_neg (by omega), if_pos c27]) ?_
                            refine g_if_gt (pc := 130) (tgt := 151) hK dd_X12_copy_130 (by decide) (by decide) (fun c83 => absurd c83 (by decide)) (fun _ => ?_)
                            refine g_iload (pc := 133) (i := 4) (x := j) hK dd_X12_copy_133 rfl ?_
                            refine g_i2l (pc := 135) hK dd_X12_copy_135 h_j ?_
                            refine g_iload (pc := 136) (i := 5) (x := n) hK dd_X12_copy_136 rfl ?_
                            refine g_i2l (pc := 138) hK dd_X12_copy_138 h_n ?_
                            refine g_ladd (pc := 139) (z := j + n) hK dd_X12_copy_139 rfl ?_
                            refine g_aloadn (pc := 140) (i := 0) (x := 200) hK dd_X12_copy_140 rfl rfl ?_
                            refine g_getv (pc := 141) (f := (1, 2)) (j := 1) (v := gR 202) hK (kdm kd_200) rfl ef_12 (by decide) rfl kk_1102 dd_X12_copy_141 rfl ?_
                            refine g_iloadn (pc := 144) (i := 2) (x := sq) hK dd_X12_copy_144 rfl rfl ?_
                            refine g_iald (pc := 145) hK (kdm kd_202) nl_202 (by decide) dd_X12_copy_145 (by omega) (by omega) (fun x84 ex84 rx84 => ?_)
                            refine g_i2l (pc := 146) hK dd_X12_copy_146 rx84 ?_
                            rcases Int.lt_trichotomy (j + n) x84 with c85 | c86 | c87
                            · refine g_lcmp (pc := 147) (z := (-1)) hK dd_X12_copy_147 ⟨by omega, by omega⟩ (inL_of rx84) (by rw [if_neg (by omega), if_neg (by omega)]) ?_
                              refine g_if_le (pc := 148) (tgt := 158) hK dd_X12_copy_148 (by decide) (by decide) (fun _ => ?_) (fun c88 => absurd (by decide) c88)
                              refine g_iloadn (pc := 158) (i := 1) (x := sp) hK dd_X12_copy_158 rfl rfl ?_
                              refine g_iloadn (pc := 159) (i := 2) (x := sq) hK dd_X12_copy_159 rfl rfl ?_
                              refine g_icmp_ne (pc := 160) (tgt := 218) hK dd_X12_copy_160 (by decide) h_sp h_sq (fun c89 => ?_) (fun c89 => ?_)
                              · refine g_iconst (pc := 218) (x := 0) hK dd_X12_copy_218 (by decide) ?_
                                refine g_istore (pc := 219) (i := 6) (L' := [(0, gR 200), (1, gI sp), (2, gI sq), (3, gI i), (4, gI j), (5, gI n), (6, gI 0)]) hK dd_X12_copy_219 (by decide) rfl ?_
                                have lp92 : ∀ (n90 : Nat) (ki : Int), (0 ≤ ki ∧ ki ≤ n) → (n - ki).toNat < n90 → G p l e (rmD 2) s m args below meth c D cy q A 0 0 7 (MQ below (gQc D cy q A Pq) args s 0 0 A) 221 [(0, gR 200), (1, gI sp), (2, gI sq), (3, gI i), (4, gI j), (5, gI n), (6, gI ki)] [] (cp M 203 (M 203) (40 * sp + i).toNat (40 * sq + j).toNat ki.toNat) := by
                                  intro n90
                                  induction n90 with
                                  | zero => intro ki iv93 hm94; exact absurd hm94 (Nat.not_lt_zero _)
                                  | succ n90 ih91 =>
                                    intro ki iv93 hm94
                                    refine g_iload (pc := 221) (i := 6) (x := ki) hK dd_X12_copy_221 rfl ?_
                                    refine g_iload (pc := 223) (i := 5) (x := n) hK dd_X12_copy_223 rfl ?_
                                    refine g_icmp_ge (pc := 225) (tgt := 263) hK dd_X12_copy_225 (by decide) ⟨by omega, by omega⟩ h_n (fun c95 => ?_) (fun c95 => ?_)
                                    · refine g_iload (pc := 263) (i := 5) (x := n) hK dd_X12_copy_263 rfl ?_
                                      refine g_iret (pc := 265) hK hr hlocks dd_X12_copy_265 rfl ?_
                                      first | exact g_fin (hB (by first | omega | (subst_vars; omega) | exact ⟨by first | assumption | omega | (subst_vars; first | assumption | omega), by first | assumption | omega | (subst_vars; first | assumption | omega)⟩)) (by first | rfl | omega | (subst_vars; first | rfl | omega)) (by first | rfl | (subst_vars; rfl)) | exact g_fin (hO (by first | omega | (subst_vars; omega) | exact ⟨by first | assumption | omega | (subst_vars; first | assumption | omega), by first | assumption | omega | (subst_vars; first | assumption | omega)⟩)) (by first | rfl | omega | (subst_vars; first | rfl | omega)) (by first | rfl | (subst_vars; rfl)) | exact g_fin (hN (by first | omega | (subst_vars; omega) | exact ⟨by first | assumption | omega | (subst_vars; first | assumption | omega), by first | assumption | omega | (subst_vars; first | assumption | omega)⟩)) (by first | rfl | omega | (subst_vars; first | rfl | omega)) (by first | rfl | (subst_vars; rfl)) | exact g_fin (hP (by first | omega | (subst_vars; omega) | exact ⟨by first | assumption | omega | (subst_vars; first | assumption | omega), by first | assumption | omega | (subst_vars; first | assumption | omega)⟩)) (by first | rfl | omega | (subst_vars; first | rfl | omega)) (by first | rfl | (subst_vars; rfl)) | exact g_fin (hY (by first | omega | (subst_vars; omega) | exact ⟨by first | assumption | omega | (subst_vars; first | assumption | omega), by first | assumption | omega | (subst_vars; first | assumption | omega)⟩)) (by first | rfl | omega | (subst_vars; first | rfl | omega)) (by rw [show ki = n by omega]) | (exfalso; omega)
                                    · refine g_aloadn (pc := 228) (i := 0) (x := 200) hK dd_X12_copy_228 rfl rfl ?_
                                      refine g_getv (pc := 229) (f := (1, 3)) (j := 2) (v := gR 203) hK (kdm kd_200) rfl ef_12 (by decide) rfl kk_1103 dd_X12_copy_229 rfl ?_
                                      refine g_bipush (pc := 232) (x := 40) hK dd_X12_copy_232 (by decide) ?_
                                      refine g_iloadn (pc := 234) (i := 2) (x := sq) hK dd_X12_copy_234 rfl rfl ?_
                                      refine g_imul (pc := 235) (z := 40 * sq) hK dd_X12_copy_235 rfl ?_
                                      refine g_iload (pc := 236) (i := 4) (x := j) hK dd_X12_copy_236 rfl ?_
                                      refine g_iadd (pc := 238) (z := (40 * sq) + j) hK dd_X12_copy_238 rfl ?_
                                      refine g_iload (pc := 239) (i := 6) (x := ki) hK dd_X12_copy_239 rfl ?_
                                      refine g_iadd (pc := 241) (z := ((40 * sq) + j) + ki) hK dd_X12_copy_241 rfl ?_
                                      refine g_aloadn (pc := 242) (i := 0) (x := 200) hK dd_X12_copy_242 rfl rfl ?_
                                      refine g_getv (pc := 243) (f := (1, 3)) (j := 2) (v := gR 203) hK (kdm kd_200) rfl ef_12 (by decide) rfl kk_1103 dd_X12_copy_243 rfl ?_
                                      refine g_bipush (pc := 246) (x := 40) hK dd_X12_copy_246 (by decide) ?_
                                      refine g_iloadn (pc := 248) (i := 1) (x := sp) hK dd_X12_copy_248 rfl rfl ?_
                                      refine g_imul (pc := 249) (z := 40 * sp) hK dd_X12_copy_249 rfl ?_
                                      refine g_iloadn (pc := 250) (i := 3) (x := i) hK dd_X12_copy_250 rfl rfl ?_
                                      refine g_iadd (pc := 251) (z := (40 * sp) + i) hK dd_X12_copy_251 rfl ?_
                                      refine g_iload (pc := 252) (i := 6) (x := ki) hK dd_X12_copy_252 rfl ?_
                                      refine g_iadd (pc := 254) (z := ((40 * sp) + i) + ki) hK dd_X12_copy_254 rfl ?_
                                      refine g_lald (pc := 255) hK (kdm kd_203) yl_203 (by decide) dd_X12_copy_255 (by omega) (by omega) (fun x96 ex96 rx96 => ?_)
                                      have ex_ := ex96
                                      refine g_last (pc := 256) hK (kdm kd_203) yl_203 (by decide) (by decide) dd_X12_copy_256 (by omega) (by omega) rx96 ?_
                                      refine g_iinc (pc := 257) (i := 6) (y := ki + 1) (L' := [(0, gR 200), (1, gI sp), (2, gI sq), (3, gI i), (4, gI j), (5, gI n), (6, gI (ki + 1))]) hK dd_X12_copy_257 rfl rfl (by decide) rfl ?_
                                      refine g_goto (pc := 260) (tgt := 221) hK dd_X12_copy_260 (by decide) ?_
                                      refine g_sub (L' := [(0, gR 200), (1, gI sp), (2, gI sq), (3, gI i), (4, gI j), (5, gI n), (6, gI (ki + 1))]) [0, 1, 2, 3, 4, 5, 6] rfl ?_
                                      refine g_mem (M2 := cp M 203 (M 203) (40 * sp + i).toNat (40 * sq + j).toNat (ki + 1).toNat) (by rw [tn1 (by omega), show (40 * sq + j + ki).toNat = (40 * sq + j).toNat + ki.toNat by omega]; refine cp_as (ex_.trans ?_); rw [cp_rd (by omega)]; congr 1; omega) ?_
                                      exact ih91 (ki + 1) (by omega) (by omega)
                                refine g_mem (M2 := cp M 203 (M 203) (40 * sp + i).toNat (40 * sq + j).toNat (0 : Int).toNat) (cp_0.symm) ?_
                                refine g_sub (L' := [(0, gR 200), (1, gI sp), (2, gI sq), (3, gI i), (4, gI j), (5, gI n), (6, gI 0)]) [0, 1, 2, 3, 4, 5, 6] rfl ?_
                                exact lp92 _ 0 (by omega) (Nat.lt_succ_self _)
                              · refine g_iloadn (pc := 163) (i := 3) (x := i) hK dd_X12_copy_163 rfl rfl ?_
                                refine g_iload (pc := 164) (i := 4) (x := j) hK dd_X12_copy_164 rfl ?_
                                refine g_icmp_ge (pc := 166) (tgt := 218) hK dd_X12_copy_166 (by decide) h_i h_j (fun c97 => ?_) (fun c97 => ?_)
                                · refine g_iconst (pc := 218) (x := 0) hK dd_X12_copy_218 (by decide) ?_
                                  refine g_istore (pc := 219) (i := 6) (L' := [(0, gR 200), (1, gI sp), (2, gI sq), (3, gI i), (4, gI j), (5, gI n), (6, gI 0)]) hK dd_X12_copy_219 (by decide) rfl ?_
                                  have lp100 : ∀ (n98 : Nat) (ki : Int), (0 ≤ ki ∧ ki ≤ n) → (n - ki).toNat < n98 → G p l e (rmD 2) s m args below meth c D cy q A 0 0 7 (MQ below (gQc D cy q A Pq) args s 0 0 A) 221 [(0, gR 200), (1, gI sp), (2, gI sq), (3, gI i), (4, gI j), (5, gI n), (6, gI ki)] [] (cp M 203 (M 203) (40 * sp + i).toNat (40 * sq + j).toNat ki.toNat) := by
                                    intro n98
                                    induction n98 with
                                    | zero => intro ki iv101 hm102; exact absurd hm102 (Nat.not_lt_zero _)
                                    | succ n98 ih99 =>
                                      intro ki iv101 hm102
                                      refine g_iload (pc := 221) (i := 6) (x := ki) hK dd_X12_copy_221 rfl ?_
                                      refine g_iload (pc := 223) (i := 5) (x := n) hK dd_X12_copy_223 rfl ?_
                                      refine g_icmp_ge (pc := 225) (tgt := 263) hK dd_X12_copy_225 (by decide) ⟨by omega, by omega⟩ h_n (fun c103 => ?_) (fun c103 => ?_)
                                      · refine g_iload (pc := 263) (i := 5) (x := n) hK dd_X12_copy_263 rfl ?_
                                        refine g_iret (pc := 265) hK hr hlocks dd_X12_copy_265 rfl ?_
                                        first | exact g_fin (hB (by first | omega | (subst_vars; omega) | exact ⟨by first | assumption | omega | (subst_vars; first | assumption | omega), by first | assumption | omega | (subst_vars; first | assumption | omega)⟩)) (by first | rfl | omega | (subst_vars; first | rfl | omega)) (by first | rfl | (subst_vars; rfl)) | exact g_fin (hO (by first | omega | (subst_vars; omega) | exact ⟨by first | assumption | omega | (subst_vars; first | assumption | omega), by first | assumption | omega | (subst_vars; first | assumption | omega)⟩)) (by first | rfl | omega | (subst_vars; first | rfl | omega)) (by first | rfl | (subst_vars; rfl)) | exact g_fin (hN (by first | omega | (subst_vars; omega) | exact ⟨by first | assumption | omega | (subst_vars; first | assumption | omega), by first | assumption | omega | (subst_vars; first | assumption | omega)⟩)) (by first | rfl | omega | (subst_vars; first | rfl | omega)) (by first | rfl | (subst_vars; rfl)) | exact g_fin (hP (by first | omega | (subst_vars; omega) | exact ⟨by first | assumption | omega | (subst_vars; first | assumption | omega), by first | assumption | omega | (subst_vars; first | assumption | omega)⟩)) (by first | rfl | omega | (subst_vars; first | rfl | omega)) (by first | rfl | (subst_vars; rfl)) | exact g_fin (hY (by first | omega | (subst_vars; omega) | exact ⟨by first | assumption | omega | (subst_vars; first | assumption | omega), by first | assumption | omega | (subst_vars; first | assumption | omega)⟩)) (by first | rfl | omega | (subst_vars; first | rfl | omega)) (by rw [show ki = n by omega]) | (exfalso; omega)
                                      · refine g_aloadn (pc := 228) (i := 0) (x := 200) hK dd_X12_copy_228 rfl rfl ?_
                                        refine g_getv (pc := 229) (f := (1, 3)) (j := 2) (v := gR 203) hK (kdm kd_200) rfl ef_12 (by decide) rfl kk_1103 dd_X12_copy_229 rfl ?_
                                        refine g_bipush (pc := 232) (x := 40) hK dd_X12_copy_232 (by decide) ?_
                                        refine g_iloadn (pc := 234) (i := 2) (x := sq) hK dd_X12_copy_234 rfl rfl ?_
                                        refine g_imul (pc := 235) (z := 40 * sq) hK dd_X12_copy_235 rfl ?_
                                        refine g_iload (pc := 236) (i := 4) (x := j) hK dd_X12_copy_236 rfl ?_
                                        refine g_iadd (pc := 238) (z := (40 * sq) + j) hK dd_X12_copy_238 rfl ?_
                                        refine g_iload (pc := 239) (i := 6) (x := ki) hK dd_X12_copy_239 rfl ?_
                                        refine g_iadd (pc := 241) (z := ((40 * sq) + j) + ki) hK dd_X12_copy_241 rfl ?_
                                        refine g_aloadn (pc := 242) (i := 0) (x := 200) hK dd_X12_copy_242 rfl rfl ?_
                                        refine g_getv (pc := 243) (f := (1, 3)) (j := 2) (v := gR 203) hK (kdm kd_200) rfl ef_12 (by decide) rfl kk_1103 dd_X12_copy_243 rfl ?_
                                        refine g_bipush (pc := 246) (x := 40) hK dd_X12_copy_246 (by decide) ?_
                                        refine g_iloadn (pc := 248) (i := 1) (x := sp) hK dd_X12_copy_248 rfl rfl ?_
                                        refine g_imul (pc := 249) (z := 40 * sp) hK dd_X12_copy_249 rfl ?_
                                        refine g_iloadn (pc := 250) (i := 3) (x := i) hK dd_X12_copy_250 rfl rfl ?_
                                        refine g_iadd (pc := 251) (z := (40 * sp) + i) hK dd_X12_copy_251 rfl ?_
                                        refine g_iload (pc := 252) (i := 6) (x := ki) hK dd_X12_copy_252 rfl ?_
                                        refine g_iadd (pc := 254) (z := ((40 * sp) + i) + ki) hK dd_X12_copy_254 rfl ?_
                                        refine g_lald (pc := 255) hK (kdm kd_203) yl_203 (by decide) dd_X12_copy_255 (by omega) (by omega) (fun x104 ex104 rx104 => ?_)
                                        have ex_ := ex104
                                        refine g_last (pc := 256) hK (kdm kd_203) yl_203 (by decide) (by decide) dd_X12_copy_256 (by omega) (by omega) rx104 ?_
                                        refine g_iinc (pc := 257) (i := 6) (y := ki + 1) (L' := [(0, gR 200), (1, gI sp), (2, gI sq), (3, gI i), (4, gI j), (5, gI n), (6, gI (ki + 1))]) hK dd_X12_copy_257 rfl rfl (by decide) rfl ?_
                                        refine g_goto (pc := 260) (tgt := 221) hK dd_X12_copy_260 (by decide) ?_
                                        refine g_sub (L' := [(0, gR 200), (1, gI sp), (2, gI sq), (3, gI i), (4, gI j), (5, gI n), (6, gI (ki + 1))]) [0, 1, 2, 3, 4, 5, 6] rfl ?_
                                        refine g_mem (M2 := cp M 203 (M 203) (40 * sp + i).toNat (40 * sq + j).toNat (ki + 1).toNat) (by rw [tn1 (by omega), show (40 * sq + j + ki).toNat = (40 * sq + j).toNat + ki.toNat by omega]; refine cp_as (ex_.trans ?_); rw [cp_rd (by omega)]; congr 1; omega) ?_
                                        exact ih99 (ki + 1) (by omega) (by omega)
                                  refine g_mem (M2 := cp M 203 (M 203) (40 * sp + i).toNat (40 * sq + j).toNat (0 : Int).toNat) (cp_0.symm) ?_
                                  refine g_sub (L' := [(0, gR 200), (1, gI sp), (2, gI sq), (3, gI i), (4, gI j), (5, gI n), (6, gI 0)]) [0, 1, 2, 3, 4, 5, 6] rfl ?_
                                  exact lp100 _ 0 (by omega) (Nat.lt_succ_self _)
                                · refine g_iload (pc := 169) (i := 5) (x := n) hK dd_X12_copy_169 rfl ?_
                                  refine g_iconst (pc := 171) (x := 1) hK dd_X12_copy_171 (by decide) ?_
                                  refine g_isub (pc := 172) (z := n - 1) hK dd_X12_copy_172 rfl ?_
                                  refine g_istore (pc := 173) (i := 6) (L' := [(0, gR 200), (1, gI sp), (2, gI sq), (3, gI i), (4, gI j), (5, gI n), (6, gI (n - 1))]) hK dd_X12_copy_173 (by decide) rfl ?_
                                  have lp107 : ∀ (n105 : Nat) (kd : Int), (-1 ≤ kd ∧ kd < n) → (kd + 1).toNat < n105 → G p l e (rmD 2) s m args below meth c D cy q A 0 0 7 (MQ below (gQc D cy q A Pq) args s 0 0 A) 175 [(0, gR 200), (1, gI sp), (2, gI sq), (3, gI i), (4, gI j), (5, gI n), (6, gI kd)] [] (cp M 203 (M 203) (40 * sp + i + kd + 1).toNat (40 * sq + j + kd + 1).toNat (n - 1 - kd).toNat) := by
                                    intro n105
                                    induction n105 with
                                    | zero => intro kd iv108 hm109; exact absurd hm109 (Nat.not_lt_zero _)
                                    | succ n105 ih106 =>
                                      intro kd iv108 hm109
                                      refine g_iload (pc := 175) (i := 6) (x := kd) hK dd_X12_copy_175 rfl ?_
                                      refine g_if_lt (pc := 177) (tgt := 215) hK dd_X12_copy_177 (by decide) ⟨by omega, by omega⟩ (fun c110 => ?_) (fun c110 => ?_)
                                      · refine g_goto (pc := 215) (tgt := 263) hK dd_X12_copy_215 (by decide) ?_
                                        refine g_iload (pc := 263) (i := 5) (x := n) hK dd_X12_copy_263 rfl ?_
                                        refine g_iret (pc := 265) hK hr hlocks dd_X12_copy_265 rfl ?_
                                        first | exact g_fin (hB (by first | omega | (subst_vars; omega) | exact ⟨by first | assumption | omega | (subst_vars; first | assumption | omega), by first | assumption | omega | (subst_vars; first | assumption | omega)⟩)) (by first | rfl | omega | (subst_vars; first | rfl | omega)) (by first | rfl | (subst_vars; rfl)) | exact g_fin (hO (by first | omega | (subst_vars; omega) | exact ⟨by first | assumption | omega | (subst_vars; first | assumption | omega), by first | assumption | omega | (subst_vars; first | assumption | omega)⟩)) (by first | rfl | omega | (subst_vars; first | rfl | omega)) (by first | rfl | (subst_vars; rfl)) | exact g_fin (hN (by first | omega | (subst_vars; omega) | exact ⟨by first | assumption | omega | (subst_vars; first | assumption | omega), by first | assumption | omega | (subst_vars; first | assumption | omega)⟩)) (by first | rfl | omega | (subst_vars; first | rfl | omega)) (by first | rfl | (subst_vars; rfl)) | exact g_fin (hP (by first | omega | (subst_vars; omega) | exact ⟨by first | assumption | omega | (subst_vars; first | assumption | omega), by first | assumption | omega | (subst_vars; first | assumption | omega)⟩)) (by first | rfl | omega | (subst_vars; first | rfl | omega)) (by first | rfl | (subst_vars; rfl)) | exact g_fin (hY (by first | omega | (subst_vars; omega) | exact ⟨by first | assumption | omega | (subst_vars; first | assumption | omega), by first | assumption | omega | (subst_vars; first | assumption | omega)⟩)) (by first | rfl | omega | (subst_vars; first | rfl | omega)) (by rw [show kd = -1 by omega, show (40 * sp + i + -1 + 1).toNat = (40 * sp + i).toNat by omega, show (40 * sq + j + -1 + 1).toNat = (40 * sq + j).toNat by omega, show (n - 1 - -1).toNat = n.toNat by omega]) | (exfalso; omega)
                                      · refine g_aloadn (pc := 180) (i := 0) (x := 200) hK dd_X12_copy_180 rfl rfl ?_
                                        refine g_getv (pc := 181) (f := (1, 3)) (j := 2) (v := gR 203) hK (kdm kd_200) rfl ef_12 (by decide) rfl kk_1103 dd_X12_copy_181 rfl ?_
                                        refine g_bipush (pc := 184) (x := 40) hK dd_X12_copy_184 (by decide) ?_
                                        refine g_iloadn (pc := 186) (i := 2) (x := sq) hK dd_X12_copy_186 rfl rfl ?_
                                        refine g_imul (pc := 187) (z := 40 * sq) hK dd_X12_copy_187 rfl ?_
                                        refine g_iload (pc := 188) (i := 4) (x := j) hK dd_X12_copy_188 rfl ?_
                                        refine g_iadd (pc := 190) (z := (40 * sq) + j) hK dd_X12_copy_190 rfl ?_
                                        refine g_iload (pc := 191) (i := 6) (x := kd) hK dd_X12_copy_191 rfl ?_
                                        refine g_iadd (pc := 193) (z := ((40 * sq) + j) + kd) hK dd_X12_copy_193 rfl ?_
                                        refine g_aloadn (pc := 194) (i := 0) (x := 200) hK dd_X12_copy_194 rfl rfl ?_
                                        refine g_getv (pc := 195) (f := (1, 3)) (j := 2) (v := gR 203) hK (kdm kd_200) rfl ef_12 (by decide) rfl kk_1103 dd_X12_copy_195 rfl ?_
                                        refine g_bipush (pc := 198) (x := 40) hK dd_X12_copy_198 (by decide) ?_
                                        refine g_iloadn (pc := 200) (i := 1) (x := sp) hK dd_X12_copy_200 rfl rfl ?_
                                        refine g_imul (pc := 201) (z := 40 * sp) hK dd_X12_copy_201 rfl ?_
                                        refine g_iloadn (pc := 202) (i := 3) (x := i) hK dd_X12_copy_202 rfl rfl ?_
                                        refine g_iadd (pc := 203) (z := (40 * sp) + i) hK dd_X12_copy_203 rfl ?_
                                        refine g_iload (pc := 204) (i := 6) (x := kd) hK dd_X12_copy_204 rfl ?_
                                        refine g_iadd (pc := 206) (z := ((40 * sp) + i) + kd) hK dd_X12_copy_206 rfl ?_
                                        refine g_lald (pc := 207) hK (kdm kd_203) yl_203 (by decide) dd_X12_copy_207 (by omega) (by omega) (fun x111 ex111 rx111 => ?_)
                                        have ex_ := ex111
                                        refine g_last (pc := 208) hK (kdm kd_203) yl_203 (by decide) (by decide) dd_X12_copy_208 (by omega) (by omega) rx111 ?_
                                        refine g_iinc (pc := 209) (i := 6) (y := kd - 1) (L' := [(0, gR 200), (1, gI sp), (2, gI sq), (3, gI i), (4, gI j), (5, gI n), (6, gI (kd - 1))]) hK dd_X12_copy_209 rfl (by omega) (by decide) rfl ?_
                                        refine g_goto (pc := 212) (tgt := 175) hK dd_X12_copy_212 (by decide) ?_
                                        refine g_sub (L' := [(0, gR 200), (1, gI sp), (2, gI sq), (3, gI i), (4, gI j), (5, gI n), (6, gI (kd - 1))]) [0, 1, 2, 3, 4, 5, 6] rfl ?_
                                        refine g_mem (M2 := cp M 203 (M 203) (40 * sp + i + (kd - 1) + 1).toNat (40 * sq + j + (kd - 1) + 1).toNat (n - 1 - (kd - 1)).toNat) (by rw [show (40 * sp + i + kd + 1).toNat = (40 * sp + i + kd).toNat + 1 by omega, show (40 * sq + j + kd + 1).toNat = (40 * sq + j + kd).toNat + 1 by omega]; rw [show (40 * sp + i + (kd - 1) + 1).toNat = (40 * sp + i + kd).toNat by omega, show (40 * sq + j + (kd - 1) + 1).toNat = (40 * sq + j + kd).toNat by omega, show (n - 1 - (kd - 1)).toNat = (n - 1 - kd).toNat + 1 by omega]; refine cp_ds (ex_.trans ?_); rw [show (40 * sp + i + kd + 1).toNat = (40 * sp + i + kd).toNat + 1 by omega, show (40 * sq + j + kd + 1).toNat = (40 * sq + j + kd).toNat + 1 by omega, cp_rd (by omega)]) ?_
                                        exact ih106 (kd - 1) (by omega) (by omega)
                                  refine g_mem (M2 := cp M 203 (M 203) (40 * sp + i + (n - 1) + 1).toNat (40 * sq + j + (n - 1) + 1).toNat (n - 1 - (n - 1)).toNat) (by rw [show (n - 1 - (n - 1)).toNat = 0 by omega]; exact cp_0.symm) ?_
                                  refine g_sub (L' := [(0, gR 200), (1, gI sp), (2, gI sq), (3, gI i), (4, gI j), (5, gI n), (6, gI (n - 1))]) [0, 1, 2, 3, 4, 5, 6] rfl ?_
                                  exact lp107 _ (n - 1) (by omega) (Nat.lt_succ_self _)
                            · refine g_lcmp (pc := 147) (z := 0) hK dd_X12_copy_147 ⟨by omega, by omega⟩ (inL_of rx84) (by rw [if_neg (by omega), if_pos c86]) ?_
                              refine g_if_le (pc := 148) (tgt := 158) hK dd_X12_copy_148 (by decide) (by decide) (fun _ => ?_) (fun c112 => absurd (by decide) c112)
                              refine g_iloadn (pc := 158) (i := 1) (x := sp) hK dd_X12_copy_158 rfl rfl ?_
                              refine g_iloadn (pc := 159) (i := 2) (x := sq) hK dd_X12_copy_159 rfl rfl ?_
                              refine g_icmp_ne (pc := 160) (tgt := 218) hK dd_X12_copy_160 (by decide) h_sp h_sq (fun c113 => ?_) (fun c113 => ?_)
                              · refine g_iconst (pc := 218) (x := 0) hK dd_X12_copy_218 (by decide) ?_
                                refine g_istore (pc := 219) (i := 6) (L' := [(0, gR 200), (1, gI sp), (2, gI sq), (3, gI i), (4, gI j), (5, gI n), (6, gI 0)]) hK dd_X12_copy_219 (by decide) rfl ?_
                                have lp116 : ∀ (n114 : Nat) (ki : Int), (0 ≤ ki ∧ ki ≤ n) → (n - ki).toNat < n114 → G p l e (rmD 2) s m args below meth c D cy q A 0 0 7 (MQ below (gQc D cy q A Pq) args s 0 0 A) 221 [(0, gR 200), (1, gI sp), (2, gI sq), (3, gI i), (4, gI j), (5, gI n), (6, gI ki)] [] (cp M 203 (M 203) (40 * sp + i).toNat (40 * sq + j).toNat ki.toNat) := by
                                  intro n114
                                  induction n114 with
                                  | zero => intro ki iv117 hm118; exact absurd hm118 (Nat.not_lt_zero _)
                                  | succ n114 ih115 =>
                                    intro ki iv117 hm118
                                    refine g_iload (pc := 221) (i := 6) (x := ki) hK dd_X12_copy_221 rfl ?_
                                    refine g_iload (pc := 223) (i := 5) (x := n) hK dd_X12_copy_223 rfl ?_
                                    refine g_icmp_ge (pc := 225) (tgt := 263) hK dd_X12_copy_225 (by decide) ⟨by omega, by omega⟩ h_n (fun c119 => ?_) (fun c119 => ?_)
                                    · refine g_iload (pc := 263) (i := 5) (x := n) hK dd_X12_copy_263 rfl ?_
                                      refine g_iret (pc := 265) hK hr hlocks dd_X12_copy_265 rfl ?_
                                      first | exact g_fin (hB (by first | omega | (subst_vars; omega) | exact ⟨by first | assumption | omega | (subst_vars; first | assumption | omega), by first | assumption | omega | (subst_vars; first | assumption | omega)⟩)) (by first | rfl | omega | (subst_vars; first | rfl | omega)) (by first | rfl | (subst_vars; rfl)) | exact g_fin (hO (by first | omega | (subst_vars; omega) | exact ⟨by first | assumption | omega | (subst_vars; first | assumption | omega), by first | assumption | omega | (subst_vars; first | assumption | omega)⟩)) (by first | rfl | omega | (subst_vars; first | rfl | omega)) (by first | rfl | (subst_vars; rfl)) | exact g_fin (hN (by first | omega | (subst_vars; omega) | exact ⟨by first | assumption | omega | (subst_vars; first | assumption | omega), by first | assumption | omega | (subst_vars; first | assumption | omega)⟩)) (by first | rfl | omega | (subst_vars; first | rfl | omega)) (by first | rfl | (subst_vars; rfl)) | exact g_fin (hP (by first | omega | (subst_vars; omega) | exact ⟨by first | assumption | omega | (subst_vars; first | assumption | omega), by first | assumption | omega | (subst_vars; first | assumption | omega)⟩)) (by first | rfl | omega | (subst_vars; first | rfl | omega)) (by first | rfl | (subst_vars; rfl)) | exact g_fin (hY (by first | omega | (subst_vars; omega) | exact ⟨by first | assumption | omega | (subst_vars; first | assumption | omega), by first | assumption | omega | (subst_vars; first | assumption | omega)⟩)) (by first | rfl | omega | (subst_vars; first | rfl | omega)) (by rw [show ki = n by omega]) | (exfalso; omega)
                                    · refine g_aloadn (pc := 228) (i := 0) (x := 200) hK dd_X12_copy_228 rfl rfl ?_
                                      refine g_getv (pc := 229) (f := (1, 3)) (j := 2) (v := gR 203) hK (kdm kd_200) rfl ef_12 (by decide) rfl kk_1103 dd_X12_copy_229 rfl ?_
                                      refine g_bipush (pc := 232) (x := 40) hK dd_X12_copy_232 (by decide) ?_
                                      refine g_iloadn (pc := 234) (i := 2) (x := sq) hK dd_X12_copy_234 rfl rfl ?_
                                      refine g_imul (pc := 235) (z := 40 * sq) hK dd_X12_copy_235 rfl ?_
                                      refine g_iload (pc := 236) (i := 4) (x := j) hK dd_X12_copy_236 rfl ?_
                                      refine g_iadd (pc := 238) (z := (40 * sq) + j) hK dd_X12_copy_238 rfl ?_
                                      refine g_iload (pc := 239) (i := 6) (x := ki) hK dd_X12_copy_239 rfl ?_
                                      refine g_iadd (pc := 241) (z := ((40 * sq) + j) + ki) hK dd_X12_copy_241 rfl ?_
                                      refine g_aloadn (pc := 242) (i := 0) (x := 200) hK dd_X12_copy_242 rfl rfl ?_
                                      refine g_getv (pc := 243) (f := (1, 3)) (j := 2) (v := gR 203) hK (kdm kd_200) rfl ef_12 (by decide) rfl kk_1103 dd_X12_copy_243 rfl ?_
                                      refine g_bipush (pc := 246) (x := 40) hK dd_X12_copy_246 (by decide) ?_
                                      refine g_iloadn (pc := 248) (i := 1) (x := sp) hK dd_X12_copy_248 rfl rfl ?_
                                      refine g_imul (pc := 249) (z := 40 * sp) hK dd_X12_copy_249 rfl ?_
                                      refine g_iloadn (pc := 250) (i := 3) (x := i) hK dd_X12_copy_250 rfl rfl ?_
                                      refine g_iadd (pc := 251) (z := (40 * sp) + i) hK dd_X12_copy_251 rfl ?_
                                      refine g_iload (pc := 252) (i := 6) (x := ki) hK dd_X12_copy_252 rfl ?_
                                      refine g_iadd (pc := 254) (z := ((40 * sp) + i) + ki) hK dd_X12_copy_254 rfl ?_
                                      refine g_lald (pc := 255) hK (kdm kd_203) yl_203 (by decide) dd_X12_copy_255 (by omega) (by omega) (fun x120 ex120 rx120 => ?_)
                                      have ex_ := ex120
                                      refine g_last (pc := 256) hK (kdm kd_203) yl_203 (by decide) (by decide) dd_X12_copy_256 (by omega) (by omega) rx120 ?_
                                      refine g_iinc (pc := 257) (i := 6) (y := ki + 1) (L' := [(0, gR 200), (1, gI sp), (2, gI sq), (3, gI i), (4, gI j), (5, gI n), (6, gI (ki + 1))]) hK dd_X12_copy_257 rfl rfl (by decide) rfl ?_
                                      refine g_goto (pc := 260) (tgt := 221) hK dd_X12_copy_260 (by decide) ?_
                                      refine g_sub (L' := [(0, gR 200), (1, gI sp), (2, gI sq), (3, gI i), (4, gI j), (5, gI n), (6, gI (ki + 1))]) [0, 1, 2, 3, 4, 5, 6] rfl ?_
                                      refine g_mem (M2 := cp M 203 (M 203) (40 * sp + i).toNat (40 * sq + j).toNat (ki + 1).toNat) (by rw [tn1 (by omega), show (40 * sq + j + ki).toNat = (40 * sq + j).toNat + ki.toNat by omega]; refine cp_as (ex_.trans ?_); rw [cp_rd (by omega)]; congr 1; omega) ?_
                                      exact ih115 (ki + 1) (by omega) (by omega)
                                refine g_mem (M2 := cp M 203 (M 203) (40 * sp + i).toNat (40 * sq + j).toNat (0 : Int).toNat) (cp_0.symm) ?_
                                refine g_sub (L' := [(0, gR 200), (1, gI sp), (2, gI sq), (3, gI i), (4, gI j), (5, gI n), (6, gI 0)]) [0, 1, 2, 3, 4, 5, 6] rfl ?_
                                exact lp116 _ 0 (by omega) (Nat.lt_succ_self _)
                              · refine g_iloadn (pc := 163) (i := 3) (x := i) hK dd_X12_copy_163 rfl rfl ?_
                                refine g_iload (pc := 164) (i := 4) (x := j) hK dd_X12_copy_164 rfl ?_
                                refine g_icmp_ge (pc := 166) (tgt := 218) hK dd_X12_copy_166 (by decide) h_i h_j (fun c121 => ?_) (fun c121 => ?_)
                                · refine g_iconst (pc := 218) (x := 0) hK dd_X12_copy_218 (by decide) ?_
                                  refine g_istore (pc := 219) (i := 6) (L' := [(0, gR 200), (1, gI sp), (2, gI sq), (3, gI i), (4, gI j), (5, gI n), (6, gI 0)]) hK dd_X12_copy_219 (by decide) rfl ?_
                                  have lp124 : ∀ (n122 : Nat) (ki : Int), (0 ≤ ki ∧ ki ≤ n) → (n - ki).toNat < n122 → G p l e (rmD 2) s m args below meth c D cy q A 0 0 7 (MQ below (gQc D cy q A Pq) args s 0 0 A) 221 [(0, gR 200), (1, gI sp), (2, gI sq), (3, gI i), (4, gI j), (5, gI n), (6, gI ki)] [] (cp M 203 (M 203) (40 * sp + i).toNat (40 * sq + j).toNat ki.toNat) := by
                                    intro n122
                                    induction n122 with
                                    | zero => intro ki iv125 hm126; exact absurd hm126 (Nat.not_lt_zero _)
                                    | succ n122 ih123 =>
                                      intro ki iv125 hm126
                                      refine g_iload (pc := 221) (i := 6) (x := ki) hK dd_X12_copy_221 rfl ?_
                                      refine g_iload (pc := 223) (i := 5) (x := n) hK dd_X12_copy_223 rfl ?_
                                      refine g_icmp_ge (pc := 225) (tgt := 263) hK dd_X12_copy_225 (by decide) ⟨by omega, by omega⟩ h_n (fun c127 => ?_) (fun c127 => ?_)
                                      · refine g_iload (pc := 263) (i := 5) (x := n) hK dd_X12_copy_263 rfl ?_
                                        refine g_iret (pc := 265) hK hr hlocks dd_X12_copy_265 rfl ?_
                                        first | exact g_fin (hB (by first | omega | (subst_vars; omega) | exact ⟨by first | assumption | omega | (subst_vars; first | assumption | omega), by first | assumption | omega | (subst_vars; first | assumption | omega)⟩)) (by first | rfl | omega | (subst_vars; first | rfl | omega)) (by first | rfl | (subst_vars; rfl)) | exact g_fin (hO (by first | omega | (subst_vars; omega) | exact ⟨by first | assumption | omega | (subst_vars; first | assumption | omega), by first | assumption | omega | (subst_vars; first | assumption | omega)⟩)) (by first | rfl | omega | (subst_vars; first | rfl | omega)) (by first | rfl | (subst_vars; rfl)) | exact g_fin (hN (by first | omega | (subst_vars; omega) | exact ⟨by first | assumption | omega | (subst_vars; first | assumption | omega), by first | assumption | omega | (subst_vars; first | assumption | omega)⟩)) (by first | rfl | omega | (subst_vars; first | rfl | omega)) (by first | rfl | (subst_vars; rfl)) | exact g_fin (hP (by first | omega | (subst_vars; omega) | exact ⟨by first | assumption | omega | (subst_vars; first | assumption | omega), by first | assumption | omega | (subst_vars; first | assumption | omega)⟩)) (by first | rfl | omega | (subst_vars; first | rfl | omega)) (by first | rfl | (subst_vars; rfl)) | exact g_fin (hY (by first | omega | (subst_vars; omega) | exact ⟨by first | assumption | omega | (subst_vars; first | assumption | omega), by first | assumption | omega | (subst_vars; first | assumption | omega)⟩)) (by first | rfl | omega | (subst_vars; first | rfl | omega)) (by rw [show ki = n by omega]) | (exfalso; omega)
                                      · refine g_aloadn (pc := 228) (i := 0) (x := 200) hK dd_X12_copy_228 rfl rfl ?_
                                        refine g_getv (pc := 229) (f := (1, 3)) (j := 2) (v := gR 203) hK (kdm kd_200) rfl ef_12 (by decide) rfl kk_1103 dd_X12_copy_229 rfl ?_
                                        refine g_bipush (pc := 232) (x := 40) hK dd_X12_copy_232 (by decide) ?_
                                        refine g_iloadn (pc := 234) (i := 2) (x := sq) hK dd_X12_copy_234 rfl rfl ?_
                                        refine g_imul (pc := 235) (z := 40 * sq) hK dd_X12_copy_235 rfl ?_
                                        refine g_iload (pc := 236) (i := 4) (x := j) hK dd_X12_copy_236 rfl ?_
                                        refine g_iadd (pc := 238) (z := (40 * sq) + j) hK dd_X12_copy_238 rfl ?_
                                        refine g_iload (pc := 239) (i := 6) (x := ki) hK dd_X12_copy_239 rfl ?_
                                        refine g_iadd (pc := 241) (z := ((40 * sq) + j) + ki) hK dd_X12_copy_241 rfl ?_
                                        refine g_aloadn (pc := 242) (i := 0) (x := 200) hK dd_X12_copy_242 rfl rfl ?_
                                        refine g_getv (pc := 243) (f := (1, 3)) (j := 2) (v := gR 203) hK (kdm kd_200) rfl ef_12 (by decide) rfl kk_1103 dd_X12_copy_243 rfl ?_
                                        refine g_bipush (pc := 246) (x := 40) hK dd_X12_copy_246 (by decide) ?_
                                        refine g_iloadn (pc := 248) (i := 1) (x := sp) hK dd_X12_copy_248 rfl rfl ?_
                                        refine g_imul (pc := 249) (z := 40 * sp) hK dd_X12_copy_249 rfl ?_
                                        refine g_iloadn (pc := 250) (i := 3) (x := i) hK dd_X12_copy_250 rfl rfl ?_
                                        refine g_iadd (pc := 251) (z := (40 * sp) + i) hK dd_X12_copy_251 rfl ?_
                                        refine g_iload (pc := 252) (i := 6) (x := ki) hK dd_X12_copy_252 rfl ?_
                                        refine g_iadd (pc := 254) (z := ((40 * sp) + i) + ki) hK dd_X12_copy_254 rfl ?_
                                        refine g_lald (pc := 255) hK (kdm kd_203) yl_203 (by decide) dd_X12_copy_255 (by omega) (by omega) (fun x128 ex128 rx128 => ?_)
                                        have ex_ := ex128
                                        refine g_last (pc := 256) hK (kdm kd_203) yl_203 (by decide) (by decide) dd_X12_copy_256 (by omega) (by omega) rx128 ?_
                                        refine g_iinc (pc := 257) (i := 6) (y := ki + 1) (L' := [(0, gR 200), (1, gI sp), (2, gI sq), (3, gI i), (4, gI j), (5, gI n), (6, gI (ki + 1))]) hK dd_X12_copy_257 rfl rfl (by decide) rfl ?_
                                        refine g_goto (pc := 260) (tgt := 221) hK dd_X12_copy_260 (by decide) ?_
                                        refine g_sub (L' := [(0, gR 200), (1, gI sp), (2, gI sq), (3, gI i), (4, gI j), (5, gI n), (6, gI (ki + 1))]) [0, 1, 2, 3, 4, 5, 6] rfl ?_
                                        refine g_mem (M2 := cp M 203 (M 203) (40 * sp + i).toNat (40 * sq + j).toNat (ki + 1).toNat) (by rw [tn1 (by omega), show (40 * sq + j + ki).toNat = (40 * sq + j).toNat + ki.toNat by omega]; refine cp_as (ex_.trans ?_); rw [cp_rd (by omega)]; congr 1; omega) ?_
                                        exact ih123 (ki + 1) (by omega) (by omega)
                                  refine g_mem (M2 := cp M 203 (M 203) (40 * sp + i).toNat (40 * sq + j).toNat (0 : Int).toNat) (cp_0.symm) ?_
                                  refine g_sub (L' := [(0, gR 200), (1, gI sp), (2, gI sq), (3, gI i), (4, gI j), (5, gI n), (6, gI 0)]) [0, 1, 2, 3, 4, 5, 6] rfl ?_
                                  exact lp124 _ 0 (by omega) (Nat.lt_succ_self _)
                                · refine g_iload (pc := 169) (i := 5) (x := n) hK dd_X12_copy_169 rfl ?_
                                  refine g_iconst (pc := 171) (x := 1) hK dd_X12_copy_171 (by decide) ?_
                                  refine g_isub (pc := 172) (z := n - 1) hK dd_X12_copy_172 rfl ?_
                                  refine g_istore (pc := 173) (i := 6) (L' := [(0, gR 200), (1, gI sp), (2, gI sq), (3, gI i), (4, gI j), (5, gI n), (6, gI (n - 1))]) hK dd_X12_copy_173 (by decide) rfl ?_
                                  have lp131 : ∀ (n129 : Nat) (kd : Int), (-1 ≤ kd ∧ kd < n) → (kd + 1).toNat < n129 → G p l e (rmD 2) s m args below meth c D cy q A 0 0 7 (MQ below (gQc D cy q A Pq) args s 0 0 A) 175 [(0, gR 200), (1, gI sp), (2, gI sq), (3, gI i), (4, gI j), (5, gI n), (6, gI kd)] [] (cp M 203 (M 203) (40 * sp + i + kd + 1).toNat (40 * sq + j + kd + 1).toNat (n - 1 - kd).toNat) := by
                                    intro n129
                                    induction n129 with
                                    | zero => intro kd iv132 hm133; exact absurd hm133 (Nat.not_lt_zero _)
                                    | succ n129 ih130 =>
                                      intro kd iv132 hm133
                                      refine g_iload (pc := 175) (i := 6) (x := kd) hK dd_X12_copy_175 rfl ?_
                                      refine g_if_lt (pc := 177) (tgt := 215) hK dd_X12_copy_177 (by decide) ⟨by omega, by omega⟩ (fun c134 => ?_) (fun c134 => ?_)
                                      · refine g_goto (pc := 215) (tgt := 263) hK dd_X12_copy_215 (by decide) ?_
                                        refine g_iload (pc := 263) (i := 5) (x := n) hK dd_X12_copy_263 rfl ?_
                                        refine g_iret (pc := 265) hK hr hlocks dd_X12_copy_265 rfl ?_
                                        first | exact g_fin (hB (by first | omega | (subst_vars; omega) | exact ⟨by first | assumption | omega | (subst_vars; first | assumption | omega), by first | assumption | omega | (subst_vars; first | assumption | omega)⟩)) (by first | rfl | omega | (subst_vars; first | rfl | omega)) (by first | rfl | (subst_vars; rfl)) | exact g_fin (hO (by first | omega | (subst_vars; omega) | exact ⟨by first | assumption | omega | (subst_vars; first | assumption | omega), by first | assumption | omega | (subst_vars; first | assumption | omega)⟩)) (by first | rfl | omega | (subst_vars; first | rfl | omega)) (by first | rfl | (subst_vars; rfl)) | exact g_fin (hN (by first | omega | (subst_vars; omega) | exact ⟨by first | assumption | omega | (subst_vars; first | assumption | omega), by first | assumption | omega | (subst_vars; first | assumption | omega)⟩)) (by first | rfl | omega | (subst_vars; first | rfl | omega)) (by first | rfl | (subst_vars; rfl)) | exact g_fin (hP (by first | omega | (subst_vars; omega) | exact ⟨by first | assumption | omega | (subst_vars; first | assumption | omega), by first | assumption | omega | (subst_vars; first | assumption | omega)⟩)) (by first | rfl | omega | (subst_vars; first | rfl | omega)) (by first | rfl | (subst_vars; rfl)) | exact g_fin (hY (by first | omega | (subst_vars; omega) | exact ⟨by first | assumption | omega | (subst_vars; first | assumption | omega), by first | assumption | omega | (subst_vars; first | assumption | omega)⟩)) (by first | rfl | omega | (subst_vars; first | rfl | omega)) (by rw [show kd = -1 by omega, show (40 * sp + i + -1 + 1).toNat = (40 * sp + i).toNat by omega, show (40 * sq + j + -1 + 1).toNat = (40 * sq + j).toNat by omega, show (n - 1 - -1).toNat = n.toNat by omega]) | (exfalso; omega)
                                      · refine g_aloadn (pc := 180) (i := 0) (x := 200) hK dd_X12_copy_180 rfl rfl ?_
                                        refine g_getv (pc := 181) (f := (1, 3)) (j := 2) (v := gR 203) hK (kdm kd_200) rfl ef_12 (by decide) rfl kk_1103 dd_X12_copy_181 rfl ?_
                                        refine g_bipush (pc := 184) (x := 40) hK dd_X12_copy_184 (by decide) ?_
                                        refine g_iloadn (pc := 186) (i := 2) (x := sq) hK dd_X12_copy_186 rfl rfl ?_
                                        refine g_imul (pc := 187) (z := 40 * sq) hK dd_X12_copy_187 rfl ?_
                                        refine g_iload (pc := 188) (i := 4) (x := j) hK dd_X12_copy_188 rfl ?_
                                        refine g_iadd (pc := 190) (z := (40 * sq) + j) hK dd_X12_copy_190 rfl ?_
                                        refine g_iload (pc := 191) (i := 6) (x := kd) hK dd_X12_copy_191 rfl ?_
                                        refine g_iadd (pc := 193) (z := ((40 * sq) + j) + kd) hK dd_X12_copy_193 rfl ?_
                                        refine g_aloadn (pc := 194) (i := 0) (x := 200) hK dd_X12_copy_194 rfl rfl ?_
                                        refine g_getv (pc := 195) (f := (1, 3)) (j := 2) (v := gR 203) hK (kdm kd_200) rfl ef_12 (by decide) rfl kk_1103 dd_X12_copy_195 rfl ?_
                                        refine g_bipush (pc := 198) (x := 40) hK dd_X12_copy_198 (by decide) ?_
                                        refine g_iloadn (pc := 200) (i := 1) (x := sp) hK dd_X12_copy_200 rfl rfl ?_
                                        refine g_imul (pc := 201) (z := 40 * sp) hK dd_X12_copy_201 rfl ?_
                                        refine g_iloadn (pc := 202) (i := 3) (x := i) hK dd_X12_copy_202 rfl rfl ?_
                                        refine g_iadd (pc := 203) (z := (40 * sp) + i) hK dd_X12_copy_203 rfl ?_
                                        refine g_iload (pc := 204) (i := 6) (x := kd) hK dd_X12_copy_204 rfl ?_
                                        refine g_iadd (pc := 206) (z := ((40 * sp) + i) + kd) hK dd_X12_copy_206 rfl ?_
                                        refine g_lald (pc := 207) hK (kdm kd_203) yl_203 (by decide) dd_X12_copy_207 (by omega) (by omega) (fun x135 ex135 rx135 => ?_)
                                        have ex_ := ex135
                                        refine g_last (pc := 208) hK (kdm kd_203) yl_203 (by decide) (by decide) dd_X12_copy_208 (by omega) (by omega) rx135 ?_
                                        refine g_iinc (pc := 209) (i := 6) (y := kd - 1) (L' := [(0, gR 200), (1, gI sp), (2, gI sq), (3, gI i), (4, gI j), (5, gI n), (6, gI (kd - 1))]) hK dd_X12_copy_209 rfl (by omega) (by decide) rfl ?_
                                        refine g_goto (pc := 212) (tgt := 175) hK dd_X12_copy_212 (by decide) ?_
                                        refine g_sub (L' := [(0, gR 200), (1, gI sp), (2, gI sq), (3, gI i), (4, gI j), (5, gI n), (6, gI (kd - 1))]) [0, 1, 2, 3, 4, 5, 6] rfl ?_
                                        refine g_mem (M2 := cp M 203 (M 203) (40 * sp + i + (kd - 1) + 1).toNat (40 * sq + j + (kd - 1) + 1).toNat (n - 1 - (kd - 1)).toNat) (by rw [show (40 * sp + i + kd + 1).toNat = (40 * sp + i + kd).toNat + 1 by omega, show (40 * sq + j + kd + 1).toNat = (40 * sq + j + kd).toNat + 1 by omega]; rw [show (40 * sp + i + (kd - 1) + 1).toNat = (40 * sp + i + kd).toNat by omega, show (40 * sq + j + (kd - 1) + 1).toNat = (40 * sq + j + kd).toNat by omega, show (n - 1 - (kd - 1)).toNat = (n - 1 - kd).toNat + 1 by omega]; refine cp_ds (ex_.trans ?_); rw [show (40 * sp + i + kd + 1).toNat = (40 * sp + i + kd).toNat + 1 by omega, show (40 * sq + j + kd + 1).toNat = (40 * sq + j + kd).toNat + 1 by omega, cp_rd (by omega)]) ?_
                                        exact ih130 (kd - 1) (by omega) (by omega)
                                  refine g_mem (M2 := cp M 203 (M 203) (40 * sp + i + (n - 1) + 1).toNat (40 * sq + j + (n - 1) + 1).toNat (n - 1 - (n - 1)).toNat) (by rw [show (n - 1 - (n - 1)).toNat = 0 by omega]; exact cp_0.symm) ?_
                                  refine g_sub (L' := [(0, gR 200), (1, gI sp), (2, gI sq), (3, gI i), (4, gI j), (5, gI n), (6, gI (n - 1))]) [0, 1, 2, 3, 4, 5, 6] rfl ?_
                                  exact lp131 _ (n - 1) (by omega) (Nat.lt_succ_self _)
                            · refine g_lcmp (pc := 147) (z := 1) hK dd_X12_copy_147 ⟨by omega, by omega⟩ (inL_of rx84) (by rw [if_pos (by omega)]) ?_
                              refine g_if_le (pc := 148) (tgt := 158) hK dd_X12_copy_148 (by decide) (by decide) (fun c136 => absurd c136 (by decide)) (fun _ => ?_)
                              refine g_aloadn (pc := 151) (i := 0) (x := 200) hK dd_X12_copy_151 rfl rfl ?_
                              refine g_bipush (pc := 152) (x := (-2)) hK dd_X12_copy_152 (by decide) ?_
                              refine g_callV (pc := 154) (As := [gI (-2)]) hK ws_M_152 md_X12_no ⟨Nat.zero_le _, Nat.zero_le _⟩ ⟨by decide, by decide⟩ (kdm kd_200) rfl rfl dd_X12_copy_154 rfl rfl (Nat.le_of_ble_eq_true rfl) (d_no_2 hrg (g_r1 ?_))
                              refine g_iret (pc := 157) hK hr hlocks dd_X12_copy_157 rfl ?_
                              first | exact g_fin (hB (by first | omega | (subst_vars; omega) | exact ⟨by first | assumption | omega | (subst_vars; first | assumption | omega), by first | assumption | omega | (subst_vars; first | assumption | omega)⟩)) (by first | rfl | omega | (subst_vars; first | rfl | omega)) (by first | rfl | (subst_vars; rfl)) | exact g_fin (hP (by first | omega | (subst_vars; omega) | exact ⟨by first | assumption | omega | (subst_vars; first | assumption | omega), by first | assumption | omega | (subst_vars; first | assumption | omega)⟩)) (by first | rfl | omega | (subst_vars; first | rfl | omega)) (by first | rfl | (subst_vars; rfl)) | exact g_fin (hY (by first | omega | (subst_vars; omega) | exact ⟨by first | assumption | omega | (subst_vars; first | assumption | omega), by first | assumption | omega | (subst_vars; first | assumption | omega)⟩)) (by first | rfl | omega | (subst_vars; first | rfl | omega)) (by rw [show ki = n by omega]) | (exfalso; omega)
                          · refine g_lcmp (pc := 129) (z := 1) hK dd_X12_copy_129 ⟨by omega, by omega⟩ (inL_of rx25) (by rw [if_pos (by omega)]) ?_
                            refine g_if_gt (pc := 130) (tgt := 151) hK dd_X12_copy_130 (by decide) (by decide) (fun _ => ?_) (fun c137 => absurd (by decide) c137)
                            refine g_aloadn (pc := 151) (i := 0) (x := 200) hK dd_X12_copy_151 rfl rfl ?_
                            refine g_bipush (pc := 152) (x := (-2)) hK dd_X12_copy_152 (by decide) ?_
                            refine g_callV (pc := 154) (As := [gI (-2)]) hK ws_M_152 md_X12_no ⟨Nat.zero_le _, Nat.zero_le _⟩ ⟨by decide, by decide⟩ (kdm kd_200) rfl rfl dd_X12_copy_154 rfl rfl (Nat.le_of_ble_eq_true rfl) (d_no_2 hrg (g_r1 ?_))
                            refine g_iret (pc := 157) hK hr hlocks dd_X12_copy_157 rfl ?_
                            first | exact g_fin (hB (by first | omega | (subst_vars; omega) | exact ⟨by first | assumption | omega | (subst_vars; first | assumption | omega), by first | assumption | omega | (subst_vars; first | assumption | omega)⟩)) (by first | rfl | omega | (subst_vars; first | rfl | omega)) (by first | rfl | (subst_vars; rfl)) | exact g_fin (hP (by first | omega | (subst_vars; omega) | exact ⟨by first | assumption | omega | (subst_vars; first | assumption | omega), by first | assumption | omega | (subst_vars; first | assumption | omega)⟩)) (by first | rfl | omega | (subst_vars; first | rfl | omega)) (by first | rfl | (subst_vars; rfl)) | exact g_fin (hY (by first | omega | (subst_vars; omega) | exact ⟨by first | assumption | omega | (subst_vars; first | assumption | omega), by first | assumption | omega | (subst_vars; first | assumption | omega)⟩)) (by first | rfl | omega | (subst_vars; first | rfl | omega)) (by rw [show ki = n by omega]) | (exfalso; omega)
                  · refine g_aloadn (pc := 95) (i := 0) (x := 200) hK dd_X12_copy_95 rfl rfl ?_
                    refine g_bipush (pc := 96) (x := (-4)) hK dd_X12_copy_96 (by decide) ?_
                    refine g_callV (pc := 98) (As := [gI (-4)]) hK ws_M_152 md_X12_no ⟨Nat.zero_le _, Nat.zero_le _⟩ ⟨by decide, by decide⟩ (kdm kd_200) rfl rfl dd_X12_copy_98 rfl rfl (Nat.le_of_ble_eq_true rfl) (d_no_4 hrg (g_r1 ?_))
                    refine g_iret (pc := 101) hK hr hlocks dd_X12_copy_101 rfl ?_
                    first | exact g_fin (hN (by first | omega | (subst_vars; omega) | exact ⟨by first | assumption | omega | (subst_vars; first | assumption | omega), by first | assumption | omega | (subst_vars; first | assumption | omega)⟩)) (by first | rfl | omega | (subst_vars; first | rfl | omega)) (by first | rfl | (subst_vars; rfl)) | exact g_fin (hY (by first | omega | (subst_vars; omega) | exact ⟨by first | assumption | omega | (subst_vars; first | assumption | omega), by first | assumption | omega | (subst_vars; first | assumption | omega)⟩)) (by first | rfl | omega | (subst_vars; first | rfl | omega)) (by rw [show ki = n by omega]) | (exfalso; omega)
              · refine g_aloadn (pc := 70) (i := 0) (x := 200) hK dd_X12_copy_70 rfl rfl ?_
                refine g_bipush (pc := 71) (x := (-3)) hK dd_X12_copy_71 (by decide) ?_
                refine g_callV (pc := 73) (As := [gI (-3)]) hK ws_M_152 md_X12_no ⟨Nat.zero_le _, Nat.zero_le _⟩ ⟨by decide, by decide⟩ (kdm kd_200) rfl rfl dd_X12_copy_73 rfl rfl (Nat.le_of_ble_eq_true rfl) (d_no_3 hrg (g_r1 ?_))
                refine g_iret (pc := 76) hK hr hlocks dd_X12_copy_76 rfl ?_
                first | exact g_fin (hO (by first | omega | (subst_vars; omega) | exact ⟨by first | assumption | omega | (subst_vars; first | assumption | omega), by first | assumption | omega | (subst_vars; first | assumption | omega)⟩)) (by first | rfl | omega | (subst_vars; first | rfl | omega)) (by first | rfl | (subst_vars; rfl)) | exact g_fin (hY (by first | omega | (subst_vars; omega) | exact ⟨by first | assumption | omega | (subst_vars; first | assumption | omega), by first | assumption | omega | (subst_vars; first | assumption | omega)⟩)) (by first | rfl | omega | (subst_vars; first | rfl | omega)) (by rw [show ki = n by omega]) | (exfalso; omega)
            · refine g_if_eq (pc := 52) (tgt := 77) hK dd_X12_copy_52 (by decide) (by decide) (fun _ => ?_) (fun c138 => absurd (by decide) c138)
              refine g_aloadn (pc := 77) (i := 0) (x := 200) hK dd_X12_copy_77 rfl rfl ?_
              refine g_getv (pc := 78) (f := (1, 1)) (j := 0) (v := gR 201) hK (kdm kd_200) rfl ef_12 (by decide) rfl kk_1101 dd_X12_copy_78 rfl ?_
              refine g_iloadn (pc := 81) (i := 1) (x := sp) hK dd_X12_copy_81 rfl rfl ?_
              refine g_iald (pc := 82) hK (kdm kd_201) nl_201 (by decide) dd_X12_copy_82 (by omega) (by omega) (fun x139 ex139 rx139 => ?_)
              refine g_if_lt (pc := 83) (tgt := 95) hK dd_X12_copy_83 (by decide) rx139 (fun c140 => ?_) (fun c140 => ?_)
              · refine g_aloadn (pc := 95) (i := 0) (x := 200) hK dd_X12_copy_95 rfl rfl ?_
                refine g_bipush (pc := 96) (x := (-4)) hK dd_X12_copy_96 (by decide) ?_
                refine g_callV (pc := 98) (As := [gI (-4)]) hK ws_M_152 md_X12_no ⟨Nat.zero_le _, Nat.zero_le _⟩ ⟨by decide, by decide⟩ (kdm kd_200) rfl rfl dd_X12_copy_98 rfl rfl (Nat.le_of_ble_eq_true rfl) (d_no_4 hrg (g_r1 ?_))
                refine g_iret (pc := 101) hK hr hlocks dd_X12_copy_101 rfl ?_
                first | exact g_fin (hN (by first | omega | (subst_vars; omega) | exact ⟨by first | assumption | omega | (subst_vars; first | assumption | omega), by first | assumption | omega | (subst_vars; first | assumption | omega)⟩)) (by first | rfl | omega | (subst_vars; first | rfl | omega)) (by first | rfl | (subst_vars; rfl)) | exact g_fin (hY (by first | omega | (subst_vars; omega) | exact ⟨by first | assumption | omega | (subst_vars; first | assumption | omega), by first | assumption | omega | (subst_vars; first | assumption | omega)⟩)) (by first | rfl | omega | (subst_vars; first | rfl | omega)) (by rw [show ki = n by omega]) | (exfalso; omega)
              · refine g_aloadn (pc := 86) (i := 0) (x := 200) hK dd_X12_copy_86 rfl rfl ?_
                refine g_getv (pc := 87) (f := (1, 1)) (j := 0) (v := gR 201) hK (kdm kd_200) rfl ef_12 (by decide) rfl kk_1101 dd_X12_copy_87 rfl ?_
                refine g_iloadn (pc := 90) (i := 2) (x := sq) hK dd_X12_copy_90 rfl rfl ?_
                refine g_iald (pc := 91) hK (kdm kd_201) nl_201 (by decide) dd_X12_copy_91 (by omega) (by omega) (fun x141 ex141 rx141 => ?_)
                refine g_if_ge (pc := 92) (tgt := 102) hK dd_X12_copy_92 (by decide) rx141 (fun c142 => ?_) (fun c142 => ?_)
                · refine g_iload (pc := 102) (i := 5) (x := n) hK dd_X12_copy_102 rfl ?_
                  refine g_if_lt (pc := 104) (tgt := 151) hK dd_X12_copy_104 (by decide) h_n (fun c143 => ?_) (fun c143 => ?_)
                  · refine g_aloadn (pc := 151) (i := 0) (x := 200) hK dd_X12_copy_151 rfl rfl ?_
                    refine g_bipush (pc := 152) (x := (-2)) hK dd_X12_copy_152 (by decide) ?_
                    refine g_callV (pc := 154) (As := [gI (-2)]) hK ws_M_152 md_X12_no ⟨Nat.zero_le _, Nat.zero_le _⟩ ⟨by decide, by decide⟩ (kdm kd_200) rfl rfl dd_X12_copy_154 rfl rfl (Nat.le_of_ble_eq_true rfl) (d_no_2 hrg (g_r1 ?_))
                    refine g_iret (pc := 157) hK hr hlocks dd_X12_copy_157 rfl ?_
                    first | exact g_fin (hB (by first | omega | (subst_vars; omega) | exact ⟨by first | assumption | omega | (subst_vars; first | assumption | omega), by first | assumption | omega | (subst_vars; first | assumption | omega)⟩)) (by first | rfl | omega | (subst_vars; first | rfl | omega)) (by first | rfl | (subst_vars; rfl)) | exact g_fin (hP (by first | omega | (subst_vars; omega) | exact ⟨by first | assumption | omega | (subst_vars; first | assumption | omega), by first | assumption | omega | (subst_vars; first | assumption | omega)⟩)) (by first | rfl | omega | (subst_vars; first | rfl | omega)) (by first | rfl | (subst_vars; rfl)) | exact g_fin (hY (by first | omega | (subst_vars; omega) | exact ⟨by first | assumption | omega | (subst_vars; first | assumption | omega), by first | assumption | omega | (subst_vars; first | assumption | omega)⟩)) (by first | rfl | omega | (subst_vars; first | rfl | omega)) (by rw [show ki = n by omega]) | (exfalso; omega)
                  · refine g_iloadn (pc := 107) (i := 3) (x := i) hK dd_X12_copy_107 rfl rfl ?_
                    refine g_if_lt (pc := 108) (tgt := 151) hK dd_X12_copy_108 (by decide) h_i (fun c144 => ?_) (fun c144 => ?_)
                    · refine g_aloadn (pc := 151) (i := 0) (x := 200) hK dd_X12_copy_151 rfl rfl ?_
                      refine g_bipush (pc := 152) (x := (-2)) hK dd_X12_copy_152 (by decide) ?_
                      refine g_callV (pc := 154) (As := [gI (-2)]) hK ws_M_152 md_X12_no ⟨Nat.zero_le _, Nat.zero_le _⟩ ⟨by decide, by decide⟩ (kdm kd_200) rfl rfl dd_X12_copy_154 rfl rfl (Nat.le_of_ble_eq_true rfl) (d_no_2 hrg (g_r1 ?_))
                      refine g_iret (pc := 157) hK hr hlocks dd_X12_copy_157 rfl ?_
                      first | exact g_fin (hB (by first | omega | (subst_vars; omega) | exact ⟨by first | assumption | omega | (subst_vars; first | assumption | omega), by first | assumption | omega | (subst_vars; first | assumption | omega)⟩)) (by first | rfl | omega | (subst_vars; first | rfl | omega)) (by first | rfl | (subst_vars; rfl)) | exact g_fin (hP (by first | omega | (subst_vars; omega) | exact ⟨by first | assumption | omega | (subst_vars; first | assumption | omega), by first | assumption | omega | (subst_vars; first | assumption | omega)⟩)) (by first | rfl | omega | (subst_vars; first | rfl | omega)) (by first | rfl | (subst_vars; rfl)) | exact g_fin (hY (by first | omega | (subst_vars; omega) | exact ⟨by first | assumption | omega | (subst_vars; first | assumption | omega), by first | assumption | omega | (subst_vars; first | assumption | omega)⟩)) (by first | rfl | omega | (subst_vars; first | rfl | omega)) (by rw [show ki = n by omega]) | (exfalso; omega)
                    · refine g_iload (pc := 111) (i := 4) (x := j) hK dd_X12_copy_111 rfl ?_
                      refine g_if_lt (pc := 113) (tgt := 151) hK dd_X12_copy_113 (by decide) h_j (fun c145 => ?_) (fun c145 => ?_)
                      · refine g_aloadn (pc := 151) (i := 0) (x := 200) hK dd_X12_copy_151 rfl rfl ?_
                        refine g_bipush (pc := 152) (x := (-2)) hK dd_X12_copy_152 (by decide) ?_
                        refine g_callV (pc := 154) (As := [gI (-2)]) hK ws_M_152 md_X12_no ⟨Nat.zero_le _, Nat.zero_le _⟩ ⟨by decide, by decide⟩ (kdm kd_200) rfl rfl dd_X12_copy_154 rfl rfl (Nat.le_of_ble_eq_true rfl) (d_no_2 hrg (g_r1 ?_))
                        refine g_iret (pc := 157) hK hr hlocks dd_X12_copy_157 rfl ?_
                        first | exact g_fin (hB (by first | omega | (subst_vars; omega) | exact ⟨by first | assumption | omega | (subst_vars; first | assumption | omega), by first | assumption | omega | (subst_vars; first | assumption | omega)⟩)) (by first | rfl | omega | (subst_vars; first | rfl | omega)) (by first | rfl | (subst_vars; rfl)) | exact g_fin (hP (by first | omega | (subst_vars; omega) | exact ⟨by first | assumption | omega | (subst_vars; first | assumption | omega), by first | assumption | omega | (subst_vars; first | assumption | omega)⟩)) (by first | rfl | omega | (subst_vars; first | rfl | omega)) (by first | rfl | (subst_vars; rfl)) | exact g_fin (hY (by first | omega | (subst_vars; omega) | exact ⟨by first | assumption | omega | (subst_vars; first | assumption | omega), by first | assumption | omega | (subst_vars; first | assumption | omega)⟩)) (by first | rfl | omega | (subst_vars; first | rfl | omega)) (by rw [show ki = n by omega]) | (exfalso; omega)
                      · refine g_iloadn (pc := 116) (i := 3) (x := i) hK dd_X12_copy_116 rfl rfl ?_
                        refine g_i2l (pc := 117) hK dd_X12_copy_117 h_i ?_
                        refine g_iload (pc := 118) (i := 5) (x := n) hK dd_X12_copy_118 rfl ?_
                        refine g_i2l (pc := 120) hK dd_X12_copy_120 h_n ?_
                        refine g_ladd (pc := 121) (z := i + n) hK dd_X12_copy_121 rfl ?_
                        refine g_aloadn (pc := 122) (i := 0) (x := 200) hK dd_X12_copy_122 rfl rfl ?_
                        refine g_getv (pc := 123) (f := (1, 2)) (j := 1) (v := gR 202) hK (kdm kd_200) rfl ef_12 (by decide) rfl kk_1102 dd_X12_copy_123 rfl ?_
                        refine g_iloadn (pc := 126) (i := 1) (x := sp) hK dd_X12_copy_126 rfl rfl ?_
                        refine g_iald (pc := 127) hK (kdm kd_202) nl_202 (by decide) dd_X12_copy_127 (by omega) (by omega) (fun x146 ex146 rx146 => ?_)
                        refine g_i2l (pc := 128) hK dd_X12_copy_128 rx146 ?_
                        rcases Int.lt_trichotomy (i + n) x146 with c147 | c148 | c149
                        · refine g_lcmp (pc := 129) (z := (-1)) hK dd_X12_copy_129 ⟨by omega, by omega⟩ (inL_of rx146) (by rw [if_neg (by omega), if_neg (by omega)]) ?_
                          refine g_if_gt (pc := 130) (tgt := 151) hK dd_X12_copy_130 (by decide) (by decide) (fun c150 => absurd c150 (by decide)) (fun _ => ?_)
                          refine g_iload (pc := 133) (i := 4) (x := j) hK dd_X12_copy_133 rfl ?_
                          refine g_i2l (pc := 135) hK dd_X12_copy_135 h_j ?_
                          refine g_iload (pc := 136) (i := 5) (x := n) hK dd_X12_copy_136 rfl ?_
                          refine g_i2l (pc := 138) hK dd_X12_copy_138 h_n ?_
                          refine g_ladd (pc := 139) (z := j + n) hK dd_X12_copy_139 rfl ?_
                          refine g_aloadn (pc := 140) (i := 0) (x := 200) hK dd_X12_copy_140 rfl rfl ?_
                          refine g_getv (pc := 141) (f := (1, 2)) (j := 1) (v := gR 202) hK (kdm kd_200) rfl ef_12 (by decide) rfl kk_1102 dd_X12_copy_141 rfl ?_
                          refine g_iloadn (pc := 144) (i := 2) (x := sq) hK dd_X12_copy_144 rfl rfl ?_
                          refine g_iald (pc := 145) hK (kdm kd_202) nl_202 (by decide) dd_X12_copy_145 (by omega) (by omega) (fun x151 ex151 rx151 => ?_)
                          refine g_i2l (pc := 146) hK dd_X12_copy_146 rx151 ?_
                          rcases Int.lt_trichotomy (j + n) x151 with c152 | c153 | c154
                          · refine g_lcmp (pc := 147) (z := (-1)) hK dd_X12_copy_147 ⟨by omega, by omega⟩ (inL_of rx151) (by rw [if_neg (by omega), if_neg (by omega)]) ?_
                            refine g_if_le (pc := 148) (tgt := 158) hK dd_X12_copy_148 (by decide) (by decide) (fun _ => ?_) (fun c155 => absurd (by decide) c155)
                            refine g_iloadn (pc := 158) (i := 1) (x := sp) hK dd_X12_copy_158 rfl rfl ?_
                            refine g_iloadn (pc := 159) (i := 2) (x := sq) hK dd_X12_copy_159 rfl rfl ?_
                            refine g_icmp_ne (pc := 160) (tgt := 218) hK dd_X12_copy_160 (by decide) h_sp h_sq (fun c156 => ?_) (fun c156 => ?_)
                            · refine g_iconst (pc := 218) (x := 0) hK dd_X12_copy_218 (by decide) ?_
                              refine g_istore (pc := 219) (i := 6) (L' := [(0, gR 200), (1, gI sp), (2, gI sq), (3, gI i), (4, gI j), (5, gI n), (6, gI 0)]) hK dd_X12_copy_219 (by decide) rfl ?_
                              have lp159 : ∀ (n157 : Nat) (ki : Int), (0 ≤ ki ∧ ki ≤ n) → (n - ki).toNat < n157 → G p l e (rmD 2) s m args below meth c D cy q A 0 0 7 (MQ below (gQc D cy q A Pq) args s 0 0 A) 221 [(0, gR 200), (1, gI sp), (2, gI sq), (3, gI i), (4, gI j), (5, gI n), (6, gI ki)] [] (cp M 203 (M 203) (40 * sp + i).toNat (40 * sq + j).toNat ki.toNat) := by
                                intro n157
                                induction n157 with
                                | zero => intro ki iv160 hm161; exact absurd hm161 (Nat.not_lt_zero _)
                                | succ n157 ih158 =>
                                  intro ki iv160 hm161
                                  refine g_iload (pc := 221) (i := 6) (x := ki) hK dd_X12_copy_221 rfl ?_
                                  refine g_iload (pc := 223) (i := 5) (x := n) hK dd_X12_copy_223 rfl ?_
                                  refine g_icmp_ge (pc := 225) (tgt := 263) hK dd_X12_copy_225 (by decide) ⟨by omega, by omega⟩ h_n (fun c162 => ?_) (fun c162 => ?_)
                                  · refine g_iload (pc := 263) (i := 5) (x := n) hK dd_X12_copy_263 rfl ?_
                                    refine g_iret (pc := 265) hK hr hlocks dd_X12_copy_265 rfl ?_
                                    first | exact g_fin (hB (by first | omega | (subst_vars; omega) | exact ⟨by first | assumption | omega | (subst_vars; first | assumption | omega), by first | assumption | omega | (subst_vars; first | assumption | omega)⟩)) (by first | rfl | omega | (subst_vars; first | rfl | omega)) (by first | rfl | (subst_vars; rfl)) | exact g_fin (hO (by first | omega | (subst_vars; omega) | exact ⟨by first | assumption | omega | (subst_vars; first | assumption | omega), by first | assumption | omega | (subst_vars; first | assumption | omega)⟩)) (by first | rfl | omega | (subst_vars; first | rfl | omega)) (by first | rfl | (subst_vars; rfl)) | exact g_fin (hN (by first | omega | (subst_vars; omega) | exact ⟨by first | assumption | omega | (subst_vars; first | assumption | omega), by first | assumption | omega | (subst_vars; first | assumption | omega)⟩)) (by first | rfl | omega | (subst_vars; first | rfl | omega)) (by first | rfl | (subst_vars; rfl)) | exact g_fin (hP (by first | omega | (subst_vars; omega) | exact ⟨by first | assumption | omega | (subst_vars; first | assumption | omega), by first | assumption | omega | (subst_vars; first | assumption | omega)⟩)) (by first | rfl | omega | (subst_vars; first | rfl | omega)) (by first | rfl | (subst_vars; rfl)) | exact g_fin (hY (by first | omega | (subst_vars; omega) | exact ⟨by first | assumption | omega | (subst_vars; first | assumption | omega), by first | assumption | omega | (subst_vars; first | assumption | omega)⟩)) (by first | rfl | omega | (subst_vars; first | rfl | omega)) (by rw [show ki = n by omega]) | (exfalso; omega)
                                  · refine g_aloadn (pc := 228) (i := 0) (x := 200) hK dd_X12_copy_228 rfl rfl ?_
                                    refine g_getv (pc := 229) (f := (1, 3)) (j := 2) (v := gR 203) hK (kdm kd_200) rfl ef_12 (by decide) rfl kk_1103 dd_X12_copy_229 rfl ?_
                                    refine g_bipush (pc := 232) (x := 40) hK dd_X12_copy_232 (by decide) ?_
                                    refine g_iloadn (pc := 234) (i := 2) (x := sq) hK dd_X12_copy_234 rfl rfl ?_
                                    refine g_imul (pc := 235) (z := 40 * sq) hK dd_X12_copy_235 rfl ?_
                                    refine g_iload (pc := 236) (i := 4) (x := j) hK dd_X12_copy_236 rfl ?_
                                    refine g_iadd (pc := 238) (z := (40 * sq) + j) hK dd_X12_copy_238 rfl ?_
                                    refine g_iload (pc := 239) (i := 6) (x := ki) hK dd_X12_copy_239 rfl ?_
                                    refine g_iadd (pc := 241) (z := ((40 * sq) + j) + ki) hK dd_X12_copy_241 rfl ?_
                                    refine g_aloadn (pc := 242) (i := 0) (x := 200) hK dd_X12_copy_242 rfl rfl ?_
                                    refine g_getv (pc := 243) (f := (1, 3)) (j := 2) (v := gR 203) hK (kdm kd_200) rfl ef_12 (by decide) rfl kk_1103 dd_X12_copy_243 rfl ?_
                                    refine g_bipush (pc := 246) (x := 40) hK dd_X12_copy_246 (by decide) ?_
                                    refine g_iloadn (pc := 248) (i := 1) (x := sp) hK dd_X12_copy_248 rfl rfl ?_
                                    refine g_imul (pc := 249) (z := 40 * sp) hK dd_X12_copy_249 rfl ?_
                                    refine g_iloadn (pc := 250) (i := 3) (x := i) hK dd_X12_copy_250 rfl rfl ?_
                                    refine g_iadd (pc := 251) (z := (40 * sp) + i) hK dd_X12_copy_251 rfl ?_
                                    refine g_iload (pc := 252) (i := 6) (x := ki) hK dd_X12_copy_252 rfl ?_
                                    refine g_iadd (pc := 254) (z := ((40 * sp) + i) + ki) hK dd_X12_copy_254 rfl ?_
                                    refine g_lald (pc := 255) hK (kdm kd_203) yl_203 (by decide) dd_X12_copy_255 (by omega) (by omega) (fun x163 ex163 rx163 => ?_)
                                    have ex_ := ex163
                                    refine g_last (pc := 256) hK (kdm kd_203) yl_203 (by decide) (by decide) dd_X12_copy_256 (by omega) (by omega) rx163 ?_
                                    refine g_iinc (pc := 257) (i := 6) (y := ki + 1) (L' := [(0, gR 200), (1, gI sp), (2, gI sq), (3, gI i), (4, gI j), (5, gI n), (6, gI (ki + 1))]) hK dd_X12_copy_257 rfl rfl (by decide) rfl ?_
                                    refine g_goto (pc := 260) (tgt := 221) hK dd_X12_copy_260 (by decide) ?_
                                    refine g_sub (L' := [(0, gR 200), (1, gI sp), (2, gI sq), (3, gI i), (4, gI j), (5, gI n), (6, gI (ki + 1))]) [0, 1, 2, 3, 4, 5, 6] rfl ?_
                                    refine g_mem (M2 := cp M 203 (M 203) (40 * sp + i).toNat (40 * sq + j).toNat (ki + 1).toNat) (by rw [tn1 (by omega), show (40 * sq + j + ki).toNat = (40 * sq + j).toNat + ki.toNat by omega]; refine cp_as (ex_.trans ?_); rw [cp_rd (by omega)]; congr 1; omega) ?_
                                    exact ih158 (ki + 1) (by omega) (by omega)
                              refine g_mem (M2 := cp M 203 (M 203) (40 * sp + i).toNat (40 * sq + j).toNat (0 : Int).toNat) (cp_0.symm) ?_
                              refine g_sub (L' := [(0, gR 200), (1, gI sp), (2, gI sq), (3, gI i), (4, gI j), (5, gI n), (6, gI 0)]) [0, 1, 2, 3, 4, 5, 6] rfl ?_
                              exact lp159 _ 0 (by omega) (Nat.lt_succ_self _)
                            · refine g_iloadn (pc := 163) (i := 3) (x := i) hK dd_X12_copy_163 rfl rfl ?_
                              refine g_iload (pc := 164) (i := 4) (x := j) hK dd_X12_copy_164 rfl ?_
                              refine g_icmp_ge (pc := 166) (tgt := 218) hK dd_X12_copy_166 (by decide) h_i h_j (fun c164 => ?_) (fun c164 => ?_)
                              · refine g_iconst (pc := 218) (x := 0) hK dd_X12_copy_218 (by decide) ?_
                                refine g_istore (pc := 219) (i := 6) (L' := [(0, gR 200), (1, gI sp), (2, gI sq), (3, gI i), (4, gI j), (5, gI n), (6, gI 0)]) hK dd_X12_copy_219 (by decide) rfl ?_
                                have lp167 : ∀ (n165 : Nat) (ki : Int), (0 ≤ ki ∧ ki ≤ n) → (n - ki).toNat < n165 → G p l e (rmD 2) s m args below meth c D cy q A 0 0 7 (MQ below (gQc D cy q A Pq) args s 0 0 A) 221 [(0, gR 200), (1, gI sp), (2, gI sq), (3, gI i), (4, gI j), (5, gI n), (6, gI ki)] [] (cp M 203 (M 203) (40 * sp + i).toNat (40 * sq + j).toNat ki.toNat) := by
                                  intro n165
                                  induction n165 with
                                  | zero => intro ki iv168 hm169; exact absurd hm169 (Nat.not_lt_zero _)
                                  | succ n165 ih166 =>
                                    intro ki iv168 hm169
                                    refine g_iload (pc := 221) (i := 6) (x := ki) hK dd_X12_copy_221 rfl ?_
                                    refine g_iload (pc := 223) (i := 5) (x := n) hK dd_X12_copy_223 rfl ?_
                                    refine g_icmp_ge (pc := 225) (tgt := 263) hK dd_X12_copy_225 (by decide) ⟨by omega, by omega⟩ h_n (fun c170 => ?_) (fun c170 => ?_)
                                    · refine g_iload (pc := 263) (i := 5) (x := n) hK dd_X12_copy_263 rfl ?_
                                      refine g_iret (pc := 265) hK hr hlocks dd_X12_copy_265 rfl ?_
                                      first | exact g_fin (hB (by first | omega | (subst_vars; omega) | exact ⟨by first | assumption | omega | (subst_vars; first | assumption | omega), by first | assumption | omega | (subst_vars; first | assumption | omega)⟩)) (by first | rfl | omega | (subst_vars; first | rfl | omega)) (by first | rfl | (subst_vars; rfl)) | exact g_fin (hO (by first | omega | (subst_vars; omega) | exact ⟨by first | assumption | omega | (subst_vars; first | assumption | omega), by first | assumption | omega | (subst_vars; first | assumption | omega)⟩)) (by first | rfl | omega | (subst_vars; first | rfl | omega)) (by first | rfl | (subst_vars; rfl)) | exact g_fin (hN (by first | omega | (subst_vars; omega) | exact ⟨by first | assumption | omega | (subst_vars; first | assumption | omega), by first | assumption | omega | (subst_vars; first | assumption | omega)⟩)) (by first | rfl | omega | (subst_vars; first | rfl | omega)) (by first | rfl | (subst_vars; rfl)) | exact g_fin (hP (by first | omega | (subst_vars; omega) | exact ⟨by first | assumption | omega | (subst_vars; first | assumption | omega), by first | assumption | omega | (subst_vars; first | assumption | omega)⟩)) (by first | rfl | omega | (subst_vars; first | rfl | omega)) (by first | rfl | (subst_vars; rfl)) | exact g_fin (hY (by first | omega | (subst_vars; omega) | exact ⟨by first | assumption | omega | (subst_vars; first | assumption | omega), by first | assumption | omega | (subst_vars; first | assumption | omega)⟩)) (by first | rfl | omega | (subst_vars; first | rfl | omega)) (by rw [show ki = n by omega]) | (exfalso; omega)
                                    · refine g_aloadn (pc := 228) (i := 0) (x := 200) hK dd_X12_copy_228 rfl rfl ?_
                                      refine g_getv (pc := 229) (f := (1, 3)) (j := 2) (v := gR 203) hK (kdm kd_200) rfl ef_12 (by decide) rfl kk_1103 dd_X12_copy_229 rfl ?_
                                      refine g_bipush (pc := 232) (x := 40) hK dd_X12_copy_232 (by decide) ?_
                                      refine g_iloadn (pc := 234) (i := 2) (x := sq) hK dd_X12_copy_234 rfl rfl ?_
                                      refine g_imul (pc := 235) (z := 40 * sq) hK dd_X12_copy_235 rfl ?_
                                      refine g_iload (pc := 236) (i := 4) (x := j) hK dd_X12_copy_236 rfl ?_
                                      refine g_iadd (pc := 238) (z := (40 * sq) + j) hK dd_X12_copy_238 rfl ?_
                                      refine g_iload (pc := 239) (i := 6) (x := ki) hK dd_X12_copy_239 rfl ?_
                                      refine g_iadd (pc := 241) (z := ((40 * sq) + j) + ki) hK dd_X12_copy_241 rfl ?_
                                      refine g_aloadn (pc := 242) (i := 0) (x := 200) hK dd_X12_copy_242 rfl rfl ?_
                                      refine g_getv (pc := 243) (f := (1, 3)) (j := 2) (v := gR 203) hK (kdm kd_200) rfl ef_12 (by decide) rfl kk_1103 dd_X12_copy_243 rfl ?_
                                      refine g_bipush (pc := 246) (x := 40) hK dd_X12_copy_246 (by decide) ?_
                                      refine g_iloadn (pc := 248) (i := 1) (x := sp) hK dd_X12_copy_248 rfl rfl ?_
                                      refine g_imul (pc := 249) (z := 40 * sp) hK dd_X12_copy_249 rfl ?_
                                      refine g_iloadn (pc := 250) (i := 3) (x := i) hK dd_X12_copy_250 rfl rfl ?_
                                      refine g_iadd (pc := 251) (z := (40 * sp) + i) hK dd_X12_copy_251 rfl ?_
                                      refine g_iload (pc := 252) (i := 6) (x := ki) hK dd_X12_copy_252 rfl ?_
                                      refine g_iadd (pc := 254) (z := ((40 * sp) + i) + ki) hK dd_X12_copy_254 rfl ?_
                                      refine g_lald (pc := 255) hK (kdm kd_203) yl_203 (by decide) dd_X12_copy_255 (by omega) (by omega) (fun x171 ex171 rx171 => ?_)
                                      have ex_ := ex171
                                      refine g_last (pc := 256) hK (kdm kd_203) yl_203 (by decide) (by decide) dd_X12_copy_256 (by omega) (by omega) rx171 ?_
                                      refine g_iinc (pc := 257) (i := 6) (y := ki + 1) (L' := [(0, gR 200), (1, gI sp), (2, gI sq), (3, gI i), (4, gI j), (5, gI n), (6, gI (ki + 1))]) hK dd_X12_copy_257 rfl rfl (by decide) rfl ?_
                                      refine g_goto (pc := 260) (tgt := 221) hK dd_X12_copy_260 (by decide) ?_
                                      refine g_sub (L' := [(0, gR 200), (1, gI sp), (2, gI sq), (3, gI i), (4, gI j), (5, gI n), (6, gI (ki + 1))]) [0, 1, 2, 3, 4, 5, 6] rfl ?_
                                      refine g_mem (M2 := cp M 203 (M 203) (40 * sp + i).toNat (40 * sq + j).toNat (ki + 1).toNat) (by rw [tn1 (by omega), show (40 * sq + j + ki).toNat = (40 * sq + j).toNat + ki.toNat by omega]; refine cp_as (ex_.trans ?_); rw [cp_rd (by omega)]; congr 1; omega) ?_
                                      exact ih166 (ki + 1) (by omega) (by omega)
                                refine g_mem (M2 := cp M 203 (M 203) (40 * sp + i).toNat (40 * sq + j).toNat (0 : Int).toNat) (cp_0.symm) ?_
                                refine g_sub (L' := [(0, gR 200), (1, gI sp), (2, gI sq), (3, gI i), (4, gI j), (5, gI n), (6, gI 0)]) [0, 1, 2, 3, 4, 5, 6] rfl ?_
                                exact lp167 _ 0 (by omega) (Nat.lt_succ_self _)
                              · refine g_iload (pc := 169) (i := 5) (x := n) hK dd_X12_copy_169 rfl ?_
                                refine g_iconst (pc := 171) (x := 1) hK dd_X12_copy_171 (by decide) ?_
                                refine g_isub (pc := 172) (z := n - 1) hK dd_X12_copy_172 rfl ?_
                                refine g_istore (pc := 173) (i := 6) (L' := [(0, gR 200), (1, gI sp), (2, gI sq), (3, gI i), (4, gI j), (5, gI n), (6, gI (n - 1))]) hK dd_X12_copy_173 (by decide) rfl ?_
                                have lp174 : ∀ (n172 : Nat) (kd : Int), (-1 ≤ kd ∧ kd < n) → (kd + 1).toNat < n172 → G p l e (rmD 2) s m args below meth c D cy q A 0 0 7 (MQ below (gQc D cy q A Pq) args s 0 0 A) 175 [(0, gR 200), (1, gI sp), (2, gI sq), (3, gI i), (4, gI j), (5, gI n), (6, gI kd)] [] (cp M 203 (M 203) (40 * sp + i + kd + 1).toNat (40 * sq + j + kd + 1).toNat (n - 1 - kd).toNat) := by
                                  intro n172
                                  induction n172 with
                                  | zero => intro kd iv175 hm176; exact absurd hm176 (Nat.not_lt_zero _)
                                  | succ n172 ih173 =>
                                    intro kd iv175 hm176
                                    refine g_iload (pc := 175) (i := 6) (x := kd) hK dd_X12_copy_175 rfl ?_
                                    refine g_if_lt (pc := 177) (tgt := 215) hK dd_X12_copy_177 (by decide) ⟨by omega, by omega⟩ (fun c177 => ?_) (fun c177 => ?_)
                                    · refine g_goto (pc := 215) (tgt := 263) hK dd_X12_copy_215 (by decide) ?_
                                      refine g_iload (pc := 263) (i := 5) (x := n) hK dd_X12_copy_263 rfl ?_
                                      refine g_iret (pc := 265) hK hr hlocks dd_X12_copy_265 rfl ?_
                                      first | exact g_fin (hB (by first | omega | (subst_vars; omega) | exact ⟨by first | assumption | omega | (subst_vars; first | assumption | omega), by first | assumption | omega | (subst_vars; first | assumption | omega)⟩)) (by first | rfl | omega | (subst_vars; first | rfl | omega)) (by first | rfl | (subst_vars; rfl)) | exact g_fin (hO (by first | omega | (subst_vars; omega) | exact ⟨by first | assumption | omega | (subst_vars; first | assumption | omega), by first | assumption | omega | (subst_vars; first | assumption | omega)⟩)) (by first | rfl | omega | (subst_vars; first | rfl | omega)) (by first | rfl | (subst_vars; rfl)) | exact g_fin (hN (by first | omega | (subst_vars; omega) | exact ⟨by first | assumption | omega | (subst_vars; first | assumption | omega), by first | assumption | omega | (subst_vars; first | assumption | omega)⟩)) (by first | rfl | omega | (subst_vars; first | rfl | omega)) (by first | rfl | (subst_vars; rfl)) | exact g_fin (hP (by first | omega | (subst_vars; omega) | exact ⟨by first | assumption | omega | (subst_vars; first | assumption | omega), by first | assumption | omega | (subst_vars; first | assumption | omega)⟩)) (by first | rfl | omega | (subst_vars; first | rfl | omega)) (by first | rfl | (subst_vars; rfl)) | exact g_fin (hY (by first | omega | (subst_vars; omega) | exact ⟨by first | assumption | omega | (subst_vars; first | assumption | omega), by first | assumption | omega | (subst_vars; first | assumption | omega)⟩)) (by first | rfl | omega | (subst_vars; first | rfl | omega)) (by rw [show kd = -1 by omega, show (40 * sp + i + -1 + 1).toNat = (40 * sp + i).toNat by omega, show (40 * sq + j + -1 + 1).toNat = (40 * sq + j).toNat by omega, show (n - 1 - -1).toNat = n.toNat by omega]) | (exfalso; omega)
                                    · refine g_aloadn (pc := 180) (i := 0) (x := 200) hK dd_X12_copy_180 rfl rfl ?_
                                      refine g_getv (pc := 181) (f := (1, 3)) (j := 2) (v := gR 203) hK (kdm kd_200) rfl ef_12 (by decide) rfl kk_1103 dd_X12_copy_181 rfl ?_
                                      refine g_bipush (pc := 184) (x := 40) hK dd_X12_copy_184 (by decide) ?_
                                      refine g_iloadn (pc := 186) (i := 2) (x := sq) hK dd_X12_copy_186 rfl rfl ?_
                                      refine g_imul (pc := 187) (z := 40 * sq) hK dd_X12_copy_187 rfl ?_
                                      refine g_iload (pc := 188) (i := 4) (x := j) hK dd_X12_copy_188 rfl ?_
                                      refine g_iadd (pc := 190) (z := (40 * sq) + j) hK dd_X12_copy_190 rfl ?_
                                      refine g_iload (pc := 191) (i := 6) (x := kd) hK dd_X12_copy_191 rfl ?_
                                      refine g_iadd (pc := 193) (z := ((40 * sq) + j) + kd) hK dd_X12_copy_193 rfl ?_
                                      refine g_aloadn (pc := 194) (i := 0) (x := 200) hK dd_X12_copy_194 rfl rfl ?_
                                      refine g_getv (pc := 195) (f := (1, 3)) (j := 2) (v := gR 203) hK (kdm kd_200) rfl ef_12 (by decide) rfl kk_1103 dd_X12_copy_195 rfl ?_
                                      refine g_bipush (pc := 198) (x := 40) hK dd_X12_copy_198 (by decide) ?_
                                      refine g_iloadn (pc := 200) (i := 1) (x := sp) hK dd_X12_copy_200 rfl rfl ?_
                                      refine g_imul (pc := 201) (z := 40 * sp) hK dd_X12_copy_201 rfl ?_
                                      refine g_iloadn (pc := 202) (i := 3) (x := i) hK dd_X12_copy_202 rfl rfl ?_
                                      refine g_iadd (pc := 203) (z := (40 * sp) + i) hK dd_X12_copy_203 rfl ?_
                                      refine g_iload (pc := 204) (i := 6) (x := kd) hK dd_X12_copy_204 rfl ?_
                                      refine g_iadd (pc := 206) (z := ((40 * sp) + i) + kd) hK dd_X12_copy_206 rfl ?_
                                      refine g_lald (pc := 207) hK (kdm kd_203) yl_203 (by decide) dd_X12_copy_207 (by omega) (by omega) (fun x178 ex178 rx178 => ?_)
                                      have ex_ := ex178
                                      refine g_last (pc := 208) hK (kdm kd_203) yl_203 (by decide) (by decide) dd_X12_copy_208 (by omega) (by omega) rx178 ?_
                                      refine g_iinc (pc := 209) (i := 6) (y := kd - 1) (L' := [(0, gR 200), (1, gI sp), (2, gI sq), (3, gI i), (4, gI j), (5, gI n), (6, gI (kd - 1))]) hK dd_X12_copy_209 rfl (by omega) (by decide) rfl ?_
                                      refine g_goto (pc := 212) (tgt := 175) hK dd_X12_copy_212 (by decide) ?_
                                      refine g_sub (L' := [(0, gR 200), (1, gI sp), (2, gI sq), (3, gI i), (4, gI j), (5, gI n), (6, gI (kd - 1))]) [0, 1, 2, 3, 4, 5, 6] rfl ?_
                                      refine g_mem (M2 := cp M 203 (M 203) (40 * sp + i + (kd - 1) + 1).toNat (40 * sq + j + (kd - 1) + 1).toNat (n - 1 - (kd - 1)).toNat) (by rw [show (40 * sp + i + kd + 1).toNat = (40 * sp + i + kd).toNat + 1 by omega, show (40 * sq + j + kd + 1).toNat = (40 * sq + j + kd).toNat + 1 by omega]; rw [show (40 * sp + i + (kd - 1) + 1).toNat = (40 * sp + i + kd).toNat by omega, show (40 * sq + j + (kd - 1) + 1).toNat = (40 * sq + j + kd).toNat by omega, show (n - 1 - (kd - 1)).toNat = (n - 1 - kd).toNat + 1 by omega]; refine cp_ds (ex_.trans ?_); rw [show (40 * sp + i + kd + 1).toNat = (40 * sp + i + kd).toNat + 1 by omega, show (40 * sq + j + kd + 1).toNat = (40 * sq + j + kd).toNat + 1 by omega, cp_rd (by omega)]) ?_
                                      exact ih173 (kd - 1) (by omega) (by omega)
                                refine g_mem (M2 := cp M 203 (M 203) (40 * sp + i + (n - 1) + 1).toNat (40 * sq + j + (n - 1) + 1).toNat (n - 1 - (n - 1)).toNat) (by rw [show (n - 1 - (n - 1)).toNat = 0 by omega]; exact cp_0.symm) ?_
                                refine g_sub (L' := [(0, gR 200), (1, gI sp), (2, gI sq), (3, gI i), (4, gI j), (5, gI n), (6, gI (n - 1))]) [0, 1, 2, 3, 4, 5, 6] rfl ?_
                                exact lp174 _ (n - 1) (by omega) (Nat.lt_succ_self _)
                          · refine g_lcmp (pc := 147) (z := 0) hK dd_X12_copy_147 ⟨by omega, by omega⟩ (inL_of rx151) (by rw [if_neg (by omega), if_pos c153]) ?_
                            refine g_if_le (pc := 148) (tgt := 158) hK dd_X12_copy_148 (by decide) (by decide) (fun _ => ?_) (fun c179 => absurd (by decide) c179)
                            refine g_iloadn (pc := 158) (i := 1) (x := sp) hK dd_X12_copy_158 rfl rfl ?_
                            refine g_iloadn (pc := 159) (i := 2) (x := sq) hK dd_X12_copy_159 rfl rfl ?_
                            refine g_icmp_ne (pc := 160) (tgt := 218) hK dd_X12_copy_160 (by decide) h_sp h_sq (fun c180 => ?_) (fun c180 => ?_)
                            · refine g_iconst (pc := 218) (x := 0) hK dd_X12_copy_218 (by decide) ?_
                              refine g_istore (pc := 219) (i := 6) (L' := [(0, gR 200), (1, gI sp), (2, gI sq), (3, gI i), (4, gI j), (5, gI n), (6, gI 0)]) hK dd_X12_copy_219 (by decide) rfl ?_
                              have lp183 : ∀ (n181 : Nat) (ki : Int), (0 ≤ ki ∧ ki ≤ n) → (n - ki).toNat < n181 → G p l e (rmD 2) s m args below meth c D cy q A 0 0 7 (MQ below (gQc D cy q A Pq) args s 0 0 A) 221 [(0, gR 200), (1, gI sp), (2, gI sq), (3, gI i), (4, gI j), (5, gI n), (6, gI ki)] [] (cp M 203 (M 203) (40 * sp + i).toNat (40 * sq + j).toNat ki.toNat) := by
                                intro n181
                                induction n181 with
                                | zero => intro ki iv184 hm185; exact absurd hm185 (Nat.not_lt_zero _)
                                | succ n181 ih182 =>
                                  intro ki iv184 hm185
                                  refine g_iload (pc := 221) (i := 6) (x := ki) hK dd_X12_copy_221 rfl ?_
                                  refine g_iload (pc := 223) (i := 5) (x := n) hK dd_X12_copy_223 rfl ?_
                                  refine g_icmp_ge (pc := 225) (tgt := 263) hK dd_X12_copy_225 (by decide) ⟨by omega, by omega⟩ h_n (fun c186 => ?_) (fun c186 => ?_)
                                  · refine g_iload (pc := 263) (i := 5) (x := n) hK dd_X12_copy_263 rfl ?_
                                    refine g_iret (pc := 265) hK hr hlocks dd_X12_copy_265 rfl ?_
                                    first | exact g_fin (hB (by first | omega | (subst_vars; omega) | exact ⟨by first | assumption | omega | (subst_vars; first | assumption | omega), by first | assumption | omega | (subst_vars; first | assumption | omega)⟩)) (by first | rfl | omega | (subst_vars; first | rfl | omega)) (by first | rfl | (subst_vars; rfl)) | exact g_fin (hO (by first | omega | (subst_vars; omega) | exact ⟨by first | assumption | omega | (subst_vars; first | assumption | omega), by first | assumption | omega | (subst_vars; first | assumption | omega)⟩)) (by first | rfl | omega | (subst_vars; first | rfl | omega)) (by first | rfl | (subst_vars; rfl)) | exact g_fin (hN (by first | omega | (subst_vars; omega) | exact ⟨by first | assumption | omega | (subst_vars; first | assumption | omega), by first | assumption | omega | (subst_vars; first | assumption | omega)⟩)) (by first | rfl | omega | (subst_vars; first | rfl | omega)) (by first | rfl | (subst_vars; rfl)) | exact g_fin (hP (by first | omega | (subst_vars; omega) | exact ⟨by first | assumption | omega | (subst_vars; first | assumption | omega), by first | assumption | omega | (subst_vars; first | assumption | omega)⟩)) (by first | rfl | omega | (subst_vars; first | rfl | omega)) (by first | rfl | (subst_vars; rfl)) | exact g_fin (hY (by first | omega | (subst_vars; omega) | exact ⟨by first | assumption | omega | (subst_vars; first | assumption | omega), by first | assumption | omega | (subst_vars; first | assumption | omega)⟩)) (by first | rfl | omega | (subst_vars; first | rfl | omega)) (by rw [show ki = n by omega]) | (exfalso; omega)
                                  · refine g_aloadn (pc := 228) (i := 0) (x := 200) hK dd_X12_copy_228 rfl rfl ?_
                                    refine g_getv (pc := 229) (f := (1, 3)) (j := 2) (v := gR 203) hK (kdm kd_200) rfl ef_12 (by decide) rfl kk_1103 dd_X12_copy_229 rfl ?_
                                    refine g_bipush (pc := 232) (x := 40) hK dd_X12_copy_232 (by decide) ?_
                                    refine g_iloadn (pc := 234) (i := 2) (x := sq) hK dd_X12_copy_234 rfl rfl ?_
                                    refine g_imul (pc := 235) (z := 40 * sq) hK dd_X12_copy_235 rfl ?_
                                    refine g_iload (pc := 236) (i := 4) (x := j) hK dd_X12_copy_236 rfl ?_
                                    refine g_iadd (pc := 238) (z := (40 * sq) + j) hK dd_X12_copy_238 rfl ?_
                                    refine g_iload (pc := 239) (i := 6) (x := ki) hK dd_X12_copy_239 rfl ?_
                                    refine g_iadd (pc := 241) (z := ((40 * sq) + j) + ki) hK dd_X12_copy_241 rfl ?_
                                    refine g_aloadn (pc := 242) (i := 0) (x := 200) hK dd_X12_copy_242 rfl rfl ?_
                                    refine g_getv (pc := 243) (f := (1, 3)) (j := 2) (v := gR 203) hK (kdm kd_200) rfl ef_12 (by decide) rfl kk_1103 dd_X12_copy_243 rfl ?_
                                    refine g_bipush (pc := 246) (x := 40) hK dd_X12_copy_246 (by decide) ?_
                                    refine g_iloadn (pc := 248) (i := 1) (x := sp) hK dd_X12_copy_248 rfl rfl ?_
                                    refine g_imul (pc := 249) (z := 40 * sp) hK dd_X12_copy_249 rfl ?_
                                    refine g_iloadn (pc := 250) (i := 3) (x := i) hK dd_X12_copy_250 rfl rfl ?_
                                    refine g_iadd (pc := 251) (z := (40 * sp) + i) hK dd_X12_copy_251 rfl ?_
                                    refine g_iload (pc := 252) (i := 6) (x := ki) hK dd_X12_copy_252 rfl ?_
                                    refine g_iadd (pc := 254) (z := ((40 * sp) + i) + ki) hK dd_X12_copy_254 rfl ?_
                                    refine g_lald (pc := 255) hK (kdm kd_203) yl_203 (by decide) dd_X12_copy_255 (by omega) (by omega) (fun x187 ex187 rx187 => ?_)
                                    have ex_ := ex187
                                    refine g_last (pc := 256) hK (kdm kd_203) yl_203 (by decide) (by decide) dd_X12_copy_256 (by omega) (by omega) rx187 ?_
                                    refine g_iinc (pc := 257) (i := 6) (y := ki + 1) (L' := [(0, gR 200), (1, gI sp), (2, gI sq), (3, gI i), (4, gI j), (5, gI n), (6, gI (ki + 1))]) hK dd_X12_copy_257 rfl rfl (by decide) rfl ?_
                                    refine g_goto (pc := 260) (tgt := 221) hK dd_X12_copy_260 (by decide) ?_
                                    refine g_sub (L' := [(0, gR 200), (1, gI sp), (2, gI sq), (3, gI i), (4, gI j), (5, gI n), (6, gI (ki + 1))]) [0, 1, 2, 3, 4, 5, 6] rfl ?_
                                    refine g_mem (M2 := cp M 203 (M 203) (40 * sp + i).toNat (40 * sq + j).toNat (ki + 1).toNat) (by rw [tn1 (by omega), show (40 * sq + j + ki).toNat = (40 * sq + j).toNat + ki.toNat by omega]; refine cp_as (ex_.trans ?_); rw [cp_rd (by omega)]; congr 1; omega) ?_
                                    exact ih182 (ki + 1) (by omega) (by omega)
                              refine g_mem (M2 := cp M 203 (M 203) (40 * sp + i).toNat (40 * sq + j).toNat (0 : Int).toNat) (cp_0.symm) ?_
                              refine g_sub (L' := [(0, gR 200), (1, gI sp), (2, gI sq), (3, gI i), (4, gI j), (5, gI n), (6, gI 0)]) [0, 1, 2, 3, 4, 5, 6] rfl ?_
                              exact lp183 _ 0 (by omega) (Nat.lt_succ_self _)
                            · refine g_iloadn (pc := 163) (i := 3) (x := i) hK dd_X12_copy_163 rfl rfl ?_
                              refine g_iload (pc := 164) (i := 4) (x := j) hK dd_X12_copy_164 rfl ?_
                              refine g_icmp_ge (pc := 166) (tgt := 218) hK dd_X12_copy_166 (by decide) h_i h_j (fun c188 => ?_) (fun c188 => ?_)
                              · refine g_iconst (pc := 218) (x := 0) hK dd_X12_copy_218 (by decide) ?_
                                refine g_istore (pc := 219) (i := 6) (L' := [(0, gR 200), (1, gI sp), (2, gI sq), (3, gI i), (4, gI j), (5, gI n), (6, gI 0)]) hK dd_X12_copy_219 (by decide) rfl ?_
                                have lp191 : ∀ (n189 : Nat) (ki : Int), (0 ≤ ki ∧ ki ≤ n) → (n - ki).toNat < n189 → G p l e (rmD 2) s m args below meth c D cy q A 0 0 7 (MQ below (gQc D cy q A Pq) args s 0 0 A) 221 [(0, gR 200), (1, gI sp), (2, gI sq), (3, gI i), (4, gI j), (5, gI n), (6, gI ki)] [] (cp M 203 (M 203) (40 * sp + i).toNat (40 * sq + j).toNat ki.toNat) := by
                                  intro n189
                                  induction n189 with
                                  | zero => intro ki iv192 hm193; exact absurd hm193 (Nat.not_lt_zero _)
                                  | succ n189 ih190 =>
                                    intro ki iv192 hm193
                                    refine g_iload (pc := 221) (i := 6) (x := ki) hK dd_X12_copy_221 rfl ?_
                                    refine g_iload (pc := 223) (i := 5) (x := n) hK dd_X12_copy_223 rfl ?_
                                    refine g_icmp_ge (pc := 225) (tgt := 263) hK dd_X12_copy_225 (by decide) ⟨by omega, by omega⟩ h_n (fun c194 => ?_) (fun c194 => ?_)
                                    · refine g_iload (pc := 263) (i := 5) (x := n) hK dd_X12_copy_263 rfl ?_
                                      refine g_iret (pc := 265) hK hr hlocks dd_X12_copy_265 rfl ?_
                                      first | exact g_fin (hB (by first | omega | (subst_vars; omega) | exact ⟨by first | assumption | omega | (subst_vars; first | assumption | omega), by first | assumption | omega | (subst_vars; first | assumption | omega)⟩)) (by first | rfl | omega | (subst_vars; first | rfl | omega)) (by first | rfl | (subst_vars; rfl)) | exact g_fin (hO (by first | omega | (subst_vars; omega) | exact ⟨by first | assumption | omega | (subst_vars; first | assumption | omega), by first | assumption | omega | (subst_vars; first | assumption | omega)⟩)) (by first | rfl | omega | (subst_vars; first | rfl | omega)) (by first | rfl | (subst_vars; rfl)) | exact g_fin (hN (by first | omega | (subst_vars; omega) | exact ⟨by first | assumption | omega | (subst_vars; first | assumption | omega), by first | assumption | omega | (subst_vars; first | assumption | omega)⟩)) (by first | rfl | omega | (subst_vars; first | rfl | omega)) (by first | rfl | (subst_vars; rfl)) | exact g_fin (hP (by first | omega | (subst_vars; omega) | exact ⟨by first | assumption | omega | (subst_vars; first | assumption | omega), by first | assumption | omega | (subst_vars; first | assumption | omega)⟩)) (by first | rfl | omega | (subst_vars; first | rfl | omega)) (by first | rfl | (subst_vars; rfl)) | exact g_fin (hY (by first | omega | (subst_vars; omega) | exact ⟨by first | assumption | omega | (subst_vars; first | assumption | omega), by first | assumption | omega | (subst_vars; first | assumption | omega)⟩)) (by first | rfl | omega | (subst_vars; first | rfl | omega)) (by rw [show ki = n by omega]) | (exfalso; omega)
                                    · refine g_aloadn (pc := 228) (i := 0) (x := 200) hK dd_X12_copy_228 rfl rfl ?_
                                      refine g_getv (pc := 229) (f := (1, 3)) (j := 2) (v := gR 203) hK (kdm kd_200) rfl ef_12 (by decide) rfl kk_1103 dd_X12_copy_229 rfl ?_
                                      refine g_bipush (pc := 232) (x := 40) hK dd_X12_copy_232 (by decide) ?_
                                      refine g_iloadn (pc := 234) (i := 2) (x := sq) hK dd_X12_copy_234 rfl rfl ?_
                                      refine g_imul (pc := 235) (z := 40 * sq) hK dd_X12_copy_235 rfl ?_
                                      refine g_iload (pc := 236) (i := 4) (x := j) hK dd_X12_copy_236 rfl ?_
                                      refine g_iadd (pc := 238) (z := (40 * sq) + j) hK dd_X12_copy_238 rfl ?_
                                      refine g_iload (pc := 239) (i := 6) (x := ki) hK dd_X12_copy_239 rfl ?_
                                      refine g_iadd (pc := 241) (z := ((40 * sq) + j) + ki) hK dd_X12_copy_241 rfl ?_
                                      refine g_aloadn (pc := 242) (i := 0) (x := 200) hK dd_X12_copy_242 rfl rfl ?_
                                      refine g_getv (pc := 243) (f := (1, 3)) (j := 2) (v := gR 203) hK (kdm kd_200) rfl ef_12 (by decide) rfl kk_1103 dd_X12_copy_243 rfl ?_
                                      refine g_bipush (pc := 246) (x := 40) hK dd_X12_copy_246 (by decide) ?_
                                      refine g_iloadn (pc := 248) (i := 1) (x := sp) hK dd_X12_copy_248 rfl rfl ?_
                                      refine g_imul (pc := 249) (z := 40 * sp) hK dd_X12_copy_249 rfl ?_
                                      refine g_iloadn (pc := 250) (i := 3) (x := i) hK dd_X12_copy_250 rfl rfl ?_
                                      refine g_iadd (pc := 251) (z := (40 * sp) + i) hK dd_X12_copy_251 rfl ?_
                                      refine g_iload (pc := 252) (i := 6) (x := ki) hK dd_X12_copy_252 rfl ?_
                                      refine g_iadd (pc := 254) (z := ((40 * sp) + i) + ki) hK dd_X12_copy_254 rfl ?_
                                      refine g_lald (pc := 255) hK (kdm kd_203) yl_203 (by decide) dd_X12_copy_255 (by omega) (by omega) (fun x195 ex195 rx195 => ?_)
                                      have ex_ := ex195
                                      refine g_last (pc := 256) hK (kdm kd_203) yl_203 (by decide) (by decide) dd_X12_copy_256 (by omega) (by omega) rx195 ?_
                                      refine g_iinc (pc := 257) (i := 6) (y := ki + 1) (L' := [(0, gR 200), (1, gI sp), (2, gI sq), (3, gI i), (4, gI j), (5, gI n), (6, gI (ki + 1))]) hK dd_X12_copy_257 rfl rfl (by decide) rfl ?_
                                      refine g_goto (pc := 260) (tgt := 221) hK dd_X12_copy_260 (by decide) ?_
                                      refine g_sub (L' := [(0, gR 200), (1, gI sp), (2, gI sq), (3, gI i), (4, gI j), (5, gI n), (6, gI (ki + 1))]) [0, 1, 2, 3, 4, 5, 6] rfl ?_
                                      refine g_mem (M2 := cp M 203 (M 203) (40 * sp + i).toNat (40 * sq + j).toNat (ki + 1).toNat) (by rw [tn1 (by omega), show (40 * sq + j + ki).toNat = (40 * sq + j).toNat + ki.toNat by omega]; refine cp_as (ex_.trans ?_); rw [cp_rd (by omega)]; congr 1; omega) ?_
                                      exact ih190 (ki + 1) (by omega) (by omega)
                                refine g_mem (M2 := cp M 203 (M 203) (40 * sp + i).toNat (40 * sq + j).toNat (0 : Int).toNat) (cp_0.symm) ?_
                                refine g_sub (L' := [(0, gR 200), (1, gI sp), (2, gI sq), (3, gI i), (4, gI j), (5, gI n), (6, gI 0)]) [0, 1, 2, 3, 4, 5, 6] rfl ?_
                                exact lp191 _ 0 (by omega) (Nat.lt_succ_self _)
                              · refine g_iload (pc := 169) (i := 5) (x := n) hK dd_X12_copy_169 rfl ?_
                                refine g_iconst (pc := 171) (x := 1) hK dd_X12_copy_171 (by decide) ?_
                                refine g_isub (pc := 172) (z := n - 1) hK dd_X12_copy_172 rfl ?_
                                refine g_istore (pc := 173) (i := 6) (L' := [(0, gR 200), (1, gI sp), (2, gI sq), (3, gI i), (4, gI j), (5, gI n), (6, gI (n - 1))]) hK dd_X12_copy_173 (by decide) rfl ?_
                                have lp198 : ∀ (n196 : Nat) (kd : Int), (-1 ≤ kd ∧ kd < n) → (kd + 1).toNat < n196 → G p l e (rmD 2) s m args below meth c D cy q A 0 0 7 (MQ below (gQc D cy q A Pq) args s 0 0 A) 175 [(0, gR 200), (1, gI sp), (2, gI sq), (3, gI i), (4, gI j), (5, gI n), (6, gI kd)] [] (cp M 203 (M 203) (40 * sp + i + kd + 1).toNat (40 * sq + j + kd + 1).toNat (n - 1 - kd).toNat) := by
                                  intro n196
                                  induction n196 with
                                  | zero => intro kd iv199 hm200; exact absurd hm200 (Nat.not_lt_zero _)
                                  | succ n196 ih197 =>
                                    intro kd iv199 hm200
                                    refine g_iload (pc := 175) (i := 6) (x := kd) hK dd_X12_copy_175 rfl ?_
                                    refine g_if_lt (pc := 177) (tgt := 215) hK dd_X12_copy_177 (by decide) ⟨by omega, by omega⟩ (fun c201 => ?_) (fun c201 => ?_)
                                    · refine g_goto (pc := 215) (tgt := 263) hK dd_X12_copy_215 (by decide) ?_
                                      refine g_iload (pc := 263) (i := 5) (x := n) hK dd_X12_copy_263 rfl ?_
                                      refine g_iret (pc := 265) hK hr hlocks dd_X12_copy_265 rfl ?_
                                      first | exact g_fin (hB (by first | omega | (subst_vars; omega) | exact ⟨by first | assumption | omega | (subst_vars; first | assumption | omega), by first | assumption | omega | (subst_vars; first | assumption | omega)⟩)) (by first | rfl | omega | (subst_vars; first | rfl | omega)) (by first | rfl | (subst_vars; rfl)) | exact g_fin (hO (by first | omega | (subst_vars; omega) | exact ⟨by first | assumption | omega | (subst_vars; first | assumption | omega), by first | assumption | omega | (subst_vars; first | assumption | omega)⟩)) (by first | rfl | omega | (subst_vars; first | rfl | omega)) (by first | rfl | (subst_vars; rfl)) | exact g_fin (hN (by first | omega | (subst_vars; omega) | exact ⟨by first | assumption | omega | (subst_vars; first | assumption | omega), by first | assumption | omega | (subst_vars; first | assumption | omega)⟩)) (by first | rfl | omega | (subst_vars; first | rfl | omega)) (by first | rfl | (subst_vars; rfl)) | exact g_fin (hP (by first | omega | (subst_vars; omega) | exact ⟨by first | assumption | omega | (subst_vars; first | assumption | omega), by first | assumption | omega | (subst_vars; first | assumption | omega)⟩)) (by first | rfl | omega | (subst_vars; first | rfl | omega)) (by first | rfl | (subst_vars; rfl)) | exact g_fin (hY (by first | omega | (subst_vars; omega) | exact ⟨by first | assumption | omega | (subst_vars; first | assumption | omega), by first | assumption | omega | (subst_vars; first | assumption | omega)⟩)) (by first | rfl | omega | (subst_vars; first | rfl | omega)) (by rw [show kd = -1 by omega, show (40 * sp + i + -1 + 1).toNat = (40 * sp + i).toNat by omega, show (40 * sq + j + -1 + 1).toNat = (40 * sq + j).toNat by omega, show (n - 1 - -1).toNat = n.toNat by omega]) | (exfalso; omega)
                                    · refine g_aloadn (pc := 180) (i := 0) (x := 200) hK dd_X12_copy_180 rfl rfl ?_
                                      refine g_getv (pc := 181) (f := (1, 3)) (j := 2) (v := gR 203) hK (kdm kd_200) rfl ef_12 (by decide) rfl kk_1103 dd_X12_copy_181 rfl ?_
                                      refine g_bipush (pc := 184) (x := 40) hK dd_X12_copy_184 (by decide) ?_
                                      refine g_iloadn (pc := 186) (i := 2) (x := sq) hK dd_X12_copy_186 rfl rfl ?_
                                      refine g_imul (pc := 187) (z := 40 * sq) hK dd_X12_copy_187 rfl ?_
                                      refine g_iload (pc := 188) (i := 4) (x := j) hK dd_X12_copy_188 rfl ?_
                                      refine g_iadd (pc := 190) (z := (40 * sq) + j) hK dd_X12_copy_190 rfl ?_
                                      refine g_iload (pc := 191) (i := 6) (x := kd) hK dd_X12_copy_191 rfl ?_
                                      refine g_iadd (pc := 193) (z := ((40 * sq) + j) + kd) hK dd_X12_copy_193 rfl ?_
                                      refine g_aloadn (pc := 194) (i := 0) (x := 200) hK dd_X12_copy_194 rfl rfl ?_
                                      refine g_getv (pc := 195) (f := (1, 3)) (j := 2) (v := gR 203) hK (kdm kd_200) rfl ef_12 (by decide) rfl kk_1103 dd_X12_copy_195 rfl ?_
                                      refine g_bipush (pc := 198) (x := 40) hK dd_X12_copy_198 (by decide) ?_
                                      refine g_iloadn (pc := 200) (i := 1) (x := sp) hK dd_X12_copy_200 rfl rfl ?_
                                      refine g_imul (pc := 201) (z := 40 * sp) hK dd_X12_copy_201 rfl ?_
                                      refine g_iloadn (pc := 202) (i := 3) (x := i) hK dd_X12_copy_202 rfl rfl ?_
                                      refine g_iadd (pc := 203) (z := (40 * sp) + i) hK dd_X12_copy_203 rfl ?_
                                      refine g_iload (pc := 204) (i := 6) (x := kd) hK dd_X12_copy_204 rfl ?_
                                      refine g_iadd (pc := 206) (z := ((40 * sp) + i) + kd) hK dd_X12_copy_206 rfl ?_
                                      refine g_lald (pc := 207) hK (kdm kd_203) yl_203 (by decide) dd_X12_copy_207 (by omega) (by omega) (fun x202 ex202 rx202 => ?_)
                                      have ex_ := ex202
                                      refine g_last (pc := 208) hK (kdm kd_203) yl_203 (by decide) (by decide) dd_X12_copy_208 (by omega) (by omega) rx202 ?_
                                      refine g_iinc (pc := 209) (i := 6) (y := kd - 1) (L' := [(0, gR 200), (1, gI sp), (2, gI sq), (3, gI i), (4, gI j), (5, gI n), (6, gI (kd - 1))]) hK dd_X12_copy_209 rfl (by omega) (by decide) rfl ?_
                                      refine g_goto (pc := 212) (tgt := 175) hK dd_X12_copy_212 (by decide) ?_
                                      refine g_sub (L' := [(0, gR 200), (1, gI sp), (2, gI sq), (3, gI i), (4, gI j), (5, gI n), (6, gI (kd - 1))]) [0, 1, 2, 3, 4, 5, 6] rfl ?_
                                      refine g_mem (M2 := cp M 203 (M 203) (40 * sp + i + (kd - 1) + 1).toNat (40 * sq + j + (kd - 1) + 1).toNat (n - 1 - (kd - 1)).toNat) (by rw [show (40 * sp + i + kd + 1).toNat = (40 * sp + i + kd).toNat + 1 by omega, show (40 * sq + j + kd + 1).toNat = (40 * sq + j + kd).toNat + 1 by omega]; rw [show (40 * sp + i + (kd - 1) + 1).toNat = (40 * sp + i + kd).toNat by omega, show (40 * sq + j + (kd - 1) + 1).toNat = (40 * sq + j + kd).toNat by omega, show (n - 1 - (kd - 1)).toNat = (n - 1 - kd).toNat + 1 by omega]; refine cp_ds (ex_.trans ?_); rw [show (40 * sp + i + kd + 1).toNat = (40 * sp + i + kd).toNat + 1 by omega, show (40 * sq + j + kd + 1).toNat = (40 * sq + j + kd).toNat + 1 by omega, cp_rd (by omega)]) ?_
                                      exact ih197 (kd - 1) (by omega) (by omega)
                                refine g_mem (M2 := cp M 203 (M 203) (40 * sp + i + (n - 1) + 1).toNat (40 * sq + j + (n - 1) + 1).toNat (n - 1 - (n - 1)).toNat) (by rw [show (n - 1 - (n - 1)).toNat = 0 by omega]; exact cp_0.symm) ?_
                                refine g_sub (L' := [(0, gR 200), (1, gI sp), (2, gI sq), (3, gI i), (4, gI j), (5, gI n), (6, gI (n - 1))]) [0, 1, 2, 3, 4, 5, 6] rfl ?_
                                exact lp198 _ (n - 1) (by omega) (Nat.lt_succ_self _)
                          · refine g_lcmp (pc := 147) (z := 1) hK dd_X12_copy_147 ⟨by omega, by omega⟩ (inL_of rx151) (by rw [if_pos (by omega)]) ?_
                            refine g_if_le (pc := 148) (tgt := 158) hK dd_X12_copy_148 (by decide) (by decide) (fun c203 => absurd c203 (by decide)) (fun _ => ?_)
                            refine g_aloadn (pc := 151) (i := 0) (x := 200) hK dd_X12_copy_151 rfl rfl ?_
                            refine g_bipush (pc := 152) (x := (-2)) hK dd_X12_copy_152 (by decide) ?_
                            refine g_callV (pc := 154) (As := [gI (-2)]) hK ws_M_152 md_X12_no ⟨Nat.zero_le _, Nat.zero_le _⟩ ⟨by decide, by decide⟩ (kdm kd_200) rfl rfl dd_X12_copy_154 rfl rfl (Nat.le_of_ble_eq_true rfl) (d_no_2 hrg (g_r1 ?_))
                            refine g_iret (pc := 157) hK hr hlocks dd_X12_copy_157 rfl ?_
                            first | exact g_fin (hB (by first | omega | (subst_vars; omega) | exact ⟨by first | assumption | omega | (subst_vars; first | assumption | omega), by first | assumption | omega | (subst_vars; first | assumption | omega)⟩)) (by first | rfl | omega | (subst_vars; first | rfl | omega)) (by first | rfl | (subst_vars; rfl)) | exact g_fin (hP (by first | omega | (subst_vars; omega) | exact ⟨by first | assumption | omega | (subst_vars; first | assumption | omega), by first | assumption | omega | (subst_vars; first | assumption | omega)⟩)) (by first | rfl | omega | (subst_vars; first | rfl | omega)) (by first | rfl | (subst_vars; rfl)) | exact g_fin (hY (by first | omega | (subst_vars; omega) | exact ⟨by first | assumption | omega | (subst_vars; first | assumption | omega), by first | assumption | omega | (subst_vars; first | assumption | omega)⟩)) (by first | rfl | omega | (subst_vars; first | rfl | omega)) (by rw [show ki = n by omega]) | (exfalso; omega)
                        · refine g_lcmp (pc := 129) (z := 0) hK dd_X12_copy_129 ⟨by omega, by omega⟩ (inL_of rx146) (by rw [if_neg (by omega), if_pos c148]) ?_
                          refine g_if_gt (pc := 130) (tgt := 151) hK dd_X12_copy_130 (by decide) (by decide) (fun c204 => absurd c204 (by decide)) (fun _ => ?_)
                          refine g_iload (pc := 133) (i := 4) (x := j) hK dd_X12_copy_133 rfl ?_
                          refine g_i2l (pc := 135) hK dd_X12_copy_135 h_j ?_
                          refine g_iload (pc := 136) (i := 5) (x := n) hK dd_X12_copy_136 rfl ?_
                          refine g_i2l (pc := 138) hK dd_X12_copy_138 h_n ?_
                          refine g_ladd (pc := 139) (z := j + n) hK dd_X12_copy_139 rfl ?_
                          refine g_aloadn (pc := 140) (i := 0) (x := 200) hK dd_X12_copy_140 rfl rfl ?_
                          refine g_getv (pc := 141) (f := (1, 2)) (j := 1) (v := gR 202) hK (kdm kd_200) rfl ef_12 (by decide) rfl kk_1102 dd_X12_copy_141 rfl ?_
                          refine g_iloadn (pc := 144) (i := 2) (x := sq) hK dd_X12_copy_144 rfl rfl ?_
                          refine g_iald (pc := 145) hK (kdm kd_202) nl_202 (by decide) dd_X12_copy_145 (by omega) (by omega) (fun x205 ex205 rx205 => ?_)
                          refine g_i2l (pc := 146) hK dd_X12_copy_146 rx205 ?_
                          rcases Int.lt_trichotomy (j + n) x205 with c206 | c207 | c208
                          · refine g_lcmp (pc := 147) (z := (-1)) hK dd_X12_copy_147 ⟨by omega, by omega⟩ (inL_of rx205) (by rw [if_neg (by omega), if_neg (by omega)]) ?_
                            refine g_if_le (pc := 148) (tgt := 158) hK dd_X12_copy_148 (by decide) (by decide) (fun _ => ?_) (fun c209 => absurd (by decide) c209)
                            refine g_iloadn (pc := 158) (i := 1) (x := sp) hK dd_X12_copy_158 rfl rfl ?_
                            refine g_iloadn (pc := 159) (i := 2) (x := sq) hK dd_X12_copy_159 rfl rfl ?_
                            refine g_icmp_ne (pc := 160) (tgt := 218) hK dd_X12_copy_160 (by decide) h_sp h_sq (fun c210 => ?_) (fun c210 => ?_)
                            · refine g_iconst (pc := 218) (x := 0) hK dd_X12_copy_218 (by decide) ?_
                              refine g_istore (pc := 219) (i := 6) (L' := [(0, gR 200), (1, gI sp), (2, gI sq), (3, gI i), (4, gI j), (5, gI n), (6, gI 0)]) hK dd_X12_copy_219 (by decide) rfl ?_
                              have lp213 : ∀ (n211 : Nat) (ki : Int), (0 ≤ ki ∧ ki ≤ n) → (n - ki).toNat < n211 → G p l e (rmD 2) s m args below meth c D cy q A 0 0 7 (MQ below (gQc D cy q A Pq) args s 0 0 A) 221 [(0, gR 200), (1, gI sp), (2, gI sq), (3, gI i), (4, gI j), (5, gI n), (6, gI ki)] [] (cp M 203 (M 203) (40 * sp + i).toNat (40 * sq + j).toNat ki.toNat) := by
                                intro n211
                                induction n211 with
                                | zero => intro ki iv214 hm215; exact absurd hm215 (Nat.not_lt_zero _)
                                | succ n211 ih212 =>
                                  intro ki iv214 hm215
                                  refine g_iload (pc := 221) (i := 6) (x := ki) hK dd_X12_copy_221 rfl ?_
                                  refine g_iload (pc := 223) (i := 5) (x := n) hK dd_X12_copy_223 rfl ?_
                                  refine g_icmp_ge (pc := 225) (tgt := 263) hK dd_X12_copy_225 (by decide) ⟨by omega, by omega⟩ h_n (fun c216 => ?_) (fun c216 => ?_)
                                  · refine g_iload (pc := 263) (i := 5) (x := n) hK dd_X12_copy_263 rfl ?_
                                    refine g_iret (pc := 265) hK hr hlocks dd_X12_copy_265 rfl ?_
                                    first | exact g_fin (hB (by first | omega | (subst_vars; omega) | exact ⟨by first | assumption | omega | (subst_vars; first | assumption | omega), by first | assumption | omega | (subst_vars; first | assumption | omega)⟩)) (by first | rfl | omega | (subst_vars; first | rfl | omega)) (by first | rfl | (subst_vars; rfl)) | exact g_fin (hO (by first | omega | (subst_vars; omega) | exact ⟨by first | assumption | omega | (subst_vars; first | assumption | omega), by first | assumption | omega | (subst_vars; first | assumption | omega)⟩)) (by first | rfl | omega | (subst_vars; first | rfl | omega)) (by first | rfl | (subst_vars; rfl)) | exact g_fin (hN (by first | omega | (subst_vars; omega) | exact ⟨by first | assumption | omega | (subst_vars; first | assumption | omega), by first | assumption | omega | (subst_vars; first | assumption | omega)⟩)) (by first | rfl | omega | (subst_vars; first | rfl | omega)) (by first | rfl | (subst_vars; rfl)) | exact g_fin (hP (by first | omega | (subst_vars; omega) | exact ⟨by first | assumption | omega | (subst_vars; first | assumption | omega), by first | assumption | omega | (subst_vars; first | assumption | omega)⟩)) (by first | rfl | omega | (subst_vars; first | rfl | omega)) (by first | rfl | (subst_vars; rfl)) | exact g_fin (hY (by first | omega | (subst_vars; omega) | exact ⟨by first | assumption | omega | (subst_vars; first | assumption | omega), by first | assumption | omega | (subst_vars; first | assumption | omega)⟩)) (by first | rfl | omega | (subst_vars; first | rfl | omega)) (by rw [show ki = n by omega]) | (exfalso; omega)
                                  · refine g_aloadn (pc := 228) (i := 0) (x := 200) hK dd_X12_copy_228 rfl rfl ?_
                                    refine g_getv (pc := 229) (f := (1, 3)) (j := 2) (v := gR 203) hK (kdm kd_200) rfl ef_12 (by decide) rfl kk_1103 dd_X12_copy_229 rfl ?_
                                    refine g_bipush (pc := 232) (x := 40) hK dd_X12_copy_232 (by decide) ?_
                                    refine g_iloadn (pc := 234) (i := 2) (x := sq) hK dd_X12_copy_234 rfl rfl ?_
                                    refine g_imul (pc := 235) (z := 40 * sq) hK dd_X12_copy_235 rfl ?_
                                    refine g_iload (pc := 236) (i := 4) (x := j) hK dd_X12_copy_236 rfl ?_
                                    refine g_iadd (pc := 238) (z := (40 * sq) + j) hK dd_X12_copy_238 rfl ?_
                                    refine g_iload (pc := 239) (i := 6) (x := ki) hK dd_X12_copy_239 rfl ?_
                                    refine g_iadd (pc := 241) (z := ((40 * sq) + j) + ki) hK dd_X12_copy_241 rfl ?_
                                    refine g_aloadn (pc := 242) (i := 0) (x := 200) hK dd_X12_copy_242 rfl rfl ?_
                                    refine g_getv (pc := 243) (f := (1, 3)) (j := 2) (v := gR 203) hK (kdm kd_200) rfl ef_12 (by decide) rfl kk_1103 dd_X12_copy_243 rfl ?_
                                    refine g_bipush (pc := 246) (x := 40) hK dd_X12_copy_246 (by decide) ?_
                                    refine g_iloadn (pc := 248) (i := 1) (x := sp) hK dd_X12_copy_248 rfl rfl ?_
                                    refine g_imul (pc := 249) (z := 40 * sp) hK dd_X12_copy_249 rfl ?_
                                    refine g_iloadn (pc := 250) (i := 3) (x := i) hK dd_X12_copy_250 rfl rfl ?_
                                    refine g_iadd (pc := 251) (z := (40 * sp) + i) hK dd_X12_copy_251 rfl ?_
                                    refine g_iload (pc := 252) (i := 6) (x := ki) hK dd_X12_copy_252 rfl ?_
                                    refine g_iadd (pc := 254) (z := ((40 * sp) + i) + ki) hK dd_X12_copy_254 rfl ?_
                                    refine g_lald (pc := 255) hK (kdm kd_203) yl_203 (by decide) dd_X12_copy_255 (by omega) (by omega) (fun x217 ex217 rx217 => ?_)
                                    have ex_ := ex217
                                    refine g_last (pc := 256) hK (kdm kd_203) yl_203 (by decide) (by decide) dd_X12_copy_256 (by omega) (by omega) rx217 ?_
                                    refine g_iinc (pc := 257) (i := 6) (y := ki + 1) (L' := [(0, gR 200), (1, gI sp), (2, gI sq), (3, gI i), (4, gI j), (5, gI n), (6, gI (ki + 1))]) hK dd_X12_copy_257 rfl rfl (by decide) rfl ?_
                                    refine g_goto (pc := 260) (tgt := 221) hK dd_X12_copy_260 (by decide) ?_
                                    refine g_sub (L' := [(0, gR 200), (1, gI sp), (2, gI sq), (3, gI i), (4, gI j), (5, gI n), (6, gI (ki + 1))]) [0, 1, 2, 3, 4, 5, 6] rfl ?_
                                    refine g_mem (M2 := cp M 203 (M 203) (40 * sp + i).toNat (40 * sq + j).toNat (ki + 1).toNat) (by rw [tn1 (by omega), show (40 * sq + j + ki).toNat = (40 * sq + j).toNat + ki.toNat by omega]; refine cp_as (ex_.trans ?_); rw [cp_rd (by omega)]; congr 1; omega) ?_
                                    exact ih212 (ki + 1) (by omega) (by omega)
                              refine g_mem (M2 := cp M 203 (M 203) (40 * sp + i).toNat (40 * sq + j).toNat (0 : Int).toNat) (cp_0.symm) ?_
                              refine g_sub (L' := [(0, gR 200), (1, gI sp), (2, gI sq), (3, gI i), (4, gI j), (5, gI n), (6, gI 0)]) [0, 1, 2, 3, 4, 5, 6] rfl ?_
                              exact lp213 _ 0 (by omega) (Nat.lt_succ_self _)
                            · refine g_iloadn (pc := 163) (i := 3) (x := i) hK dd_X12_copy_163 rfl rfl ?_
                              refine g_iload (pc := 164) (i := 4) (x := j) hK dd_X12_copy_164 rfl ?_
                              refine g_icmp_ge (pc := 166) (tgt := 218) hK dd_X12_copy_166 (by decide) h_i h_j (fun c218 => ?_) (fun c218 => ?_)
                              · refine g_iconst (pc := 218) (x := 0) hK dd_X12_copy_218 (by decide) ?_
                                refine g_istore (pc := 219) (i := 6) (L' := [(0, gR 200), (1, gI sp), (2, gI sq), (3, gI i), (4, gI j), (5, gI n), (6, gI 0)]) hK dd_X12_copy_219 (by decide) rfl ?_
                                have lp221 : ∀ (n219 : Nat) (ki : Int), (0 ≤ ki ∧ ki ≤ n) → (n - ki).toNat < n219 → G p l e (rmD 2) s m args below meth c D cy q A 0 0 7 (MQ below (gQc D cy q A Pq) args s 0 0 A) 221 [(0, gR 200), (1, gI sp), (2, gI sq), (3, gI i), (4, gI j), (5, gI n), (6, gI ki)] [] (cp M 203 (M 203) (40 * sp + i).toNat (40 * sq + j).toNat ki.toNat) := by
                                  intro n219
                                  induction n219 with
                                  | zero => intro ki iv222 hm223; exact absurd hm223 (Nat.not_lt_zero _)
                                  | succ n219 ih220 =>
                                    intro ki iv222 hm223
                                    refine g_iload (pc := 221) (i := 6) (x := ki) hK dd_X12_copy_221 rfl ?_
                                    refine g_iload (pc := 223) (i := 5) (x := n) hK dd_X12_copy_223 rfl ?_
                                    refine g_icmp_ge (pc := 225) (tgt := 263) hK dd_X12_copy_225 (by decide) ⟨by omega, by omega⟩ h_n (fun c224 => ?_) (fun c224 => ?_)
                                    · refine g_iload (pc := 263) (i := 5) (x := n) hK dd_X12_copy_263 rfl ?_
                                      refine g_iret (pc := 265) hK hr hlocks dd_X12_copy_265 rfl ?_
                                      first | exact g_fin (hB (by first | omega | (subst_vars; omega) | exact ⟨by first | assumption | omega | (subst_vars; first | assumption | omega), by first | assumption | omega | (subst_vars; first | assumption | omega)⟩)) (by first | rfl | omega | (subst_vars; first | rfl | omega)) (by first | rfl | (subst_vars; rfl)) | exact g_fin (hO (by first | omega | (subst_vars; omega) | exact ⟨by first | assumption | omega | (subst_vars; first | assumption | omega), by first | assumption | omega | (subst_vars; first | assumption | omega)⟩)) (by first | rfl | omega | (subst_vars; first | rfl | omega)) (by first | rfl | (subst_vars; rfl)) | exact g_fin (hN (by first | omega | (subst_vars; omega) | exact ⟨by first | assumption | omega | (subst_vars; first | assumption | omega), by first | assumption | omega | (subst_vars; first | assumption | omega)⟩)) (by first | rfl | omega | (subst_vars; first | rfl | omega)) (by first | rfl | (subst_vars; rfl)) | exact g_fin (hP (by first | omega | (subst_vars; omega) | exact ⟨by first | assumption | omega | (subst_vars; first | assumption | omega), by first | assumption | omega | (subst_vars; first | assumption | omega)⟩)) (by first | rfl | omega | (subst_vars; first | rfl | omega)) (by first | rfl | (subst_vars; rfl)) | exact g_fin (hY (by first | omega | (subst_vars; omega) | exact ⟨by first | assumption | omega | (subst_vars; first | assumption | omega), by first | assumption | omega | (subst_vars; first | assumption | omega)⟩)) (by first | rfl | omega | (subst_vars; first | rfl | omega)) (by rw [show ki = n by omega]) | (exfalso; omega)
                                    · refine g_aloadn (pc := 228) (i := 0) (x := 200) hK dd_X12_copy_228 rfl rfl ?_
                                      refine g_getv (pc := 229) (f := (1, 3)) (j := 2) (v := gR 203) hK (kdm kd_200) rfl ef_12 (by decide) rfl kk_1103 dd_X12_copy_229 rfl ?_
                                      refine g_bipush (pc := 232) (x := 40) hK dd_X12_copy_232 (by decide) ?_
                                      refine g_iloadn (pc := 234) (i := 2) (x := sq) hK dd_X12_copy_234 rfl rfl ?_
                                      refine g_imul (pc := 235) (z := 40 * sq) hK dd_X12_copy_235 rfl ?_
                                      refine g_iload (pc := 236) (i := 4) (x := j) hK dd_X12_copy_236 rfl ?_
                                      refine g_iadd (pc := 238) (z := (40 * sq) + j) hK dd_X12_copy_238 rfl ?_
                                      refine g_iload (pc := 239) (i := 6) (x := ki) hK dd_X12_copy_239 rfl ?_
                                      refine g_iadd (pc := 241) (z := ((40 * sq) + j) + ki) hK dd_X12_copy_241 rfl ?_
                                      refine g_aloadn (pc := 242) (i := 0) (x := 200) hK dd_X12_copy_242 rfl rfl ?_
                                      refine g_getv (pc := 243) (f := (1, 3)) (j := 2) (v := gR 203) hK (kdm kd_200) rfl ef_12 (by decide) rfl kk_1103 dd_X12_copy_243 rfl ?_
                                      refine g_bipush (pc := 246) (x := 40) hK dd_X12_copy_246 (by decide) ?_
                                      refine g_iloadn (pc := 248) (i := 1) (x := sp) hK dd_X12_copy_248 rfl rfl ?_
                                      refine g_imul (pc := 249) (z := 40 * sp) hK dd_X12_copy_249 rfl ?_
                                      refine g_iloadn (pc := 250) (i := 3) (x := i) hK dd_X12_copy_250 rfl rfl ?_
                                      refine g_iadd (pc := 251) (z := (40 * sp) + i) hK dd_X12_copy_251 rfl ?_
                                      refine g_iload (pc := 252) (i := 6) (x := ki) hK dd_X12_copy_252 rfl ?_
                                      refine g_iadd (pc := 254) (z := ((40 * sp) + i) + ki) hK dd_X12_copy_254 rfl ?_
                                      refine g_lald (pc := 255) hK (kdm kd_203) yl_203 (by decide) dd_X12_copy_255 (by omega) (by omega) (fun x225 ex225 rx225 => ?_)
                                      have ex_ := ex225
                                      refine g_last (pc := 256) hK (kdm kd_203) yl_203 (by decide) (by decide) dd_X12_copy_256 (by omega) (by omega) rx225 ?_
                                      refine g_iinc (pc := 257) (i := 6) (y := ki + 1) (L' := [(0, gR 200), (1, gI sp), (2, gI sq), (3, gI i), (4, gI j), (5, gI n), (6, gI (ki + 1))]) hK dd_X12_copy_257 rfl rfl (by decide) rfl ?_
                                      refine g_goto (pc := 260) (tgt := 221) hK dd_X12_copy_260 (by decide) ?_
                                      refine g_sub (L' := [(0, gR 200), (1, gI sp), (2, gI sq), (3, gI i), (4, gI j), (5, gI n), (6, gI (ki + 1))]) [0, 1, 2, 3, 4, 5, 6] rfl ?_
                                      refine g_mem (M2 := cp M 203 (M 203) (40 * sp + i).toNat (40 * sq + j).toNat (ki + 1).toNat) (by rw [tn1 (by omega), show (40 * sq + j + ki).toNat = (40 * sq + j).toNat + ki.toNat by omega]; refine cp_as (ex_.trans ?_); rw [cp_rd (by omega)]; congr 1; omega) ?_
                                      exact ih220 (ki + 1) (by omega) (by omega)
                                refine g_mem (M2 := cp M 203 (M 203) (40 * sp + i).toNat (40 * sq + j).toNat (0 : Int).toNat) (cp_0.symm) ?_
                                refine g_sub (L' := [(0, gR 200), (1, gI sp), (2, gI sq), (3, gI i), (4, gI j), (5, gI n), (6, gI 0)]) [0, 1, 2, 3, 4, 5, 6] rfl ?_
                                exact lp221 _ 0 (by omega) (Nat.lt_succ_self _)
                              · refine g_iload (pc := 169) (i := 5) (x := n) hK dd_X12_copy_169 rfl ?_
                                refine g_iconst (pc := 171) (x := 1) hK dd_X12_copy_171 (by decide) ?_
                                refine g_isub (pc := 172) (z := n - 1) hK dd_X12_copy_172 rfl ?_
                                refine g_istore (pc := 173) (i := 6) (L' := [(0, gR 200), (1, gI sp), (2, gI sq), (3, gI i), (4, gI j), (5, gI n), (6, gI (n - 1))]) hK dd_X12_copy_173 (by decide) rfl ?_
                                have lp228 : ∀ (n226 : Nat) (kd : Int), (-1 ≤ kd ∧ kd < n) → (kd + 1).toNat < n226 → G p l e (rmD 2) s m args below meth c D cy q A 0 0 7 (MQ below (gQc D cy q A Pq) args s 0 0 A) 175 [(0, gR 200), (1, gI sp), (2, gI sq), (3, gI i), (4, gI j), (5, gI n), (6, gI kd)] [] (cp M 203 (M 203) (40 * sp + i + kd + 1).toNat (40 * sq + j + kd + 1).toNat (n - 1 - kd).toNat) := by
                                  intro n226
                                  induction n226 with
                                  | zero => intro kd iv229 hm230; exact absurd hm230 (Nat.not_lt_zero _)
                                  | succ n226 ih227 =>
                                    intro kd iv229 hm230
                                    refine g_iload (pc := 175) (i := 6) (x := kd) hK dd_X12_copy_175 rfl ?_
                                    refine g_if_lt (pc := 177) (tgt := 215) hK dd_X12_copy_177 (by decide) ⟨by omega, by omega⟩ (fun c231 => ?_) (fun c231 => ?_)
                                    · refine g_goto (pc := 215) (tgt := 263) hK dd_X12_copy_215 (by decide) ?_
                                      refine g_iload (pc := 263) (i := 5) (x := n) hK dd_X12_copy_263 rfl ?_
                                      refine g_iret (pc := 265) hK hr hlocks dd_X12_copy_265 rfl ?_
                                      first | exact g_fin (hB (by first | omega | (subst_vars; omega) | exact ⟨by first | assumption | omega | (subst_vars; first | assumption | omega), by first | assumption | omega | (subst_vars; first | assumption | omega)⟩)) (by first | rfl | omega | (subst_vars; first | rfl | omega)) (by first | rfl | (subst_vars; rfl)) | exact g_fin (hO (by first | omega | (subst_vars; omega) | exact ⟨by first | assumption | omega | (subst_vars; first | assumption | omega), by first | assumption | omega | (subst_vars; first | assumption | omega)⟩)) (by first | rfl | omega | (subst_vars; first | rfl | omega)) (by first | rfl | (subst_vars; rfl)) | exact g_fin (hN (by first | omega | (subst_vars; omega) | exact ⟨by first | assumption | omega | (subst_vars; first | assumption | omega), by first | assumption | omega | (subst_vars; first | assumption | omega)⟩)) (by first | rfl | omega | (subst_vars; first | rfl | omega)) (by first | rfl | (subst_vars; rfl)) | exact g_fin (hP (by first | omega | (subst_vars; omega) | exact ⟨by first | assumption | omega | (subst_vars; first | assumption | omega), by first | assumption | omega | (subst_vars; first | assumption | omega)⟩)) (by first | rfl | omega | (subst_vars; first | rfl | omega)) (by first | rfl | (subst_vars; rfl)) | exact g_fin (hY (by first | omega | (subst_vars; omega) | exact ⟨by first | assumption | omega | (subst_vars; first | assumption | omega), by first | assumption | omega | (subst_vars; first | assumption | omega)⟩)) (by first | rfl | omega | (subst_vars; first | rfl | omega)) (by rw [show kd = -1 by omega, show (40 * sp + i + -1 + 1).toNat = (40 * sp + i).toNat by omega, show (40 * sq + j + -1 + 1).toNat = (40 * sq + j).toNat by omega, show (n - 1 - -1).toNat = n.toNat by omega]) | (exfalso; omega)
                                    · refine g_aloadn (pc := 180) (i := 0) (x := 200) hK dd_X12_copy_180 rfl rfl ?_
                                      refine g_getv (pc := 181) (f := (1, 3)) (j := 2) (v := gR 203) hK (kdm kd_200) rfl ef_12 (by decide) rfl kk_1103 dd_X12_copy_181 rfl ?_
                                      refine g_bipush (pc := 184) (x := 40) hK dd_X12_copy_184 (by decide) ?_
                                      refine g_iloadn (pc := 186) (i := 2) (x := sq) hK dd_X12_copy_186 rfl rfl ?_
                                      refine g_imul (pc := 187) (z := 40 * sq) hK dd_X12_copy_187 rfl ?_
                                      refine g_iload (pc := 188) (i := 4) (x := j) hK dd_X12_copy_188 rfl ?_
                                      refine g_iadd (pc := 190) (z := (40 * sq) + j) hK dd_X12_copy_190 rfl ?_
                                      refine g_iload (pc := 191) (i := 6) (x := kd) hK dd_X12_copy_191 rfl ?_
                                      refine g_iadd (pc := 193) (z := ((40 * sq) + j) + kd) hK dd_X12_copy_193 rfl ?_
                                      refine g_aloadn (pc := 194) (i := 0) (x := 200) hK dd_X12_copy_194 rfl rfl ?_
                                      refine g_getv (pc := 195) (f := (1, 3)) (j := 2) (v := gR 203) hK (kdm kd_200) rfl ef_12 (by decide) rfl kk_1103 dd_X12_copy_195 rfl ?_
                                      refine g_bipush (pc := 198) (x := 40) hK dd_X12_copy_198 (by decide) ?_
                                      refine g_iloadn (pc := 200) (i := 1) (x := sp) hK dd_X12_copy_200 rfl rfl ?_
                                      refine g_imul (pc := 201) (z := 40 * sp) hK dd_X12_copy_201 rfl ?_
                                      refine g_iloadn (pc := 202) (i := 3) (x := i) hK dd_X12_copy_202 rfl rfl ?_
                                      refine g_iadd (pc := 203) (z := (40 * sp) + i) hK dd_X12_copy_203 rfl ?_
                                      refine g_iload (pc := 204) (i := 6) (x := kd) hK dd_X12_copy_204 rfl ?_
                                      refine g_iadd (pc := 206) (z := ((40 * sp) + i) + kd) hK dd_X12_copy_206 rfl ?_
                                      refine g_lald (pc := 207) hK (kdm kd_203) yl_203 (by decide) dd_X12_copy_207 (by omega) (by omega) (fun x232 ex232 rx232 => ?_)
                                      have ex_ := ex232
                                      refine g_last (pc := 208) hK (kdm kd_203) yl_203 (by decide) (by decide) dd_X12_copy_208 (by omega) (by omega) rx232 ?_
                                      refine g_iinc (pc := 209) (i := 6) (y := kd - 1) (L' := [(0, gR 200), (1, gI sp), (2, gI sq), (3, gI i), (4, gI j), (5, gI n), (6, gI (kd - 1))]) hK dd_X12_copy_209 rfl (by omega) (by decide) rfl ?_
                                      refine g_goto (pc := 212) (tgt := 175) hK dd_X12_copy_212 (by decide) ?_
                                      refine g_sub (L' := [(0, gR 200), (1, gI sp), (2, gI sq), (3, gI i), (4, gI j), (5, gI n), (6, gI (kd - 1))]) [0, 1, 2, 3, 4, 5, 6] rfl ?_
                                      refine g_mem (M2 := cp M 203 (M 203) (40 * sp + i + (kd - 1) + 1).toNat (40 * sq + j + (kd - 1) + 1).toNat (n - 1 - (kd - 1)).toNat) (by rw [show (40 * sp + i + kd + 1).toNat = (40 * sp + i + kd).toNat + 1 by omega, show (40 * sq + j + kd + 1).toNat = (40 * sq + j + kd).toNat + 1 by omega]; rw [show (40 * sp + i + (kd - 1) + 1).toNat = (40 * sp + i + kd).toNat by omega, show (40 * sq + j + (kd - 1) + 1).toNat = (40 * sq + j + kd).toNat by omega, show (n - 1 - (kd - 1)).toNat = (n - 1 - kd).toNat + 1 by omega]; refine cp_ds (ex_.trans ?_); rw [show (40 * sp + i + kd + 1).toNat = (40 * sp + i + kd).toNat + 1 by omega, show (40 * sq + j + kd + 1).toNat = (40 * sq + j + kd).toNat + 1 by omega, cp_rd (by omega)]) ?_
                                      exact ih227 (kd - 1) (by omega) (by omega)
                                refine g_mem (M2 := cp M 203 (M 203) (40 * sp + i + (n - 1) + 1).toNat (40 * sq + j + (n - 1) + 1).toNat (n - 1 - (n - 1)).toNat) (by rw [show (n - 1 - (n - 1)).toNat = 0 by omega]; exact cp_0.symm) ?_
                                refine g_sub (L' := [(0, gR 200), (1, gI sp), (2, gI sq), (3, gI i), (4, gI j), (5, gI n), (6, gI (n - 1))]) [0, 1, 2, 3, 4, 5, 6] rfl ?_
                                exact lp228 _ (n - 1) (by omega) (Nat.lt_succ_self _)
                          · refine g_lcmp (pc := 147) (z := 0) hK dd_X12_copy_147 ⟨by omega, by omega⟩ (inL_of rx205) (by rw [if_neg (by omega), if_pos c207]) ?_
                            refine g_if_le (pc := 148) (tgt := 158) hK dd_X12_copy_148 (by decide) (by decide) (fun _ => ?_) (fun c233 => absurd (by decide) c233)
                            refine g_iloadn (pc := 158) (i := 1) (x := sp) hK dd_X12_copy_158 rfl rfl ?_
                            refine g_iloadn (pc := 159) (i := 2) (x := sq) hK dd_X12_copy_159 rfl rfl ?_
                            refine g_icmp_ne (pc := 160) (tgt := 218) hK dd_X12_copy_160 (by decide) h_sp h_sq (fun c234 => ?_) (fun c234 => ?_)
                            · refine g_iconst (pc := 218) (x := 0) hK dd_X12_copy_218 (by decide) ?_
                              refine g_istore (pc := 219) (i := 6) (L' := [(0, gR 200), (1, gI sp), (2, gI sq), (3, gI i), (4, gI j), (5, gI n), (6, gI 0)]) hK dd_X12_copy_219 (by decide) rfl ?_
                              have lp237 : ∀ (n235 : Nat) (ki : Int), (0 ≤ ki ∧ ki ≤ n) → (n - ki).toNat < n235 → G p l e (rmD 2) s m args below meth c D cy q A 0 0 7 (MQ below (gQc D cy q A Pq) args s 0 0 A) 221 [(0, gR 200), (1, gI sp), (2, gI sq), (3, gI i), (4, gI j), (5, gI n), (6, gI ki)] [] (cp M 203 (M 203) (40 * sp + i).toNat (40 * sq + j).toNat ki.toNat) := by
                                intro n235
                                induction n235 with
                                | zero => intro ki iv238 hm239; exact absurd hm239 (Nat.not_lt_zero _)
                                | succ n235 ih236 =>
                                  intro ki iv238 hm239
                                  refine g_iload (pc := 221) (i := 6) (x := ki) hK dd_X12_copy_221 rfl ?_
                                  refine g_iload (pc := 223) (i := 5) (x := n) hK dd_X12_copy_223 rfl ?_
                                  refine g_icmp_ge (pc := 225) (tgt := 263) hK dd_X12_copy_225 (by decide) ⟨by omega, by omega⟩ h_n (fun c240 => ?_) (fun c240 => ?_)
                                  · refine g_iload (pc := 263) (i := 5) (x := n) hK dd_X12_copy_263 rfl ?_
                                    refine g_iret (pc := 265) hK hr hlocks dd_X12_copy_265 rfl ?_
                                    first | exact g_fin (hB (by first | omega | (subst_vars; omega) | exact ⟨by first | assumption | omega | (subst_vars; first | assumption | omega), by first | assumption | omega | (subst_vars; first | assumption | omega)⟩)) (by first | rfl | omega | (subst_vars; first | rfl | omega)) (by first | rfl | (subst_vars; rfl)) | exact g_fin (hO (by first | omega | (subst_vars; omega) | exact ⟨by first | assumption | omega | (subst_vars; first | assumption | omega), by first | assumption | omega | (subst_vars; first | assumption | omega)⟩)) (by first | rfl | omega | (subst_vars; first | rfl | omega)) (by first | rfl | (subst_vars; rfl)) | exact g_fin (hN (by first | omega | (subst_vars; omega) | exact ⟨by first | assumption | omega | (subst_vars; first | assumption | omega), by first | assumption | omega | (subst_vars; first | assumption | omega)⟩)) (by first | rfl | omega | (subst_vars; first | rfl | omega)) (by first | rfl | (subst_vars; rfl)) | exact g_fin (hP (by first | omega | (subst_vars; omega) | exact ⟨by first | assumption | omega | (subst_vars; first | assumption | omega), by first | assumption | omega | (subst_vars; first | assumption | omega)⟩)) (by first | rfl | omega | (subst_vars; first | rfl | omega)) (by first | rfl | (subst_vars; rfl)) | exact g_fin (hY (by first | omega | (subst_vars; omega) | exact ⟨by first | assumption | omega | (subst_vars; first | assumption | omega), by first | assumption | omega | (subst_vars; first | assumption | omega)⟩)) (by first | rfl | omega | (subst_vars; first | rfl | omega)) (by rw [show ki = n by omega]) | (exfalso; omega)
                                  · refine g_aloadn (pc := 228) (i := 0) (x := 200) hK dd_X12_copy_228 rfl rfl ?_
                                    refine g_getv (pc := 229) (f := (1, 3)) (j := 2) (v := gR 203) hK (kdm kd_200) rfl ef_12 (by decide) rfl kk_1103 dd_X12_copy_229 rfl ?_
                                    refine g_bipush (pc := 232) (x := 40) hK dd_X12_copy_232 (by decide) ?_
                                    refine g_iloadn (pc := 234) (i := 2) (x := sq) hK dd_X12_copy_234 rfl rfl ?_
                                    refine g_imul (pc := 235) (z := 40 * sq) hK dd_X12_copy_235 rfl ?_
                                    refine g_iload (pc := 236) (i := 4) (x := j) hK dd_X12_copy_236 rfl ?_
                                    refine g_iadd (pc := 238) (z := (40 * sq) + j) hK dd_X12_copy_238 rfl ?_
                                    refine g_iload (pc := 239) (i := 6) (x := ki) hK dd_X12_copy_239 rfl ?_
                                    refine g_iadd (pc := 241) (z := ((40 * sq) + j) + ki) hK dd_X12_copy_241 rfl ?_
                                    refine g_aloadn (pc := 242) (i := 0) (x := 200) hK dd_X12_copy_242 rfl rfl ?_
                                    refine g_getv (pc := 243) (f := (1, 3)) (j := 2) (v := gR 203) hK (kdm kd_200) rfl ef_12 (by decide) rfl kk_1103 dd_X12_copy_243 rfl ?_
                                    refine g_bipush (pc := 246) (x := 40) hK dd_X12_copy_246 (by decide) ?_
                                    refine g_iloadn (pc := 248) (i := 1) (x := sp) hK dd_X12_copy_248 rfl rfl ?_
                                    refine g_imul (pc := 249) (z := 40 * sp) hK dd_X12_copy_249 rfl ?_
                                    refine g_iloadn (pc := 250) (i := 3) (x := i) hK dd_X12_copy_250 rfl rfl ?_
                                    refine g_iadd (pc := 251) (z := (40 * sp) + i) hK dd_X12_copy_251 rfl ?_
                                    refine g_iload (pc := 252) (i := 6) (x := ki) hK dd_X12_copy_252 rfl ?_
                                    refine g_iadd (pc := 254) (z := ((40 * sp) + i) + ki) hK dd_X12_copy_254 rfl ?_
                                    refine g_lald (pc := 255) hK (kdm kd_203) yl_203 (by decide) dd_X12_copy_255 (by omega) (by omega) (fun x241 ex241 rx241 => ?_)
                                    have ex_ := ex241
                                    refine g_last (pc := 256) hK (kdm kd_203) yl_203 (by decide) (by decide) dd_X12_copy_256 (by omega) (by omega) rx241 ?_
                                    refine g_iinc (pc := 257) (i := 6) (y := ki + 1) (L' := [(0, gR 200), (1, gI sp), (2, gI sq), (3, gI i), (4, gI j), (5, gI n), (6, gI (ki + 1))]) hK dd_X12_copy_257 rfl rfl (by decide) rfl ?_
                                    refine g_goto (pc := 260) (tgt := 221) hK dd_X12_copy_260 (by decide) ?_
                                    refine g_sub (L' := [(0, gR 200), (1, gI sp), (2, gI sq), (3, gI i), (4, gI j), (5, gI n), (6, gI (ki + 1))]) [0, 1, 2, 3, 4, 5, 6] rfl ?_
                                    refine g_mem (M2 := cp M 203 (M 203) (40 * sp + i).toNat (40 * sq + j).toNat (ki + 1).toNat) (by rw [tn1 (by omega), show (40 * sq + j + ki).toNat = (40 * sq + j).toNat + ki.toNat by omega]; refine cp_as (ex_.trans ?_); rw [cp_rd (by omega)]; congr 1; omega) ?_
                                    exact ih236 (ki + 1) (by omega) (by omega)
                              refine g_mem (M2 := cp M 203 (M 203) (40 * sp + i).toNat (40 * sq + j).toNat (0 : Int).toNat) (cp_0.symm) ?_
                              refine g_sub (L' := [(0, gR 200), (1, gI sp), (2, gI sq), (3, gI i), (4, gI j), (5, gI n), (6, gI 0)]) [0, 1, 2, 3, 4, 5, 6] rfl ?_
                              exact lp237 _ 0 (by omega) (Nat.lt_succ_self _)
                            · refine g_iloadn (pc := 163) (i := 3) (x := i) hK dd_X12_copy_163 rfl rfl ?_
                              refine g_iload (pc := 164) (i := 4) (x := j) hK dd_X12_copy_164 rfl ?_
                              refine g_icmp_ge (pc := 166) (tgt := 218) hK dd_X12_copy_166 (by decide) h_i h_j (fun c242 => ?_) (fun c242 => ?_)
                              · refine g_iconst (pc := 218) (x := 0) hK dd_X12_copy_218 (by decide) ?_
                                refine g_istore (pc := 219) (i := 6) (L' := [(0, gR 200), (1, gI sp), (2, gI sq), (3, gI i), (4, gI j), (5, gI n), (6, gI 0)]) hK dd_X12_copy_219 (by decide) rfl ?_
                                have lp245 : ∀ (n243 : Nat) (ki : Int), (0 ≤ ki ∧ ki ≤ n) → (n - ki).toNat < n243 → G p l e (rmD 2) s m args below meth c D cy q A 0 0 7 (MQ below (gQc D cy q A Pq) args s 0 0 A) 221 [(0, gR 200), (1, gI sp), (2, gI sq), (3, gI i), (4, gI j), (5, gI n), (6, gI ki)] [] (cp M 203 (M 203) (40 * sp + i).toNat (40 * sq + j).toNat ki.toNat) := by
                                  intro n243
                                  induction n243 with
                                  | zero => intro ki iv246 hm247; exact absurd hm247 (Nat.not_lt_zero _)
                                  | succ n243 ih244 =>
                                    intro ki iv246 hm247
                                    refine g_iload (pc := 221) (i := 6) (x := ki) hK dd_X12_copy_221 rfl ?_
                                    refine g_iload (pc := 223) (i := 5) (x := n) hK dd_X12_copy_223 rfl ?_
                                    refine g_icmp_ge (pc := 225) (tgt := 263) hK dd_X12_copy_225 (by decide) ⟨by omega, by omega⟩ h_n (fun c248 => ?_) (fun c248 => ?_)
                                    · refine g_iload (pc := 263) (i := 5) (x := n) hK dd_X12_copy_263 rfl ?_
                                      refine g_iret (pc := 265) hK hr hlocks dd_X12_copy_265 rfl ?_
                                      first | exact g_fin (hB (by first | omega | (subst_vars; omega) | exact ⟨by first | assumption | omega | (subst_vars; first | assumption | omega), by first | assumption | omega | (subst_vars; first | assumption | omega)⟩)) (by first | rfl | omega | (subst_vars; first | rfl | omega)) (by first | rfl | (subst_vars; rfl)) | exact g_fin (hO (by first | omega | (subst_vars; omega) | exact ⟨by first | assumption | omega | (subst_vars; first | assumption | omega), by first | assumption | omega | (subst_vars; first | assumption | omega)⟩)) (by first | rfl | omega | (subst_vars; first | rfl | omega)) (by first | rfl | (subst_vars; rfl)) | exact g_fin (hN (by first | omega | (subst_vars; omega) | exact ⟨by first | assumption | omega | (subst_vars; first | assumption | omega), by first | assumption | omega | (subst_vars; first | assumption | omega)⟩)) (by first | rfl | omega | (subst_vars; first | rfl | omega)) (by first | rfl | (subst_vars; rfl)) | exact g_fin (hP (by first | omega | (subst_vars; omega) | exact ⟨by first | assumption | omega | (subst_vars; first | assumption | omega), by first | assumption | omega | (subst_vars; first | assumption | omega)⟩)) (by first | rfl | omega | (subst_vars; first | rfl | omega)) (by first | rfl | (subst_vars; rfl)) | exact g_fin (hY (by first | omega | (subst_vars; omega) | exact ⟨by first | assumption | omega | (subst_vars; first | assumption | omega), by first | assumption | omega | (subst_vars; first | assumption | omega)⟩)) (by first | rfl | omega | (subst_vars; first | rfl | omega)) (by rw [show ki = n by omega]) | (exfalso; omega)
                                    · refine g_aloadn (pc := 228) (i := 0) (x := 200) hK dd_X12_copy_228 rfl rfl ?_
                                      refine g_getv (pc := 229) (f := (1, 3)) (j := 2) (v := gR 203) hK (kdm kd_200) rfl ef_12 (by decide) rfl kk_1103 dd_X12_copy_229 rfl ?_
                                      refine g_bipush (pc := 232) (x := 40) hK dd_X12_copy_232 (by decide) ?_
                                      refine g_iloadn (pc := 234) (i := 2) (x := sq) hK dd_X12_copy_234 rfl rfl ?_
                                      refine g_imul (pc := 235) (z := 40 * sq) hK dd_X12_copy_235 rfl ?_
                                      refine g_iload (pc := 236) (i := 4) (x := j) hK dd_X12_copy_236 rfl ?_
                                      refine g_iadd (pc := 238) (z := (40 * sq) + j) hK dd_X12_copy_238 rfl ?_
                                      refine g_iload (pc := 239) (i := 6) (x := ki) hK dd_X12_copy_239 rfl ?_
                                      refine g_iadd (pc := 241) (z := ((40 * sq) + j) + ki) hK dd_X12_copy_241 rfl ?_
                                      refine g_aloadn (pc := 242) (i := 0) (x := 200) hK dd_X12_copy_242 rfl rfl ?_
                                      refine g_getv (pc := 243) (f := (1, 3)) (j := 2) (v := gR 203) hK (kdm kd_200) rfl ef_12 (by decide) rfl kk_1103 dd_X12_copy_243 rfl ?_
                                      refine g_bipush (pc := 246) (x := 40) hK dd_X12_copy_246 (by decide) ?_
                                      refine g_iloadn (pc := 248) (i := 1) (x := sp) hK dd_X12_copy_248 rfl rfl ?_
                                      refine g_imul (pc := 249) (z := 40 * sp) hK dd_X12_copy_249 rfl ?_
                                      refine g_iloadn (pc := 250) (i := 3) (x := i) hK dd_X12_copy_250 rfl rfl ?_
                                      refine g_iadd (pc := 251) (z := (40 * sp) + i) hK dd_X12_copy_251 rfl ?_
                                      refine g_iload (pc := 252) (i := 6) (x := ki) hK dd_X12_copy_252 rfl ?_
                                      refine g_iadd (pc := 254) (z := ((40 * sp) + i) + ki) hK dd_X12_copy_254 rfl ?_
                                      refine g_lald (pc := 255) hK (kdm kd_203) yl_203 (by decide) dd_X12_copy_255 (by omega) (by omega) (fun x249 ex249 rx249 => ?_)
                                      have ex_ := ex249
                                      refine g_last (pc := 256) hK (kdm kd_203) yl_203 (by decide) (by decide) dd_X12_copy_256 (by omega) (by omega) rx249 ?_
                                      refine g_iinc (pc := 257) (i := 6) (y := ki + 1) (L' := [(0, gR 200), (1, gI sp), (2, gI sq), (3, gI i), (4, gI j), (5, gI n), (6, gI (ki + 1))]) hK dd_X12_copy_257 rfl rfl (by decide) rfl ?_
                                      refine g_goto (pc := 260) (tgt := 221) hK dd_X12_copy_260 (by decide) ?_
                                      refine g_sub (L' := [(0, gR 200), (1, gI sp), (2, gI sq), (3, gI i), (4, gI j), (5, gI n), (6, gI (ki + 1))]) [0, 1, 2, 3, 4, 5, 6] rfl ?_
                                      refine g_mem (M2 := cp M 203 (M 203) (40 * sp + i).toNat (40 * sq + j).toNat (ki + 1).toNat) (by rw [tn1 (by omega), show (40 * sq + j + ki).toNat = (40 * sq + j).toNat + ki.toNat by omega]; refine cp_as (ex_.trans ?_); rw [cp_rd (by omega)]; congr 1; omega) ?_
                                      exact ih244 (ki + 1) (by omega) (by omega)
                                refine g_mem (M2 := cp M 203 (M 203) (40 * sp + i).toNat (40 * sq + j).toNat (0 : Int).toNat) (cp_0.symm) ?_
                                refine g_sub (L' := [(0, gR 200), (1, gI sp), (2, gI sq), (3, gI i), (4, gI j), (5, gI n), (6, gI 0)]) [0, 1, 2, 3, 4, 5, 6] rfl ?_
                                exact lp245 _ 0 (by omega) (Nat.lt_succ_self _)
                              · refine g_iload (pc := 169) (i := 5) (x := n) hK dd_X12_copy_169 rfl ?_
                                refine g_iconst (pc := 171) (x := 1) hK dd_X12_copy_171 (by decide) ?_
                                refine g_isub (pc := 172) (z := n - 1) hK dd_X12_copy_172 rfl ?_
                                refine g_istore (pc := 173) (i := 6) (L' := [(0, gR 200), (1, gI sp), (2, gI sq), (3, gI i), (4, gI j), (5, gI n), (6, gI (n - 1))]) hK dd_X12_copy_173 (by decide) rfl ?_
                                have lp252 : ∀ (n250 : Nat) (kd : Int), (-1 ≤ kd ∧ kd < n) → (kd + 1).toNat < n250 → G p l e (rmD 2) s m args below meth c D cy q A 0 0 7 (MQ below (gQc D cy q A Pq) args s 0 0 A) 175 [(0, gR 200), (1, gI sp), (2, gI sq), (3, gI i), (4, gI j), (5, gI n), (6, gI kd)] [] (cp M 203 (M 203) (40 * sp + i + kd + 1).toNat (40 * sq + j + kd + 1).toNat (n - 1 - kd).toNat) := by
                                  intro n250
                                  induction n250 with
                                  | zero => intro kd iv253 hm254; exact absurd hm254 (Nat.not_lt_zero _)
                                  | succ n250 ih251 =>
                                    intro kd iv253 hm254
                                    refine g_iload (pc := 175) (i := 6) (x := kd) hK dd_X12_copy_175 rfl ?_
                                    refine g_if_lt (pc := 177) (tgt := 215) hK dd_X12_copy_177 (by decide) ⟨by omega, by omega⟩ (fun c255 => ?_) (fun c255 => ?_)
                                    · refine g_goto (pc := 215) (tgt := 263) hK dd_X12_copy_215 (by decide) ?_
                                      refine g_iload (pc := 263) (i := 5) (x := n) hK dd_X12_copy_263 rfl ?_
                                      refine g_iret (pc := 265) hK hr hlocks dd_X12_copy_265 rfl ?_
                                      first | exact g_fin (hB (by first | omega | (subst_vars; omega) | exact ⟨by first | assumption | omega | (subst_vars; first | assumption | omega), by first | assumption | omega | (subst_vars; first | assumption | omega)⟩)) (by first | rfl | omega | (subst_vars; first | rfl | omega)) (by first | rfl | (subst_vars; rfl)) | exact g_fin (hO (by first | omega | (subst_vars; omega) | exact ⟨by first | assumption | omega | (subst_vars; first | assumption | omega), by first | assumption | omega | (subst_vars; first | assumption | omega)⟩)) (by first | rfl | omega | (subst_vars; first | rfl | omega)) (by first | rfl | (subst_vars; rfl)) | exact g_fin (hN (by first | omega | (subst_vars; omega) | exact ⟨by first | assumption | omega | (subst_vars; first | assumption | omega), by first | assumption | omega | (subst_vars; first | assumption | omega)⟩)) (by first | rfl | omega | (subst_vars; first | rfl | omega)) (by first | rfl | (subst_vars; rfl)) | exact g_fin (hP (by first | omega | (subst_vars; omega) | exact ⟨by first | assumption | omega | (subst_vars; first | assumption | omega), by first | assumption | omega | (subst_vars; first | assumption | omega)⟩)) (by first | rfl | omega | (subst_vars; first | rfl | omega)) (by first | rfl | (subst_vars; rfl)) | exact g_fin (hY (by first | omega | (subst_vars; omega) | exact ⟨by first | assumption | omega | (subst_vars; first | assumption | omega), by first | assumption | omega | (subst_vars; first | assumption | omega)⟩)) (by first | rfl | omega | (subst_vars; first | rfl | omega)) (by rw [show kd = -1 by omega, show (40 * sp + i + -1 + 1).toNat = (40 * sp + i).toNat by omega, show (40 * sq + j + -1 + 1).toNat = (40 * sq + j).toNat by omega, show (n - 1 - -1).toNat = n.toNat by omega]) | (exfalso; omega)
                                    · refine g_aloadn (pc := 180) (i := 0) (x := 200) hK dd_X12_copy_180 rfl rfl ?_
                                      refine g_getv (pc := 181) (f := (1, 3)) (j := 2) (v := gR 203) hK (kdm kd_200) rfl ef_12 (by decide) rfl kk_1103 dd_X12_copy_181 rfl ?_
                                      refine g_bipush (pc := 184) (x := 40) hK dd_X12_copy_184 (by decide) ?_
                                      refine g_iloadn (pc := 186) (i := 2) (x := sq) hK dd_X12_copy_186 rfl rfl ?_
                                      refine g_imul (pc := 187) (z := 40 * sq) hK dd_X12_copy_187 rfl ?_
                                      refine g_iload (pc := 188) (i := 4) (x := j) hK dd_X12_copy_188 rfl ?_
                                      refine g_iadd (pc := 190) (z := (40 * sq) + j) hK dd_X12_copy_190 rfl ?_
                                      refine g_iload (pc := 191) (i := 6) (x := kd) hK dd_X12_copy_191 rfl ?_
                                      refine g_iadd (pc := 193) (z := ((40 * sq) + j) + kd) hK dd_X12_copy_193 rfl ?_
                                      refine g_aloadn (pc := 194) (i := 0) (x := 200) hK dd_X12_copy_194 rfl rfl ?_
                                      refine g_getv (pc := 195) (f := (1, 3)) (j := 2) (v := gR 203) hK (kdm kd_200) rfl ef_12 (by decide) rfl kk_1103 dd_X12_copy_195 rfl ?_
                                      refine g_bipush (pc := 198) (x := 40) hK dd_X12_copy_198 (by decide) ?_
                                      refine g_iloadn (pc := 200) (i := 1) (x := sp) hK dd_X12_copy_200 rfl rfl ?_
                                      refine g_imul (pc := 201) (z := 40 * sp) hK dd_X12_copy_201 rfl ?_
                                      refine g_iloadn (pc := 202) (i := 3) (x := i) hK dd_X12_copy_202 rfl rfl ?_
                                      refine g_iadd (pc := 203) (z := (40 * sp) + i) hK dd_X12_copy_203 rfl ?_
                                      refine g_iload (pc := 204) (i := 6) (x := kd) hK dd_X12_copy_204 rfl ?_
                                      refine g_iadd (pc := 206) (z := ((40 * sp) + i) + kd) hK dd_X12_copy_206 rfl ?_
                                      refine g_lald (pc := 207) hK (kdm kd_203) yl_203 (by decide) dd_X12_copy_207 (by omega) (by omega) (fun x256 ex256 rx256 => ?_)
                                      have ex_ := ex256
                                      refine g_last (pc := 208) hK (kdm kd_203) yl_203 (by decide) (by decide) dd_X12_copy_208 (by omega) (by omega) rx256 ?_
                                      refine g_iinc (pc := 209) (i := 6) (y := kd - 1) (L' := [(0, gR 200), (1, gI sp), (2, gI sq), (3, gI i), (4, gI j), (5, gI n), (6, gI (kd - 1))]) hK dd_X12_copy_209 rfl (by omega) (by decide) rfl ?_
                                      refine g_goto (pc := 212) (tgt := 175) hK dd_X12_copy_212 (by decide) ?_
                                      refine g_sub (L' := [(0, gR 200), (1, gI sp), (2, gI sq), (3, gI i), (4, gI j), (5, gI n), (6, gI (kd - 1))]) [0, 1, 2, 3, 4, 5, 6] rfl ?_
                                      refine g_mem (M2 := cp M 203 (M 203) (40 * sp + i + (kd - 1) + 1).toNat (40 * sq + j + (kd - 1) + 1).toNat (n - 1 - (kd - 1)).toNat) (by rw [show (40 * sp + i + kd + 1).toNat = (40 * sp + i + kd).toNat + 1 by omega, show (40 * sq + j + kd + 1).toNat = (40 * sq + j + kd).toNat + 1 by omega]; rw [show (40 * sp + i + (kd - 1) + 1).toNat = (40 * sp + i + kd).toNat by omega, show (40 * sq + j + (kd - 1) + 1).toNat = (40 * sq + j + kd).toNat by omega, show (n - 1 - (kd - 1)).toNat = (n - 1 - kd).toNat + 1 by omega]; refine cp_ds (ex_.trans ?_); rw [show (40 * sp + i + kd + 1).toNat = (40 * sp + i + kd).toNat + 1 by omega, show (40 * sq + j + kd + 1).toNat = (40 * sq + j + kd).toNat + 1 by omega, cp_rd (by omega)]) ?_
                                      exact ih251 (kd - 1) (by omega) (by omega)
                                refine g_mem (M2 := cp M 203 (M 203) (40 * sp + i + (n - 1) + 1).toNat (40 * sq + j + (n - 1) + 1).toNat (n - 1 - (n - 1)).toNat) (by rw [show (n - 1 - (n - 1)).toNat = 0 by omega]; exact cp_0.symm) ?_
                                refine g_sub (L' := [(0, gR 200), (1, gI sp), (2, gI sq), (3, gI i), (4, gI j), (5, gI n), (6, gI (n - 1))]) [0, 1, 2, 3, 4, 5, 6] rfl ?_
                                exact lp252 _ (n - 1) (by omega) (Nat.lt_succ_self _)
                          · refine g_lcmp (pc := 147) (z := 1) hK dd_X12_copy_147 ⟨by omega, by omega⟩ (inL_of rx205) (by rw [if_pos (by omega)]) ?_
                            refine g_if_le (pc := 148) (tgt := 158) hK dd_X12_copy_148 (by decide) (by decide) (fun c257 => absurd c257 (by decide)) (fun _ => ?_)
                            refine g_aloadn (pc := 151) (i := 0) (x := 200) hK dd_X12_copy_151 rfl rfl ?_
                            refine g_bipush (pc := 152) (x := (-2)) hK dd_X12_copy_152 (by decide) ?_
                            refine g_callV (pc := 154) (As := [gI (-2)]) hK ws_M_152 md_X12_no ⟨Nat.zero_le _, Nat.zero_le _⟩ ⟨by decide, by decide⟩ (kdm kd_200) rfl rfl dd_X12_copy_154 rfl rfl (Nat.le_of_ble_eq_true rfl) (d_no_2 hrg (g_r1 ?_))
                            refine g_iret (pc := 157) hK hr hlocks dd_X12_copy_157 rfl ?_
                            first | exact g_fin (hB (by first | omega | (subst_vars; omega) | exact ⟨by first | assumption | omega | (subst_vars; first | assumption | omega), by first | assumption | omega | (subst_vars; first | assumption | omega)⟩)) (by first | rfl | omega | (subst_vars; first | rfl | omega)) (by first | rfl | (subst_vars; rfl)) | exact g_fin (hP (by first | omega | (subst_vars; omega) | exact ⟨by first | assumption | omega | (subst_vars; first | assumption | omega), by first | assumption | omega | (subst_vars; first | assumption | omega)⟩)) (by first | rfl | omega | (subst_vars; first | rfl | omega)) (by first | rfl | (subst_vars; rfl)) | exact g_fin (hY (by first | omega | (subst_vars; omega) | exact ⟨by first | assumption | omega | (subst_vars; first | assumption | omega), by first | assumption | omega | (subst_vars; first | assumption | omega)⟩)) (by first | rfl | omega | (subst_vars; first | rfl | omega)) (by rw [show ki = n by omega]) | (exfalso; omega)
                        · refine g_lcmp (pc := 129) (z := 1) hK dd_X12_copy_129 ⟨by omega, by omega⟩ (inL_of rx146) (by rw [if_pos (by omega)]) ?_
                          refine g_if_gt (pc := 130) (tgt := 151) hK dd_X12_copy_130 (by decide) (by decide) (fun _ => ?_) (fun c258 => absurd (by decide) c258)
                          refine g_aloadn (pc := 151) (i := 0) (x := 200) hK dd_X12_copy_151 rfl rfl ?_
                          refine g_bipush (pc := 152) (x := (-2)) hK dd_X12_copy_152 (by decide) ?_
                          refine g_callV (pc := 154) (As := [gI (-2)]) hK ws_M_152 md_X12_no ⟨Nat.zero_le _, Nat.zero_le _⟩ ⟨by decide, by decide⟩ (kdm kd_200) rfl rfl dd_X12_copy_154 rfl rfl (Nat.le_of_ble_eq_true rfl) (d_no_2 hrg (g_r1 ?_))
                          refine g_iret (pc := 157) hK hr hlocks dd_X12_copy_157 rfl ?_
                          first | exact g_fin (hB (by first | omega | (subst_vars; omega) | exact ⟨by first | assumption | omega | (subst_vars; first | assumption | omega), by first | assumption | omega | (subst_vars; first | assumption | omega)⟩)) (by first | rfl | omega | (subst_vars; first | rfl | omega)) (by first | rfl | (subst_vars; rfl)) | exact g_fin (hP (by first | omega | (subst_vars; omega) | exact ⟨by first | assumption | omega | (subst_vars; first | assumption | omega), by first | assumption | omega | (subst_vars; first | assumption | omega)⟩)) (by first | rfl | omega | (subst_vars; first | rfl | omega)) (by first | rfl | (subst_vars; rfl)) | exact g_fin (hY (by first | omega | (subst_vars; omega) | exact ⟨by first | assumption | omega | (subst_vars; first | assumption | omega), by first | assumption | omega | (subst_vars; first | assumption | omega)⟩)) (by first | rfl | omega | (subst_vars; first | rfl | omega)) (by rw [show ki = n by omega]) | (exfalso; omega)
                · refine g_aloadn (pc := 95) (i := 0) (x := 200) hK dd_X12_copy_95 rfl rfl ?_
                  refine g_bipush (pc := 96) (x := (-4)) hK dd_X12_copy_96 (by decide) ?_
                  refine g_callV (pc := 98) (As := [gI (-4)]) hK ws_M_152 md_X12_no ⟨Nat.zero_le _, Nat.zero_le _⟩ ⟨by decide, by decide⟩ (kdm kd_200) rfl rfl dd_X12_copy_98 rfl rfl (Nat.le_of_ble_eq_true rfl) (d_no_4 hrg (g_r1 ?_))
                  refine g_iret (pc := 101) hK hr hlocks dd_X12_copy_101 rfl ?_
                  first | exact g_fin (hN (by first | omega | (subst_vars; omega) | exact ⟨by first | assumption | omega | (subst_vars; first | assumption | omega), by first | assumption | omega | (subst_vars; first | assumption | omega)⟩)) (by first | rfl | omega | (subst_vars; first | rfl | omega)) (by first | rfl | (subst_vars; rfl)) | exact g_fin (hY (by first | omega | (subst_vars; omega) | exact ⟨by first | assumption | omega | (subst_vars; first | assumption | omega), by first | assumption | omega | (subst_vars; first | assumption | omega)⟩)) (by first | rfl | omega | (subst_vars; first | rfl | omega)) (by rw [show ki = n by omega]) | (exfalso; omega)
          · refine g_if_eq (pc := 44) (tgt := 77) hK dd_X12_copy_44 (by decide) (by decide) (fun _ => ?_) (fun c259 => absurd (by decide) c259)
            refine g_aloadn (pc := 77) (i := 0) (x := 200) hK dd_X12_copy_77 rfl rfl ?_
            refine g_getv (pc := 78) (f := (1, 1)) (j := 0) (v := gR 201) hK (kdm kd_200) rfl ef_12 (by decide) rfl kk_1101 dd_X12_copy_78 rfl ?_
            refine g_iloadn (pc := 81) (i := 1) (x := sp) hK dd_X12_copy_81 rfl rfl ?_
            refine g_iald (pc := 82) hK (kdm kd_201) nl_201 (by decide) dd_X12_copy_82 (by omega) (by omega) (fun x260 ex260 rx260 => ?_)
            refine g_if_lt (pc := 83) (tgt := 95) hK dd_X12_copy_83 (by decide) rx260 (fun c261 => ?_) (fun c261 => ?_)
            · refine g_aloadn (pc := 95) (i := 0) (x := 200) hK dd_X12_copy_95 rfl rfl ?_
              refine g_bipush (pc := 96) (x := (-4)) hK dd_X12_copy_96 (by decide) ?_
              refine g_callV (pc := 98) (As := [gI (-4)]) hK ws_M_152 md_X12_no ⟨Nat.zero_le _, Nat.zero_le _⟩ ⟨by decide, by decide⟩ (kdm kd_200) rfl rfl dd_X12_copy_98 rfl rfl (Nat.le_of_ble_eq_true rfl) (d_no_4 hrg (g_r1 ?_))
              refine g_iret (pc := 101) hK hr hlocks dd_X12_copy_101 rfl ?_
              first | exact g_fin (hN (by first | omega | (subst_vars; omega) | exact ⟨by first | assumption | omega | (subst_vars; first | assumption | omega), by first | assumption | omega | (subst_vars; first | assumption | omega)⟩)) (by first | rfl | omega | (subst_vars; first | rfl | omega)) (by first | rfl | (subst_vars; rfl)) | exact g_fin (hY (by first | omega | (subst_vars; omega) | exact ⟨by first | assumption | omega | (subst_vars; first | assumption | omega), by first | assumption | omega | (subst_vars; first | assumption | omega)⟩)) (by first | rfl | omega | (subst_vars; first | rfl | omega)) (by rw [show ki = n by omega]) | (exfalso; omega)
            · refine g_aloadn (pc := 86) (i := 0) (x := 200) hK dd_X12_copy_86 rfl rfl ?_
              refine g_getv (pc := 87) (f := (1, 1)) (j := 0) (v := gR 201) hK (kdm kd_200) rfl ef_12 (by decide) rfl kk_1101 dd_X12_copy_87 rfl ?_
              refine g_iloadn (pc := 90) (i := 2) (x := sq) hK dd_X12_copy_90 rfl rfl ?_
              refine g_iald (pc := 91) hK (kdm kd_201) nl_201 (by decide) dd_X12_copy_91 (by omega) (by omega) (fun x262 ex262 rx262 => ?_)
              refine g_if_ge (pc := 92) (tgt := 102) hK dd_X12_copy_92 (by decide) rx262 (fun c263 => ?_) (fun c263 => ?_)
              · refine g_iload (pc := 102) (i := 5) (x := n) hK dd_X12_copy_102 rfl ?_
                refine g_if_lt (pc := 104) (tgt := 151) hK dd_X12_copy_104 (by decide) h_n (fun c264 => ?_) (fun c264 => ?_)
                · refine g_aloadn (pc := 151) (i := 0) (x := 200) hK dd_X12_copy_151 rfl rfl ?_
                  refine g_bipush (pc := 152) (x := (-2)) hK dd_X12_copy_152 (by decide) ?_
                  refine g_callV (pc := 154) (As := [gI (-2)]) hK ws_M_152 md_X12_no ⟨Nat.zero_le _, Nat.zero_le _⟩ ⟨by decide, by decide⟩ (kdm kd_200) rfl rfl dd_X12_copy_154 rfl rfl (Nat.le_of_ble_eq_true rfl) (d_no_2 hrg (g_r1 ?_))
                  refine g_iret (pc := 157) hK hr hlocks dd_X12_copy_157 rfl ?_
                  first | exact g_fin (hB (by first | omega | (subst_vars; omega) | exact ⟨by first | assumption | omega | (subst_vars; first | assumption | omega), by first | assumption | omega | (subst_vars; first | assumption | omega)⟩)) (by first | rfl | omega | (subst_vars; first | rfl | omega)) (by first | rfl | (subst_vars; rfl)) | exact g_fin (hP (by first | omega | (subst_vars; omega) | exact ⟨by first | assumption | omega | (subst_vars; first | assumption | omega), by first | assumption | omega | (subst_vars; first | assumption | omega)⟩)) (by first | rfl | omega | (subst_vars; first | rfl | omega)) (by first | rfl | (subst_vars; rfl)) | exact g_fin (hY (by first | omega | (subst_vars; omega) | exact ⟨by first | assumption | omega | (subst_vars; first | assumption | omega), by first | assumption | omega | (subst_vars; first | assumption | omega)⟩)) (by first | rfl | omega | (subst_vars; first | rfl | omega)) (by rw [show ki = n by omega]) | (exfalso; omega)
                · refine g_iloadn (pc := 107) (i := 3) (x := i) hK dd_X12_copy_107 rfl rfl ?_
                  refine g_if_lt (pc := 108) (tgt := 151) hK dd_X12_copy_108 (by decide) h_i (fun c265 => ?_) (fun c265 => ?_)
                  · refine g_aloadn (pc := 151) (i := 0) (x := 200) hK dd_X12_copy_151 rfl rfl ?_
                    refine g_bipush (pc := 152) (x := (-2)) hK dd_X12_copy_152 (by decide) ?_
                    refine g_callV (pc := 154) (As := [gI (-2)]) hK ws_M_152 md_X12_no ⟨Nat.zero_le _, Nat.zero_le _⟩ ⟨by decide, by decide⟩ (kdm kd_200) rfl rfl dd_X12_copy_154 rfl rfl (Nat.le_of_ble_eq_true rfl) (d_no_2 hrg (g_r1 ?_))
                    refine g_iret (pc := 157) hK hr hlocks dd_X12_copy_157 rfl ?_
                    first | exact g_fin (hB (by first | omega | (subst_vars; omega) | exact ⟨by first | assumption | omega | (subst_vars; first | assumption | omega), by first | assumption | omega | (subst_vars; first | assumption | omega)⟩)) (by first | rfl | omega | (subst_vars; first | rfl | omega)) (by first | rfl | (subst_vars; rfl)) | exact g_fin (hP (by first | omega | (subst_vars; omega) | exact ⟨by first | assumption | omega | (subst_vars; first | assumption | omega), by first | assumption | omega | (subst_vars; first | assumption | omega)⟩)) (by first | rfl | omega | (subst_vars; first | rfl | omega)) (by first | rfl | (subst_vars; rfl)) | exact g_fin (hY (by first | omega | (subst_vars; omega) | exact ⟨by first | assumption | omega | (subst_vars; first | assumption | omega), by first | assumption | omega | (subst_vars; first | assumption | omega)⟩)) (by first | rfl | omega | (subst_vars; first | rfl | omega)) (by rw [show ki = n by omega]) | (exfalso; omega)
                  · refine g_iload (pc := 111) (i := 4) (x := j) hK dd_X12_copy_111 rfl ?_
                    refine g_if_lt (pc := 113) (tgt := 151) hK dd_X12_copy_113 (by decide) h_j (fun c266 => ?_) (fun c266 => ?_)
                    · refine g_aloadn (pc := 151) (i := 0) (x := 200) hK dd_X12_copy_151 rfl rfl ?_
                      refine g_bipush (pc := 152) (x := (-2)) hK dd_X12_copy_152 (by decide) ?_
                      refine g_callV (pc := 154) (As := [gI (-2)]) hK ws_M_152 md_X12_no ⟨Nat.zero_le _, Nat.zero_le _⟩ ⟨by decide, by decide⟩ (kdm kd_200) rfl rfl dd_X12_copy_154 rfl rfl (Nat.le_of_ble_eq_true rfl) (d_no_2 hrg (g_r1 ?_))
                      refine g_iret (pc := 157) hK hr hlocks dd_X12_copy_157 rfl ?_
                      first | exact g_fin (hB (by first | omega | (subst_vars; omega) | exact ⟨by first | assumption | omega | (subst_vars; first | assumption | omega), by first | assumption | omega | (subst_vars; first | assumption | omega)⟩)) (by first | rfl | omega | (subst_vars; first | rfl | omega)) (by first | rfl | (subst_vars; rfl)) | exact g_fin (hP (by first | omega | (subst_vars; omega) | exact ⟨by first | assumption | omega | (subst_vars; first | assumption | omega), by first | assumption | omega | (subst_vars; first | assumption | omega)⟩)) (by first | rfl | omega | (subst_vars; first | rfl | omega)) (by first | rfl | (subst_vars; rfl)) | exact g_fin (hY (by first | omega | (subst_vars; omega) | exact ⟨by first | assumption | omega | (subst_vars; first | assumption | omega), by first | assumption | omega | (subst_vars; first | assumption | omega)⟩)) (by first | rfl | omega | (subst_vars; first | rfl | omega)) (by rw [show ki = n by omega]) | (exfalso; omega)
                    · refine g_iloadn (pc := 116) (i := 3) (x := i) hK dd_X12_copy_116 rfl rfl ?_
                      refine g_i2l (pc := 117) hK dd_X12_copy_117 h_i ?_
                      refine g_iload (pc := 118) (i := 5) (x := n) hK dd_X12_copy_118 rfl ?_
                      refine g_i2l (pc := 120) hK dd_X12_copy_120 h_n ?_
                      refine g_ladd (pc := 121) (z := i + n) hK dd_X12_copy_121 rfl ?_
                      refine g_aloadn (pc := 122) (i := 0) (x := 200) hK dd_X12_copy_122 rfl rfl ?_
                      refine g_getv (pc := 123) (f := (1, 2)) (j := 1) (v := gR 202) hK (kdm kd_200) rfl ef_12 (by decide) rfl kk_1102 dd_X12_copy_123 rfl ?_
                      refine g_iloadn (pc := 126) (i := 1) (x := sp) hK dd_X12_copy_126 rfl rfl ?_
                      refine g_iald (pc := 127) hK (kdm kd_202) nl_202 (by decide) dd_X12_copy_127 (by omega) (by omega) (fun x267 ex267 rx267 => ?_)
                      refine g_i2l (pc := 128) hK dd_X12_copy_128 rx267 ?_
                      rcases Int.lt_trichotomy (i + n) x267 with c268 | c269 | c270
                      · refine g_lcmp (pc := 129) (z := (-1)) hK dd_X12_copy_129 ⟨by omega, by omega⟩ (inL_of rx267) (by rw [if_neg (by omega), if_neg (by omega)]) ?_
                        refine g_if_gt (pc := 130) (tgt := 151) hK dd_X12_copy_130 (by decide) (by decide) (fun c271 => absurd c271 (by decide)) (fun _ => ?_)
                        refine g_iload (pc := 133) (i := 4) (x := j) hK dd_X12_copy_133 rfl ?_
                        refine g_i2l (pc := 135) hK dd_X12_copy_135 h_j ?_
                        refine g_iload (pc := 136) (i := 5) (x := n) hK dd_X12_copy_136 rfl ?_
                        refine g_i2l (pc := 138) hK dd_X12_copy_138 h_n ?_
                        refine g_ladd (pc := 139) (z := j + n) hK dd_X12_copy_139 rfl ?_
                        refine g_aloadn (pc := 140) (i := 0) (x := 200) hK dd_X12_copy_140 rfl rfl ?_
                        refine g_getv (pc := 141) (f := (1, 2)) (j := 1) (v := gR 202) hK (kdm kd_200) rfl ef_12 (by decide) rfl kk_1102 dd_X12_copy_141 rfl ?_
                        refine g_iloadn (pc := 144) (i := 2) (x := sq) hK dd_X12_copy_144 rfl rfl ?_
                        refine g_iald (pc := 145) hK (kdm kd_202) nl_202 (by decide) dd_X12_copy_145 (by omega) (by omega) (fun x272 ex272 rx272 => ?_)
                        refine g_i2l (pc := 146) hK dd_X12_copy_146 rx272 ?_
                        rcases Int.lt_trichotomy (j + n) x272 with c273 | c274 | c275
                        · refine g_lcmp (pc := 147) (z := (-1)) hK dd_X12_copy_147 ⟨by omega, by omega⟩ (inL_of rx272) (by rw [if_neg (by omega), if_neg (by omega)]) ?_
                          refine g_if_le (pc := 148) (tgt := 158) hK dd_X12_copy_148 (by decide) (by decide) (fun _ => ?_) (fun c276 => absurd (by decide) c276)
                          refine g_iloadn (pc := 158) (i := 1) (x := sp) hK dd_X12_copy_158 rfl rfl ?_
                          refine g_iloadn (pc := 159) (i := 2) (x := sq) hK dd_X12_copy_159 rfl rfl ?_
                          refine g_icmp_ne (pc := 160) (tgt := 218) hK dd_X12_copy_160 (by decide) h_sp h_sq (fun c277 => ?_) (fun c277 => ?_)
                          · refine g_iconst (pc := 218) (x := 0) hK dd_X12_copy_218 (by decide) ?_
                            refine g_istore (pc := 219) (i := 6) (L' := [(0, gR 200), (1, gI sp), (2, gI sq), (3, gI i), (4, gI j), (5, gI n), (6, gI 0)]) hK dd_X12_copy_219 (by decide) rfl ?_
                            have lp280 : ∀ (n278 : Nat) (ki : Int), (0 ≤ ki ∧ ki ≤ n) → (n - ki).toNat < n278 → G p l e (rmD 2) s m args below meth c D cy q A 0 0 7 (MQ below (gQc D cy q A Pq) args s 0 0 A) 221 [(0, gR 200), (1, gI sp), (2, gI sq), (3, gI i), (4, gI j), (5, gI n), (6, gI ki)] [] (cp M 203 (M 203) (40 * sp + i).toNat (40 * sq + j).toNat ki.toNat) := by
                              intro n278
                              induction n278 with
                              | zero => intro ki iv281 hm282; exact absurd hm282 (Nat.not_lt_zero _)
                              | succ n278 ih279 =>
                                intro ki iv281 hm282
                                refine g_iload (pc := 221) (i := 6) (x := ki) hK dd_X12_copy_221 rfl ?_
                                refine g_iload (pc := 223) (i := 5) (x := n) hK dd_X12_copy_223 rfl ?_
                                refine g_icmp_ge (pc := 225) (tgt := 263) hK dd_X12_copy_225 (by decide) ⟨by omega, by omega⟩ h_n (fun c283 => ?_) (fun c283 => ?_)
                                · refine g_iload (pc := 263) (i := 5) (x := n) hK dd_X12_copy_263 rfl ?_
                                  refine g_iret (pc := 265) hK hr hlocks dd_X12_copy_265 rfl ?_
                                  first | exact g_fin (hB (by first | omega | (subst_vars; omega) | exact ⟨by first | assumption | omega | (subst_vars; first | assumption | omega), by first | assumption | omega | (subst_vars; first | assumption | omega)⟩)) (by first | rfl | omega | (subst_vars; first | rfl | omega)) (by first | rfl | (subst_vars; rfl)) | exact g_fin (hO (by first | omega | (subst_vars; omega) | exact ⟨by first | assumption | omega | (subst_vars; first | assumption | omega), by first | assumption | omega | (subst_vars; first | assumption | omega)⟩)) (by first | rfl | omega | (subst_vars; first | rfl | omega)) (by first | rfl | (subst_vars; rfl)) | exact g_fin (hN (by first | omega | (subst_vars; omega) | exact ⟨by first | assumption | omega | (subst_vars; first | assumption | omega), by first | assumption | omega | (subst_vars; first | assumption | omega)⟩)) (by first | rfl | omega | (subst_vars; first | rfl | omega)) (by first | rfl | (subst_vars; rfl)) | exact g_fin (hP (by first | omega | (subst_vars; omega) | exact ⟨by first | assumption | omega | (subst_vars; first | assumption | omega), by first | assumption | omega | (subst_vars; first | assumption | omega)⟩)) (by first | rfl | omega | (subst_vars; first | rfl | omega)) (by first | rfl | (subst_vars; rfl)) | exact g_fin (hY (by first | omega | (subst_vars; omega) | exact ⟨by first | assumption | omega | (subst_vars; first | assumption | omega), by first | assumption | omega | (subst_vars; first | assumption | omega)⟩)) (by first | rfl | omega | (subst_vars; first | rfl | omega)) (by rw [show ki = n by omega]) | (exfalso; omega)
                                · refine g_aloadn (pc := 228) (i := 0) (x := 200) hK dd_X12_copy_228 rfl rfl ?_
                                  refine g_getv (pc := 229) (f := (1, 3)) (j := 2) (v := gR 203) hK (kdm kd_200) rfl ef_12 (by decide) rfl kk_1103 dd_X12_copy_229 rfl ?_
                                  refine g_bipush (pc := 232) (x := 40) hK dd_X12_copy_232 (by decide) ?_
                                  refine g_iloadn (pc := 234) (i := 2) (x := sq) hK dd_X12_copy_234 rfl rfl ?_
                                  refine g_imul (pc := 235) (z := 40 * sq) hK dd_X12_copy_235 rfl ?_
                                  refine g_iload (pc := 236) (i := 4) (x := j) hK dd_X12_copy_236 rfl ?_
                                  refine g_iadd (pc := 238) (z := (40 * sq) + j) hK dd_X12_copy_238 rfl ?_
                                  refine g_iload (pc := 239) (i := 6) (x := ki) hK dd_X12_copy_239 rfl ?_
                                  refine g_iadd (pc := 241) (z := ((40 * sq) + j) + ki) hK dd_X12_copy_241 rfl ?_
                                  refine g_aloadn (pc := 242) (i := 0) (x := 200) hK dd_X12_copy_242 rfl rfl ?_
                                  refine g_getv (pc := 243) (f := (1, 3)) (j := 2) (v := gR 203) hK (kdm kd_200) rfl ef_12 (by decide) rfl kk_1103 dd_X12_copy_243 rfl ?_
                                  refine g_bipush (pc := 246) (x := 40) hK dd_X12_copy_246 (by decide) ?_
                                  refine g_iloadn (pc := 248) (i := 1) (x := sp) hK dd_X12_copy_248 rfl rfl ?_
                                  refine g_imul (pc := 249) (z := 40 * sp) hK dd_X12_copy_249 rfl ?_
                                  refine g_iloadn (pc := 250) (i := 3) (x := i) hK dd_X12_copy_250 rfl rfl ?_
                                  refine g_iadd (pc := 251) (z := (40 * sp) + i) hK dd_X12_copy_251 rfl ?_
                                  refine g_iload (pc := 252) (i := 6) (x := ki) hK dd_X12_copy_252 rfl ?_
                                  refine g_iadd (pc := 254) (z := ((40 * sp) + i) + ki) hK dd_X12_copy_254 rfl ?_
                                  refine g_lald (pc := 255) hK (kdm kd_203) yl_203 (by decide) dd_X12_copy_255 (by omega) (by omega) (fun x284 ex284 rx284 => ?_)
                                  have ex_ := ex284
                                  refine g_last (pc := 256) hK (kdm kd_203) yl_203 (by decide) (by decide) dd_X12_copy_256 (by omega) (by omega) rx284 ?_
                                  refine g_iinc (pc := 257) (i := 6) (y := ki + 1) (L' := [(0, gR 200), (1, gI sp), (2, gI sq), (3, gI i), (4, gI j), (5, gI n), (6, gI (ki + 1))]) hK dd_X12_copy_257 rfl rfl (by decide) rfl ?_
                                  refine g_goto (pc := 260) (tgt := 221) hK dd_X12_copy_260 (by decide) ?_
                                  refine g_sub (L' := [(0, gR 200), (1, gI sp), (2, gI sq), (3, gI i), (4, gI j), (5, gI n), (6, gI (ki + 1))]) [0, 1, 2, 3, 4, 5, 6] rfl ?_
                                  refine g_mem (M2 := cp M 203 (M 203) (40 * sp + i).toNat (40 * sq + j).toNat (ki + 1).toNat) (by rw [tn1 (by omega), show (40 * sq + j + ki).toNat = (40 * sq + j).toNat + ki.toNat by omega]; refine cp_as (ex_.trans ?_); rw [cp_rd (by omega)]; congr 1; omega) ?_
                                  exact ih279 (ki + 1) (by omega) (by omega)
                            refine g_mem (M2 := cp M 203 (M 203) (40 * sp + i).toNat (40 * sq + j).toNat (0 : Int).toNat) (cp_0.symm) ?_
                            refine g_sub (L' := [(0, gR 200), (1, gI sp), (2, gI sq), (3, gI i), (4, gI j), (5, gI n), (6, gI 0)]) [0, 1, 2, 3, 4, 5, 6] rfl ?_
                            exact lp280 _ 0 (by omega) (Nat.lt_succ_self _)
                          · refine g_iloadn (pc := 163) (i := 3) (x := i) hK dd_X12_copy_163 rfl rfl ?_
                            refine g_iload (pc := 164) (i := 4) (x := j) hK dd_X12_copy_164 rfl ?_
                            refine g_icmp_ge (pc := 166) (tgt := 218) hK dd_X12_copy_166 (by decide) h_i h_j (fun c285 => ?_) (fun c285 => ?_)
                            · refine g_iconst (pc := 218) (x := 0) hK dd_X12_copy_218 (by decide) ?_
                              refine g_istore (pc := 219) (i := 6) (L' := [(0, gR 200), (1, gI sp), (2, gI sq), (3, gI i), (4, gI j), (5, gI n), (6, gI 0)]) hK dd_X12_copy_219 (by decide) rfl ?_
                              have lp288 : ∀ (n286 : Nat) (ki : Int), (0 ≤ ki ∧ ki ≤ n) → (n - ki).toNat < n286 → G p l e (rmD 2) s m args below meth c D cy q A 0 0 7 (MQ below (gQc D cy q A Pq) args s 0 0 A) 221 [(0, gR 200), (1, gI sp), (2, gI sq), (3, gI i), (4, gI j), (5, gI n), (6, gI ki)] [] (cp M 203 (M 203) (40 * sp + i).toNat (40 * sq + j).toNat ki.toNat) := by
                                intro n286
                                induction n286 with
                                | zero => intro ki iv289 hm290; exact absurd hm290 (Nat.not_lt_zero _)
                                | succ n286 ih287 =>
                                  intro ki iv289 hm290
                                  refine g_iload (pc := 221) (i := 6) (x := ki) hK dd_X12_copy_221 rfl ?_
                                  refine g_iload (pc := 223) (i := 5) (x := n) hK dd_X12_copy_223 rfl ?_
                                  refine g_icmp_ge (pc := 225) (tgt := 263) hK dd_X12_copy_225 (by decide) ⟨by omega, by omega⟩ h_n (fun c291 => ?_) (fun c291 => ?_)
                                  · refine g_iload (pc := 263) (i := 5) (x := n) hK dd_X12_copy_263 rfl ?_
                                    refine g_iret (pc := 265) hK hr hlocks dd_X12_copy_265 rfl ?_
                                    first | exact g_fin (hB (by first | omega | (subst_vars; omega) | exact ⟨by first | assumption | omega | (subst_vars; first | assumption | omega), by first | assumption | omega | (subst_vars; first | assumption | omega)⟩)) (by first | rfl | omega | (subst_vars; first | rfl | omega)) (by first | rfl | (subst_vars; rfl)) | exact g_fin (hO (by first | omega | (subst_vars; omega) | exact ⟨by first | assumption | omega | (subst_vars; first | assumption | omega), by first | assumption | omega | (subst_vars; first | assumption | omega)⟩)) (by first | rfl | omega | (subst_vars; first | rfl | omega)) (by first | rfl | (subst_vars; rfl)) | exact g_fin (hN (by first | omega | (subst_vars; omega) | exact ⟨by first | assumption | omega | (subst_vars; first | assumption | omega), by first | assumption | omega | (subst_vars; first | assumption | omega)⟩)) (by first | rfl | omega | (subst_vars; first | rfl | omega)) (by first | rfl | (subst_vars; rfl)) | exact g_fin (hP (by first | omega | (subst_vars; omega) | exact ⟨by first | assumption | omega | (subst_vars; first | assumption | omega), by first | assumption | omega | (subst_vars; first | assumption | omega)⟩)) (by first | rfl | omega | (subst_vars; first | rfl | omega)) (by first | rfl | (subst_vars; rfl)) | exact g_fin (hY (by first | omega | (subst_vars; omega) | exact ⟨by first | assumption | omega | (subst_vars; first | assumption | omega), by first | assumption | omega | (subst_vars; first | assumption | omega)⟩)) (by first | rfl | omega | (subst_vars; first | rfl | omega)) (by rw [show ki = n by omega]) | (exfalso; omega)
                                  · refine g_aloadn (pc := 228) (i := 0) (x := 200) hK dd_X12_copy_228 rfl rfl ?_
                                    refine g_getv (pc := 229) (f := (1, 3)) (j := 2) (v := gR 203) hK (kdm kd_200) rfl ef_12 (by decide) rfl kk_1103 dd_X12_copy_229 rfl ?_
                                    refine g_bipush (pc := 232) (x := 40) hK dd_X12_copy_232 (by decide) ?_
                                    refine g_iloadn (pc := 234) (i := 2) (x := sq) hK dd_X12_copy_234 rfl rfl ?_
                                    refine g_imul (pc := 235) (z := 40 * sq) hK dd_X12_copy_235 rfl ?_
                                    refine g_iload (pc := 236) (i := 4) (x := j) hK dd_X12_copy_236 rfl ?_
                                    refine g_iadd (pc := 238) (z := (40 * sq) + j) hK dd_X12_copy_238 rfl ?_
                                    refine g_iload (pc := 239) (i := 6) (x := ki) hK dd_X12_copy_239 rfl ?_
                                    refine g_iadd (pc := 241) (z := ((40 * sq) + j) + ki) hK dd_X12_copy_241 rfl ?_
                                    refine g_aloadn (pc := 242) (i := 0) (x := 200) hK dd_X12_copy_242 rfl rfl ?_
                                    refine g_getv (pc := 243) (f := (1, 3)) (j := 2) (v := gR 203) hK (kdm kd_200) rfl ef_12 (by decide) rfl kk_1103 dd_X12_copy_243 rfl ?_
                                    refine g_bipush (pc := 246) (x := 40) hK dd_X12_copy_246 (by decide) ?_
                                    refine g_iloadn (pc := 248) (i := 1) (x := sp) hK dd_X12_copy_248 rfl rfl ?_
                                    refine g_imul (pc := 249) (z := 40 * sp) hK dd_X12_copy_249 rfl ?_
                                    refine g_iloadn (pc := 250) (i := 3) (x := i) hK dd_X12_copy_250 rfl rfl ?_
                                    refine g_iadd (pc := 251) (z := (40 * sp) + i) hK dd_X12_copy_251 rfl ?_
                                    refine g_iload (pc := 252) (i := 6) (x := ki) hK dd_X12_copy_252 rfl ?_
                                    refine g_iadd (pc := 254) (z := ((40 * sp) + i) + ki) hK dd_X12_copy_254 rfl ?_
                                    refine g_lald (pc := 255) hK (kdm kd_203) yl_203 (by decide) dd_X12_copy_255 (by omega) (by omega) (fun x292 ex292 rx292 => ?_)
                                    have ex_ := ex292
                                    refine g_last (pc := 256) hK (kdm kd_203) yl_203 (by decide) (by decide) dd_X12_copy_256 (by omega) (by omega) rx292 ?_
                                    refine g_iinc (pc := 257) (i := 6) (y := ki + 1) (L' := [(0, gR 200), (1, gI sp), (2, gI sq), (3, gI i), (4, gI j), (5, gI n), (6, gI (ki + 1))]) hK dd_X12_copy_257 rfl rfl (by decide) rfl ?_
                                    refine g_goto (pc := 260) (tgt := 221) hK dd_X12_copy_260 (by decide) ?_
                                    refine g_sub (L' := [(0, gR 200), (1, gI sp), (2, gI sq), (3, gI i), (4, gI j), (5, gI n), (6, gI (ki + 1))]) [0, 1, 2, 3, 4, 5, 6] rfl ?_
                                    refine g_mem (M2 := cp M 203 (M 203) (40 * sp + i).toNat (40 * sq + j).toNat (ki + 1).toNat) (by rw [tn1 (by omega), show (40 * sq + j + ki).toNat = (40 * sq + j).toNat + ki.toNat by omega]; refine cp_as (ex_.trans ?_); rw [cp_rd (by omega)]; congr 1; omega) ?_
                                    exact ih287 (ki + 1) (by omega) (by omega)
                              refine g_mem (M2 := cp M 203 (M 203) (40 * sp + i).toNat (40 * sq + j).toNat (0 : Int).toNat) (cp_0.symm) ?_
                              refine g_sub (L' := [(0, gR 200), (1, gI sp), (2, gI sq), (3, gI i), (4, gI j), (5, gI n), (6, gI 0)]) [0, 1, 2, 3, 4, 5, 6] rfl ?_
                              exact lp288 _ 0 (by omega) (Nat.lt_succ_self _)
                            · refine g_iload (pc := 169) (i := 5) (x := n) hK dd_X12_copy_169 rfl ?_
                              refine g_iconst (pc := 171) (x := 1) hK dd_X12_copy_171 (by decide) ?_
                              refine g_isub (pc := 172) (z := n - 1) hK dd_X12_copy_172 rfl ?_
                              refine g_istore (pc := 173) (i := 6) (L' := [(0, gR 200), (1, gI sp), (2, gI sq), (3, gI i), (4, gI j), (5, gI n), (6, gI (n - 1))]) hK dd_X12_copy_173 (by decide) rfl ?_
                              have lp295 : ∀ (n293 : Nat) (kd : Int), (-1 ≤ kd ∧ kd < n) → (kd + 1).toNat < n293 → G p l e (rmD 2) s m args below meth c D cy q A 0 0 7 (MQ below (gQc D cy q A Pq) args s 0 0 A) 175 [(0, gR 200), (1, gI sp), (2, gI sq), (3, gI i), (4, gI j), (5, gI n), (6, gI kd)] [] (cp M 203 (M 203) (40 * sp + i + kd + 1).toNat (40 * sq + j + kd + 1).toNat (n - 1 - kd).toNat) := by
                                intro n293
                                induction n293 with
                                | zero => intro kd iv296 hm297; exact absurd hm297 (Nat.not_lt_zero _)
                                | succ n293 ih294 =>
                                  intro kd iv296 hm297
                                  refine g_iload (pc := 175) (i := 6) (x := kd) hK dd_X12_copy_175 rfl ?_
                                  refine g_if_lt (pc := 177) (tgt := 215) hK dd_X12_copy_177 (by decide) ⟨by omega, by omega⟩ (fun c298 => ?_) (fun c298 => ?_)
                                  · refine g_goto (pc := 215) (tgt := 263) hK dd_X12_copy_215 (by decide) ?_
                                    refine g_iload (pc := 263) (i := 5) (x := n) hK dd_X12_copy_263 rfl ?_
                                    refine g_iret (pc := 265) hK hr hlocks dd_X12_copy_265 rfl ?_
                                    first | exact g_fin (hB (by first | omega | (subst_vars; omega) | exact ⟨by first | assumption | omega | (subst_vars; first | assumption | omega), by first | assumption | omega | (subst_vars; first | assumption | omega)⟩)) (by first | rfl | omega | (subst_vars; first | rfl | omega)) (by first | rfl | (subst_vars; rfl)) | exact g_fin (hO (by first | omega | (subst_vars; omega) | exact ⟨by first | assumption | omega | (subst_vars; first | assumption | omega), by first | assumption | omega | (subst_vars; first | assumption | omega)⟩)) (by first | rfl | omega | (subst_vars; first | rfl | omega)) (by first | rfl | (subst_vars; rfl)) | exact g_fin (hN (by first | omega | (subst_vars; omega) | exact ⟨by first | assumption | omega | (subst_vars; first | assumption | omega), by first | assumption | omega | (subst_vars; first | assumption | omega)⟩)) (by first | rfl | omega | (subst_vars; first | rfl | omega)) (by first | rfl | (subst_vars; rfl)) | exact g_fin (hP (by first | omega | (subst_vars; omega) | exact ⟨by first | assumption | omega | (subst_vars; first | assumption | omega), by first | assumption | omega | (subst_vars; first | assumption | omega)⟩)) (by first | rfl | omega | (subst_vars; first | rfl | omega)) (by first | rfl | (subst_vars; rfl)) | exact g_fin (hY (by first | omega | (subst_vars; omega) | exact ⟨by first | assumption | omega | (subst_vars; first | assumption | omega), by first | assumption | omega | (subst_vars; first | assumption | omega)⟩)) (by first | rfl | omega | (subst_vars; first | rfl | omega)) (by rw [show kd = -1 by omega, show (40 * sp + i + -1 + 1).toNat = (40 * sp + i).toNat by omega, show (40 * sq + j + -1 + 1).toNat = (40 * sq + j).toNat by omega, show (n - 1 - -1).toNat = n.toNat by omega]) | (exfalso; omega)
                                  · refine g_aloadn (pc := 180) (i := 0) (x := 200) hK dd_X12_copy_180 rfl rfl ?_
                                    refine g_getv (pc := 181) (f := (1, 3)) (j := 2) (v := gR 203) hK (kdm kd_200) rfl ef_12 (by decide) rfl kk_1103 dd_X12_copy_181 rfl ?_
                                    refine g_bipush (pc := 184) (x := 40) hK dd_X12_copy_184 (by decide) ?_
                                    refine g_iloadn (pc := 186) (i := 2) (x := sq) hK dd_X12_copy_186 rfl rfl ?_
                                    refine g_imul (pc := 187) (z := 40 * sq) hK dd_X12_copy_187 rfl ?_
                                    refine g_iload (pc := 188) (i := 4) (x := j) hK dd_X12_copy_188 rfl ?_
                                    refine g_iadd (pc := 190) (z := (40 * sq) + j) hK dd_X12_copy_190 rfl ?_
                                    refine g_iload (pc := 191) (i := 6) (x := kd) hK dd_X12_copy_191 rfl ?_
                                    refine g_iadd (pc := 193) (z := ((40 * sq) + j) + kd) hK dd_X12_copy_193 rfl ?_
                                    refine g_aloadn (pc := 194) (i := 0) (x := 200) hK dd_X12_copy_194 rfl rfl ?_
                                    refine g_getv (pc := 195) (f := (1, 3)) (j := 2) (v := gR 203) hK (kdm kd_200) rfl ef_12 (by decide) rfl kk_1103 dd_X12_copy_195 rfl ?_
                                    refine g_bipush (pc := 198) (x := 40) hK dd_X12_copy_198 (by decide) ?_
                                    refine g_iloadn (pc := 200) (i := 1) (x := sp) hK dd_X12_copy_200 rfl rfl ?_
                                    refine g_imul (pc := 201) (z := 40 * sp) hK dd_X12_copy_201 rfl ?_
                                    refine g_iloadn (pc := 202) (i := 3) (x := i) hK dd_X12_copy_202 rfl rfl ?_
                                    refine g_iadd (pc := 203) (z := (40 * sp) + i) hK dd_X12_copy_203 rfl ?_
                                    refine g_iload (pc := 204) (i := 6) (x := kd) hK dd_X12_copy_204 rfl ?_
                                    refine g_iadd (pc := 206) (z := ((40 * sp) + i) + kd) hK dd_X12_copy_206 rfl ?_
                                    refine g_lald (pc := 207) hK (kdm kd_203) yl_203 (by decide) dd_X12_copy_207 (by omega) (by omega) (fun x299 ex299 rx299 => ?_)
                                    have ex_ := ex299
                                    refine g_last (pc := 208) hK (kdm kd_203) yl_203 (by decide) (by decide) dd_X12_copy_208 (by omega) (by omega) rx299 ?_
                                    refine g_iinc (pc := 209) (i := 6) (y := kd - 1) (L' := [(0, gR 200), (1, gI sp), (2, gI sq), (3, gI i), (4, gI j), (5, gI n), (6, gI (kd - 1))]) hK dd_X12_copy_209 rfl (by omega) (by decide) rfl ?_
                                    refine g_goto (pc := 212) (tgt := 175) hK dd_X12_copy_212 (by decide) ?_
                                    refine g_sub (L' := [(0, gR 200), (1, gI sp), (2, gI sq), (3, gI i), (4, gI j), (5, gI n), (6, gI (kd - 1))]) [0, 1, 2, 3, 4, 5, 6] rfl ?_
                                    refine g_mem (M2 := cp M 203 (M 203) (40 * sp + i + (kd - 1) + 1).toNat (40 * sq + j + (kd - 1) + 1).toNat (n - 1 - (kd - 1)).toNat) (by rw [show (40 * sp + i + kd + 1).toNat = (40 * sp + i + kd).toNat + 1 by omega, show (40 * sq + j + kd + 1).toNat = (40 * sq + j + kd).toNat + 1 by omega]; rw [show (40 * sp + i + (kd - 1) + 1).toNat = (40 * sp + i + kd).toNat by omega, show (40 * sq + j + (kd - 1) + 1).toNat = (40 * sq + j + kd).toNat by omega, show (n - 1 - (kd - 1)).toNat = (n - 1 - kd).toNat + 1 by omega]; refine cp_ds (ex_.trans ?_); rw [show (40 * sp + i + kd + 1).toNat = (40 * sp + i + kd).toNat + 1 by omega, show (40 * sq + j + kd + 1).toNat = (40 * sq + j + kd).toNat + 1 by omega, cp_rd (by omega)]) ?_
                                    exact ih294 (kd - 1) (by omega) (by omega)
                              refine g_mem (M2 := cp M 203 (M 203) (40 * sp + i + (n - 1) + 1).toNat (40 * sq + j + (n - 1) + 1).toNat (n - 1 - (n - 1)).toNat) (by rw [show (n - 1 - (n - 1)).toNat = 0 by omega]; exact cp_0.symm) ?_
                              refine g_sub (L' := [(0, gR 200), (1, gI sp), (2, gI sq), (3, gI i), (4, gI j), (5, gI n), (6, gI (n - 1))]) [0, 1, 2, 3, 4, 5, 6] rfl ?_
                              exact lp295 _ (n - 1) (by omega) (Nat.lt_succ_self _)
                        · refine g_lcmp (pc := 147) (z := 0) hK dd_X12_copy_147 ⟨by omega, by omega⟩ (inL_of rx272) (by rw [if_neg (by omega), if_pos c274]) ?_
                          refine g_if_le (pc := 148) (tgt := 158) hK dd_X12_copy_148 (by decide) (by decide) (fun _ => ?_) (fun c300 => absurd (by decide) c300)
                          refine g_iloadn (pc := 158) (i := 1) (x := sp) hK dd_X12_copy_158 rfl rfl ?_
                          refine g_iloadn (pc := 159) (i := 2) (x := sq) hK dd_X12_copy_159 rfl rfl ?_
                          refine g_icmp_ne (pc := 160) (tgt := 218) hK dd_X12_copy_160 (by decide) h_sp h_sq (fun c301 => ?_) (fun c301 => ?_)
                          · refine g_iconst (pc := 218) (x := 0) hK dd_X12_copy_218 (by decide) ?_
                            refine g_istore (pc := 219) (i := 6) (L' := [(0, gR 200), (1, gI sp), (2, gI sq), (3, gI i), (4, gI j), (5, gI n), (6, gI 0)]) hK dd_X12_copy_219 (by decide) rfl ?_
                            have lp304 : ∀ (n302 : Nat) (ki : Int), (0 ≤ ki ∧ ki ≤ n) → (n - ki).toNat < n302 → G p l e (rmD 2) s m args below meth c D cy q A 0 0 7 (MQ below (gQc D cy q A Pq) args s 0 0 A) 221 [(0, gR 200), (1, gI sp), (2, gI sq), (3, gI i), (4, gI j), (5, gI n), (6, gI ki)] [] (cp M 203 (M 203) (40 * sp + i).toNat (40 * sq + j).toNat ki.toNat) := by
                              intro n302
                              induction n302 with
                              | zero => intro ki iv305 hm306; exact absurd hm306 (Nat.not_lt_zero _)
                              | succ n302 ih303 =>
                                intro ki iv305 hm306
                                refine g_iload (pc := 221) (i := 6) (x := ki) hK dd_X12_copy_221 rfl ?_
                                refine g_iload (pc := 223) (i := 5) (x := n) hK dd_X12_copy_223 rfl ?_
                                refine g_icmp_ge (pc := 225) (tgt := 263) hK dd_X12_copy_225 (by decide) ⟨by omega, by omega⟩ h_n (fun c307 => ?_) (fun c307 => ?_)
                                · refine g_iload (pc := 263) (i := 5) (x := n) hK dd_X12_copy_263 rfl ?_
                                  refine g_iret (pc := 265) hK hr hlocks dd_X12_copy_265 rfl ?_
                                  first | exact g_fin (hB (by first | omega | (subst_vars; omega) | exact ⟨by first | assumption | omega | (subst_vars; first | assumption | omega), by first | assumption | omega | (subst_vars; first | assumption | omega)⟩)) (by first | rfl | omega | (subst_vars; first | rfl | omega)) (by first | rfl | (subst_vars; rfl)) | exact g_fin (hO (by first | omega | (subst_vars; omega) | exact ⟨by first | assumption | omega | (subst_vars; first | assumption | omega), by first | assumption | omega | (subst_vars; first | assumption | omega)⟩)) (by first | rfl | omega | (subst_vars; first | rfl | omega)) (by first | rfl | (subst_vars; rfl)) | exact g_fin (hN (by first | omega | (subst_vars; omega) | exact ⟨by first | assumption | omega | (subst_vars; first | assumption | omega), by first | assumption | omega | (subst_vars; first | assumption | omega)⟩)) (by first | rfl | omega | (subst_vars; first | rfl | omega)) (by first | rfl | (subst_vars; rfl)) | exact g_fin (hP (by first | omega | (subst_vars; omega) | exact ⟨by first | assumption | omega | (subst_vars; first | assumption | omega), by first | assumption | omega | (subst_vars; first | assumption | omega)⟩)) (by first | rfl | omega | (subst_vars; first | rfl | omega)) (by first | rfl | (subst_vars; rfl)) | exact g_fin (hY (by first | omega | (subst_vars; omega) | exact ⟨by first | assumption | omega | (subst_vars; first | assumption | omega), by first | assumption | omega | (subst_vars; first | assumption | omega)⟩)) (by first | rfl | omega | (subst_vars; first | rfl | omega)) (by rw [show ki = n by omega]) | (exfalso; omega)
                                · refine g_aloadn (pc := 228) (i := 0) (x := 200) hK dd_X12_copy_228 rfl rfl ?_
                                  refine g_getv (pc := 229) (f := (1, 3)) (j := 2) (v := gR 203) hK (kdm kd_200) rfl ef_12 (by decide) rfl kk_1103 dd_X12_copy_229 rfl ?_
                                  refine g_bipush (pc := 232) (x := 40) hK dd_X12_copy_232 (by decide) ?_
                                  refine g_iloadn (pc := 234) (i := 2) (x := sq) hK dd_X12_copy_234 rfl rfl ?_
                                  refine g_imul (pc := 235) (z := 40 * sq) hK dd_X12_copy_235 rfl ?_
                                  refine g_iload (pc := 236) (i := 4) (x := j) hK dd_X12_copy_236 rfl ?_
                                  refine g_iadd (pc := 238) (z := (40 * sq) + j) hK dd_X12_copy_238 rfl ?_
                                  refine g_iload (pc := 239) (i := 6) (x := ki) hK dd_X12_copy_239 rfl ?_
                                  refine g_iadd (pc := 241) (z := ((40 * sq) + j) + ki) hK dd_X12_copy_241 rfl ?_
                                  refine g_aloadn (pc := 242) (i := 0) (x := 200) hK dd_X12_copy_242 rfl rfl ?_
                                  refine g_getv (pc := 243) (f := (1, 3)) (j := 2) (v := gR 203) hK (kdm kd_200) rfl ef_12 (by decide) rfl kk_1103 dd_X12_copy_243 rfl ?_
                                  refine g_bipush (pc := 246) (x := 40) hK dd_X12_copy_246 (by decide) ?_
                                  refine g_iloadn (pc := 248) (i := 1) (x := sp) hK dd_X12_copy_248 rfl rfl ?_
                                  refine g_imul (pc := 249) (z := 40 * sp) hK dd_X12_copy_249 rfl ?_
                                  refine g_iloadn (pc := 250) (i := 3) (x := i) hK dd_X12_copy_250 rfl rfl ?_
                                  refine g_iadd (pc := 251) (z := (40 * sp) + i) hK dd_X12_copy_251 rfl ?_
                                  refine g_iload (pc := 252) (i := 6) (x := ki) hK dd_X12_copy_252 rfl ?_
                                  refine g_iadd (pc := 254) (z := ((40 * sp) + i) + ki) hK dd_X12_copy_254 rfl ?_
                                  refine g_lald (pc := 255) hK (kdm kd_203) yl_203 (by decide) dd_X12_copy_255 (by omega) (by omega) (fun x308 ex308 rx308 => ?_)
                                  have ex_ := ex308
                                  refine g_last (pc := 256) hK (kdm kd_203) yl_203 (by decide) (by decide) dd_X12_copy_256 (by omega) (by omega) rx308 ?_
                                  refine g_iinc (pc := 257) (i := 6) (y := ki + 1) (L' := [(0, gR 200), (1, gI sp), (2, gI sq), (3, gI i), (4, gI j), (5, gI n), (6, gI (ki + 1))]) hK dd_X12_copy_257 rfl rfl (by decide) rfl ?_
                                  refine g_goto (pc := 260) (tgt := 221) hK dd_X12_copy_260 (by decide) ?_
                                  refine g_sub (L' := [(0, gR 200), (1, gI sp), (2, gI sq), (3, gI i), (4, gI j), (5, gI n), (6, gI (ki + 1))]) [0, 1, 2, 3, 4, 5, 6] rfl ?_
                                  refine g_mem (M2 := cp M 203 (M 203) (40 * sp + i).toNat (40 * sq + j).toNat (ki + 1).toNat) (by rw [tn1 (by omega), show (40 * sq + j + ki).toNat = (40 * sq + j).toNat + ki.toNat by omega]; refine cp_as (ex_.trans ?_); rw [cp_rd (by omega)]; congr 1; omega) ?_
                                  exact ih303 (ki + 1) (by omega) (by omega)
                            refine g_mem (M2 := cp M 203 (M 203) (40 * sp + i).toNat (40 * sq + j).toNat (0 : Int).toNat) (cp_0.symm) ?_
                            refine g_sub (L' := [(0, gR 200), (1, gI sp), (2, gI sq), (3, gI i), (4, gI j), (5, gI n), (6, gI 0)]) [0, 1, 2, 3, 4, 5, 6] rfl ?_
                            exact lp304 _ 0 (by omega) (Nat.lt_succ_self _)
                          · refine g_iloadn (pc := 163) (i := 3) (x := i) hK dd_X12_copy_163 rfl rfl ?_
                            refine g_iload (pc := 164) (i := 4) (x := j) hK dd_X12_copy_164 rfl ?_
                            refine g_icmp_ge (pc := 166) (tgt := 218) hK dd_X12_copy_166 (by decide) h_i h_j (fun c309 => ?_) (fun c309 => ?_)
                            · refine g_iconst (pc := 218) (x := 0) hK dd_X12_copy_218 (by decide) ?_
                              refine g_istore (pc := 219) (i := 6) (L' := [(0, gR 200), (1, gI sp), (2, gI sq), (3, gI i), (4, gI j), (5, gI n), (6, gI 0)]) hK dd_X12_copy_219 (by decide) rfl ?_
                              have lp312 : ∀ (n310 : Nat) (ki : Int), (0 ≤ ki ∧ ki ≤ n) → (n - ki).toNat < n310 → G p l e (rmD 2) s m args below meth c D cy q A 0 0 7 (MQ below (gQc D cy q A Pq) args s 0 0 A) 221 [(0, gR 200), (1, gI sp), (2, gI sq), (3, gI i), (4, gI j), (5, gI n), (6, gI ki)] [] (cp M 203 (M 203) (40 * sp + i).toNat (40 * sq + j).toNat ki.toNat) := by
                                intro n310
                                induction n310 with
                                | zero => intro ki iv313 hm314; exact absurd hm314 (Nat.not_lt_zero _)
                                | succ n310 ih311 =>
                                  intro ki iv313 hm314
                                  refine g_iload (pc := 221) (i := 6) (x := ki) hK dd_X12_copy_221 rfl ?_
                                  refine g_iload (pc := 223) (i := 5) (x := n) hK dd_X12_copy_223 rfl ?_
                                  refine g_icmp_ge (pc := 225) (tgt := 263) hK dd_X12_copy_225 (by decide) ⟨by omega, by omega⟩ h_n (fun c315 => ?_) (fun c315 => ?_)
                                  · refine g_iload (pc := 263) (i := 5) (x := n) hK dd_X12_copy_263 rfl ?_
                                    refine g_iret (pc := 265) hK hr hlocks dd_X12_copy_265 rfl ?_
                                    first | exact g_fin (hB (by first | omega | (subst_vars; omega) | exact ⟨by first | assumption | omega | (subst_vars; first | assumption | omega), by first | assumption | omega | (subst_vars; first | assumption | omega)⟩)) (by first | rfl | omega | (subst_vars; first | rfl | omega)) (by first | rfl | (subst_vars; rfl)) | exact g_fin (hO (by first | omega | (subst_vars; omega) | exact ⟨by first | assumption | omega | (subst_vars; first | assumption | omega), by first | assumption | omega | (subst_vars; first | assumption | omega)⟩)) (by first | rfl | omega | (subst_vars; first | rfl | omega)) (by first | rfl | (subst_vars; rfl)) | exact g_fin (hN (by first | omega | (subst_vars; omega) | exact ⟨by first | assumption | omega | (subst_vars; first | assumption | omega), by first | assumption | omega | (subst_vars; first | assumption | omega)⟩)) (by first | rfl | omega | (subst_vars; first | rfl | omega)) (by first | rfl | (subst_vars; rfl)) | exact g_fin (hP (by first | omega | (subst_vars; omega) | exact ⟨by first | assumption | omega | (subst_vars; first | assumption | omega), by first | assumption | omega | (subst_vars; first | assumption | omega)⟩)) (by first | rfl | omega | (subst_vars; first | rfl | omega)) (by first | rfl | (subst_vars; rfl)) | exact g_fin (hY (by first | omega | (subst_vars; omega) | exact ⟨by first | assumption | omega | (subst_vars; first | assumption | omega), by first | assumption | omega | (subst_vars; first | assumption | omega)⟩)) (by first | rfl | omega | (subst_vars; first | rfl | omega)) (by rw [show ki = n by omega]) | (exfalso; omega)
                                  · refine g_aloadn (pc := 228) (i := 0) (x := 200) hK dd_X12_copy_228 rfl rfl ?_
                                    refine g_getv (pc := 229) (f := (1, 3)) (j := 2) (v := gR 203) hK (kdm kd_200) rfl ef_12 (by decide) rfl kk_1103 dd_X12_copy_229 rfl ?_
                                    refine g_bipush (pc := 232) (x := 40) hK dd_X12_copy_232 (by decide) ?_
                                    refine g_iloadn (pc := 234) (i := 2) (x := sq) hK dd_X12_copy_234 rfl rfl ?_
                                    refine g_imul (pc := 235) (z := 40 * sq) hK dd_X12_copy_235 rfl ?_
                                    refine g_iload (pc := 236) (i := 4) (x := j) hK dd_X12_copy_236 rfl ?_
                                    refine g_iadd (pc := 238) (z := (40 * sq) + j) hK dd_X12_copy_238 rfl ?_
                                    refine g_iload (pc := 239) (i := 6) (x := ki) hK dd_X12_copy_239 rfl ?_
                                    refine g_iadd (pc := 241) (z := ((40 * sq) + j) + ki) hK dd_X12_copy_241 rfl ?_
                                    refine g_aloadn (pc := 242) (i := 0) (x := 200) hK dd_X12_copy_242 rfl rfl ?_
                                    refine g_getv (pc := 243) (f := (1, 3)) (j := 2) (v := gR 203) hK (kdm kd_200) rfl ef_12 (by decide) rfl kk_1103 dd_X12_copy_243 rfl ?_
                                    refine g_bipush (pc := 246) (x := 40) hK dd_X12_copy_246 (by decide) ?_
                                    refine g_iloadn (pc := 248) (i := 1) (x := sp) hK dd_X12_copy_248 rfl rfl ?_
                                    refine g_imul (pc := 249) (z := 40 * sp) hK dd_X12_copy_249 rfl ?_
                                    refine g_iloadn (pc := 250) (i := 3) (x := i) hK dd_X12_copy_250 rfl rfl ?_
                                    refine g_iadd (pc := 251) (z := (40 * sp) + i) hK dd_X12_copy_251 rfl ?_
                                    refine g_iload (pc := 252) (i := 6) (x := ki) hK dd_X12_copy_252 rfl ?_
                                    refine g_iadd (pc := 254) (z := ((40 * sp) + i) + ki) hK dd_X12_copy_254 rfl ?_
                                    refine g_lald (pc := 255) hK (kdm kd_203) yl_203 (by decide) dd_X12_copy_255 (by omega) (by omega) (fun x316 ex316 rx316 => ?_)
                                    have ex_ := ex316
                                    refine g_last (pc := 256) hK (kdm kd_203) yl_203 (by decide) (by decide) dd_X12_copy_256 (by omega) (by omega) rx316 ?_
                                    refine g_iinc (pc := 257) (i := 6) (y := ki + 1) (L' := [(0, gR 200), (1, gI sp), (2, gI sq), (3, gI i), (4, gI j), (5, gI n), (6, gI (ki + 1))]) hK dd_X12_copy_257 rfl rfl (by decide) rfl ?_
                                    refine g_goto (pc := 260) (tgt := 221) hK dd_X12_copy_260 (by decide) ?_
                                    refine g_sub (L' := [(0, gR 200), (1, gI sp), (2, gI sq), (3, gI i), (4, gI j), (5, gI n), (6, gI (ki + 1))]) [0, 1, 2, 3, 4, 5, 6] rfl ?_
                                    refine g_mem (M2 := cp M 203 (M 203) (40 * sp + i).toNat (40 * sq + j).toNat (ki + 1).toNat) (by rw [tn1 (by omega), show (40 * sq + j + ki).toNat = (40 * sq + j).toNat + ki.toNat by omega]; refine cp_as (ex_.trans ?_); rw [cp_rd (by omega)]; congr 1; omega) ?_
                                    exact ih311 (ki + 1) (by omega) (by omega)
                              refine g_mem (M2 := cp M 203 (M 203) (40 * sp + i).toNat (40 * sq + j).toNat (0 : Int).toNat) (cp_0.symm) ?_
                              refine g_sub (L' := [(0, gR 200), (1, gI sp), (2, gI sq), (3, gI i), (4, gI j), (5, gI n), (6, gI 0)]) [0, 1, 2, 3, 4, 5, 6] rfl ?_
                              exact lp312 _ 0 (by omega) (Nat.lt_succ_self _)
                            · refine g_iload (pc := 169) (i := 5) (x := n) hK dd_X12_copy_169 rfl ?_
                              refine g_iconst (pc := 171) (x := 1) hK dd_X12_copy_171 (by decide) ?_
                              refine g_isub (pc := 172) (z := n - 1) hK dd_X12_copy_172 rfl ?_
                              refine g_istore (pc := 173) (i := 6) (L' := [(0, gR 200), (1, gI sp), (2, gI sq), (3, gI i), (4, gI j), (5, gI n), (6, gI (n - 1))]) hK dd_X12_copy_173 (by decide) rfl ?_
                              have lp319 : ∀ (n317 : Nat) (kd : Int), (-1 ≤ kd ∧ kd < n) → (kd + 1).toNat < n317 → G p l e (rmD 2) s m args below meth c D cy q A 0 0 7 (MQ below (gQc D cy q A Pq) args s 0 0 A) 175 [(0, gR 200), (1, gI sp), (2, gI sq), (3, gI i), (4, gI j), (5, gI n), (6, gI kd)] [] (cp M 203 (M 203) (40 * sp + i + kd + 1).toNat (40 * sq + j + kd + 1).toNat (n - 1 - kd).toNat) := by
                                intro n317
                                induction n317 with
                                | zero => intro kd iv320 hm321; exact absurd hm321 (Nat.not_lt_zero _)
                                | succ n317 ih318 =>
                                  intro kd iv320 hm321
                                  refine g_iload (pc := 175) (i := 6) (x := kd) hK dd_X12_copy_175 rfl ?_
                                  refine g_if_lt (pc := 177) (tgt := 215) hK dd_X12_copy_177 (by decide) ⟨by omega, by omega⟩ (fun c322 => ?_) (fun c322 => ?_)
                                  · refine g_goto (pc := 215) (tgt := 263) hK dd_X12_copy_215 (by decide) ?_
                                    refine g_iload (pc := 263) (i := 5) (x := n) hK dd_X12_copy_263 rfl ?_
                                    refine g_iret (pc := 265) hK hr hlocks dd_X12_copy_265 rfl ?_
                                    first | exact g_fin (hB (by first | omega | (subst_vars; omega) | exact ⟨by first | assumption | omega | (subst_vars; first | assumption | omega), by first | assumption | omega | (subst_vars; first | assumption | omega)⟩)) (by first | rfl | omega | (subst_vars; first | rfl | omega)) (by first | rfl | (subst_vars; rfl)) | exact g_fin (hO (by first | omega | (subst_vars; omega) | exact ⟨by first | assumption | omega | (subst_vars; first | assumption | omega), by first | assumption | omega | (subst_vars; first | assumption | omega)⟩)) (by first | rfl | omega | (subst_vars; first | rfl | omega)) (by first | rfl | (subst_vars; rfl)) | exact g_fin (hN (by first | omega | (subst_vars; omega) | exact ⟨by first | assumption | omega | (subst_vars; first | assumption | omega), by first | assumption | omega | (subst_vars; first | assumption | omega)⟩)) (by first | rfl | omega | (subst_vars; first | rfl | omega)) (by first | rfl | (subst_vars; rfl)) | exact g_fin (hP (by first | omega | (subst_vars; omega) | exact ⟨by first | assumption | omega | (subst_vars; first | assumption | omega), by first | assumption | omega | (subst_vars; first | assumption | omega)⟩)) (by first | rfl | omega | (subst_vars; first | rfl | omega)) (by first | rfl | (subst_vars; rfl)) | exact g_fin (hY (by first | omega | (subst_vars; omega) | exact ⟨by first | assumption | omega | (subst_vars; first | assumption | omega), by first | assumption | omega | (subst_vars; first | assumption | omega)⟩)) (by first | rfl | omega | (subst_vars; first | rfl | omega)) (by rw [show kd = -1 by omega, show (40 * sp + i + -1 + 1).toNat = (40 * sp + i).toNat by omega, show (40 * sq + j + -1 + 1).toNat = (40 * sq + j).toNat by omega, show (n - 1 - -1).toNat = n.toNat by omega]) | (exfalso; omega)
                                  · refine g_aloadn (pc := 180) (i := 0) (x := 200) hK dd_X12_copy_180 rfl rfl ?_
                                    refine g_getv (pc := 181) (f := (1, 3)) (j := 2) (v := gR 203) hK (kdm kd_200) rfl ef_12 (by decide) rfl kk_1103 dd_X12_copy_181 rfl ?_
                                    refine g_bipush (pc := 184) (x := 40) hK dd_X12_copy_184 (by decide) ?_
                                    refine g_iloadn (pc := 186) (i := 2) (x := sq) hK dd_X12_copy_186 rfl rfl ?_
                                    refine g_imul (pc := 187) (z := 40 * sq) hK dd_X12_copy_187 rfl ?_
                                    refine g_iload (pc := 188) (i := 4) (x := j) hK dd_X12_copy_188 rfl ?_
                                    refine g_iadd (pc := 190) (z := (40 * sq) + j) hK dd_X12_copy_190 rfl ?_
                                    refine g_iload (pc := 191) (i := 6) (x := kd) hK dd_X12_copy_191 rfl ?_
                                    refine g_iadd (pc := 193) (z := ((40 * sq) + j) + kd) hK dd_X12_copy_193 rfl ?_
                                    refine g_aloadn (pc := 194) (i := 0) (x := 200) hK dd_X12_copy_194 rfl rfl ?_
                                    refine g_getv (pc := 195) (f := (1, 3)) (j := 2) (v := gR 203) hK (kdm kd_200) rfl ef_12 (by decide) rfl kk_1103 dd_X12_copy_195 rfl ?_
                                    refine g_bipush (pc := 198) (x := 40) hK dd_X12_copy_198 (by decide) ?_
                                    refine g_iloadn (pc := 200) (i := 1) (x := sp) hK dd_X12_copy_200 rfl rfl ?_
                                    refine g_imul (pc := 201) (z := 40 * sp) hK dd_X12_copy_201 rfl ?_
                                    refine g_iloadn (pc := 202) (i := 3) (x := i) hK dd_X12_copy_202 rfl rfl ?_
                                    refine g_iadd (pc := 203) (z := (40 * sp) + i) hK dd_X12_copy_203 rfl ?_
                                    refine g_iload (pc := 204) (i := 6) (x := kd) hK dd_X12_copy_204 rfl ?_
                                    refine g_iadd (pc := 206) (z := ((40 * sp) + i) + kd) hK dd_X12_copy_206 rfl ?_
                                    refine g_lald (pc := 207) hK (kdm kd_203) yl_203 (by decide) dd_X12_copy_207 (by omega) (by omega) (fun x323 ex323 rx323 => ?_)
                                    have ex_ := ex323
                                    refine g_last (pc := 208) hK (kdm kd_203) yl_203 (by decide) (by decide) dd_X12_copy_208 (by omega) (by omega) rx323 ?_
                                    refine g_iinc (pc := 209) (i := 6) (y := kd - 1) (L' := [(0, gR 200), (1, gI sp), (2, gI sq), (3, gI i), (4, gI j), (5, gI n), (6, gI (kd - 1))]) hK dd_X12_copy_209 rfl (by omega) (by decide) rfl ?_
                                    refine g_goto (pc := 212) (tgt := 175) hK dd_X12_copy_212 (by decide) ?_
                                    refine g_sub (L' := [(0, gR 200), (1, gI sp), (2, gI sq), (3, gI i), (4, gI j), (5, gI n), (6, gI (kd - 1))]) [0, 1, 2, 3, 4, 5, 6] rfl ?_
                                    refine g_mem (M2 := cp M 203 (M 203) (40 * sp + i + (kd - 1) + 1).toNat (40 * sq + j + (kd - 1) + 1).toNat (n - 1 - (kd - 1)).toNat) (by rw [show (40 * sp + i + kd + 1).toNat = (40 * sp + i + kd).toNat + 1 by omega, show (40 * sq + j + kd + 1).toNat = (40 * sq + j + kd).toNat + 1 by omega]; rw [show (40 * sp + i + (kd - 1) + 1).toNat = (40 * sp + i + kd).toNat by omega, show (40 * sq + j + (kd - 1) + 1).toNat = (40 * sq + j + kd).toNat by omega, show (n - 1 - (kd - 1)).toNat = (n - 1 - kd).toNat + 1 by omega]; refine cp_ds (ex_.trans ?_); rw [show (40 * sp + i + kd + 1).toNat = (40 * sp + i + kd).toNat + 1 by omega, show (40 * sq + j + kd + 1).toNat = (40 * sq + j + kd).toNat + 1 by omega, cp_rd (by omega)]) ?_
                                    exact ih318 (kd - 1) (by omega) (by omega)
                              refine g_mem (M2 := cp M 203 (M 203) (40 * sp + i + (n - 1) + 1).toNat (40 * sq + j + (n - 1) + 1).toNat (n - 1 - (n - 1)).toNat) (by rw [show (n - 1 - (n - 1)).toNat = 0 by omega]; exact cp_0.symm) ?_
                              refine g_sub (L' := [(0, gR 200), (1, gI sp), (2, gI sq), (3, gI i), (4, gI j), (5, gI n), (6, gI (n - 1))]) [0, 1, 2, 3, 4, 5, 6] rfl ?_
                              exact lp319 _ (n - 1) (by omega) (Nat.lt_succ_self _)
                        · refine g_lcmp (pc := 147) (z := 1) hK dd_X12_copy_147 ⟨by omega, by omega⟩ (inL_of rx272) (by rw [if_pos (by omega)]) ?_
                          refine g_if_le (pc := 148) (tgt := 158) hK dd_X12_copy_148 (by decide) (by decide) (fun c324 => absurd c324 (by decide)) (fun _ => ?_)
                          refine g_aloadn (pc := 151) (i := 0) (x := 200) hK dd_X12_copy_151 rfl rfl ?_
                          refine g_bipush (pc := 152) (x := (-2)) hK dd_X12_copy_152 (by decide) ?_
                          refine g_callV (pc := 154) (As := [gI (-2)]) hK ws_M_152 md_X12_no ⟨Nat.zero_le _, Nat.zero_le _⟩ ⟨by decide, by decide⟩ (kdm kd_200) rfl rfl dd_X12_copy_154 rfl rfl (Nat.le_of_ble_eq_true rfl) (d_no_2 hrg (g_r1 ?_))
                          refine g_iret (pc := 157) hK hr hlocks dd_X12_copy_157 rfl ?_
                          first | exact g_fin (hB (by first | omega | (subst_vars; omega) | exact ⟨by first | assumption | omega | (subst_vars; first | assumption | omega), by first | assumption | omega | (subst_vars; first | assumption | omega)⟩)) (by first | rfl | omega | (subst_vars; first | rfl | omega)) (by first | rfl | (subst_vars; rfl)) | exact g_fin (hP (by first | omega | (subst_vars; omega) | exact ⟨by first | assumption | omega | (subst_vars; first | assumption | omega), by first | assumption | omega | (subst_vars; first | assumption | omega)⟩)) (by first | rfl | omega | (subst_vars; first | rfl | omega)) (by first | rfl | (subst_vars; rfl)) | exact g_fin (hY (by first | omega | (subst_vars; omega) | exact ⟨by first | assumption | omega | (subst_vars; first | assumption | omega), by first | assumption | omega | (subst_vars; first | assumption | omega)⟩)) (by first | rfl | omega | (subst_vars; first | rfl | omega)) (by rw [show ki = n by omega]) | (exfalso; omega)
                      · refine g_lcmp (pc := 129) (z := 0) hK dd_X12_copy_129 ⟨by omega, by omega⟩ (inL_of rx267) (by rw [if_neg (by omega), if_pos c269]) ?_
                        refine g_if_gt (pc := 130) (tgt := 151) hK dd_X12_copy_130 (by decide) (by decide) (fun c325 => absurd c325 (by decide)) (fun _ => ?_)
                        refine g_iload (pc := 133) (i := 4) (x := j) hK dd_X12_copy_133 rfl ?_
                        refine g_i2l (pc := 135) hK dd_X12_copy_135 h_j ?_
                        refine g_iload (pc := 136) (i := 5) (x := n) hK dd_X12_copy_136 rfl ?_
                        refine g_i2l (pc := 138) hK dd_X12_copy_138 h_n ?_
                        refine g_ladd (pc := 139) (z := j + n) hK dd_X12_copy_139 rfl ?_
                        refine g_aloadn (pc := 140) (i := 0) (x := 200) hK dd_X12_copy_140 rfl rfl ?_
                        refine g_getv (pc := 141) (f := (1, 2)) (j := 1) (v := gR 202) hK (kdm kd_200) rfl ef_12 (by decide) rfl kk_1102 dd_X12_copy_141 rfl ?_
                        refine g_iloadn (pc := 144) (i := 2) (x := sq) hK dd_X12_copy_144 rfl rfl ?_
                        refine g_iald (pc := 145) hK (kdm kd_202) nl_202 (by decide) dd_X12_copy_145 (by omega) (by omega) (fun x326 ex326 rx326 => ?_)
                        refine g_i2l (pc := 146) hK dd_X12_copy_146 rx326 ?_
                        rcases Int.lt_trichotomy (j + n) x326 with c327 | c328 | c329
                        · refine g_lcmp (pc := 147) (z := (-1)) hK dd_X12_copy_147 ⟨by omega, by omega⟩ (inL_of rx326) (by rw [if_neg (by omega), if_neg (by omega)]) ?_
                          refine g_if_le (pc := 148) (tgt := 158) hK dd_X12_copy_148 (by decide) (by decide) (fun _ => ?_) (fun c330 => absurd (by decide) c330)
                          refine g_iloadn (pc := 158) (i := 1) (x := sp) hK dd_X12_copy_158 rfl rfl ?_
                          refine g_iloadn (pc := 159) (i := 2) (x := sq) hK dd_X12_copy_159 rfl rfl ?_
                          refine g_icmp_ne (pc := 160) (tgt := 218) hK dd_X12_copy_160 (by decide) h_sp h_sq (fun c331 => ?_) (fun c331 => ?_)
                          · refine g_iconst (pc := 218) (x := 0) hK dd_X12_copy_218 (by decide) ?_
                            refine g_istore (pc := 219) (i := 6) (L' := [(0, gR 200), (1, gI sp), (2, gI sq), (3, gI i), (4, gI j), (5, gI n), (6, gI 0)]) hK dd_X12_copy_219 (by decide) rfl ?_
                            have lp334 : ∀ (n332 : Nat) (ki : Int), (0 ≤ ki ∧ ki ≤ n) → (n - ki).toNat < n332 → G p l e (rmD 2) s m args below meth c D cy q A 0 0 7 (MQ below (gQc D cy q A Pq) args s 0 0 A) 221 [(0, gR 200), (1, gI sp), (2, gI sq), (3, gI i), (4, gI j), (5, gI n), (6, gI ki)] [] (cp M 203 (M 203) (40 * sp + i).toNat (40 * sq + j).toNat ki.toNat) := by
                              intro n332
                              induction n332 with
                              | zero => intro ki iv335 hm336; exact absurd hm336 (Nat.not_lt_zero _)
                              | succ n332 ih333 =>
                                intro ki iv335 hm336
                                refine g_iload (pc := 221) (i := 6) (x := ki) hK dd_X12_copy_221 rfl ?_
                                refine g_iload (pc := 223) (i := 5) (x := n) hK dd_X12_copy_223 rfl ?_
                                refine g_icmp_ge (pc := 225) (tgt := 263) hK dd_X12_copy_225 (by decide) ⟨by omega, by omega⟩ h_n (fun c337 => ?_) (fun c337 => ?_)
                                · refine g_iload (pc := 263) (i := 5) (x := n) hK dd_X12_copy_263 rfl ?_
                                  refine g_iret (pc := 265) hK hr hlocks dd_X12_copy_265 rfl ?_
                                  first | exact g_fin (hB (by first | omega | (subst_vars; omega) | exact ⟨by first | assumption | omega | (subst_vars; first | assumption | omega), by first | assumption | omega | (subst_vars; first | assumption | omega)⟩)) (by first | rfl | omega | (subst_vars; first | rfl | omega)) (by first | rfl | (subst_vars; rfl)) | exact g_fin (hO (by first | omega | (subst_vars; omega) | exact ⟨by first | assumption | omega | (subst_vars; first | assumption | omega), by first | assumption | omega | (subst_vars; first | assumption | omega)⟩)) (by first | rfl | omega | (subst_vars; first | rfl | omega)) (by first | rfl | (subst_vars; rfl)) | exact g_fin (hN (by first | omega | (subst_vars; omega) | exact ⟨by first | assumption | omega | (subst_vars; first | assumption | omega), by first | assumption | omega | (subst_vars; first | assumption | omega)⟩)) (by first | rfl | omega | (subst_vars; first | rfl | omega)) (by first | rfl | (subst_vars; rfl)) | exact g_fin (hP (by first | omega | (subst_vars; omega) | exact ⟨by first | assumption | omega | (subst_vars; first | assumption | omega), by first | assumption | omega | (subst_vars; first | assumption | omega)⟩)) (by first | rfl | omega | (subst_vars; first | rfl | omega)) (by first | rfl | (subst_vars; rfl)) | exact g_fin (hY (by first | omega | (subst_vars; omega) | exact ⟨by first | assumption | omega | (subst_vars; first | assumption | omega), by first | assumption | omega | (subst_vars; first | assumption | omega)⟩)) (by first | rfl | omega | (subst_vars; first | rfl | omega)) (by rw [show ki = n by omega]) | (exfalso; omega)
                                · refine g_aloadn (pc := 228) (i := 0) (x := 200) hK dd_X12_copy_228 rfl rfl ?_
                                  refine g_getv (pc := 229) (f := (1, 3)) (j := 2) (v := gR 203) hK (kdm kd_200) rfl ef_12 (by decide) rfl kk_1103 dd_X12_copy_229 rfl ?_
                                  refine g_bipush (pc := 232) (x := 40) hK dd_X12_copy_232 (by decide) ?_
                                  refine g_iloadn (pc := 234) (i := 2) (x := sq) hK dd_X12_copy_234 rfl rfl ?_
                                  refine g_imul (pc := 235) (z := 40 * sq) hK dd_X12_copy_235 rfl ?_
                                  refine g_iload (pc := 236) (i := 4) (x := j) hK dd_X12_copy_236 rfl ?_
                                  refine g_iadd (pc := 238) (z := (40 * sq) + j) hK dd_X12_copy_238 rfl ?_
                                  refine g_iload (pc := 239) (i := 6) (x := ki) hK dd_X12_copy_239 rfl ?_
                                  refine g_iadd (pc := 241) (z := ((40 * sq) + j) + ki) hK dd_X12_copy_241 rfl ?_
                                  refine g_aloadn (pc := 242) (i := 0) (x := 200) hK dd_X12_copy_242 rfl rfl ?_
                                  refine g_getv (pc := 243) (f := (1, 3)) (j := 2) (v := gR 203) hK (kdm kd_200) rfl ef_12 (by decide) rfl kk_1103 dd_X12_copy_243 rfl ?_
                                  refine g_bipush (pc := 246) (x := 40) hK dd_X12_copy_246 (by decide) ?_
                                  refine g_iloadn (pc := 248) (i := 1) (x := sp) hK dd_X12_copy_248 rfl rfl ?_
                                  refine g_imul (pc := 249) (z := 40 * sp) hK dd_X12_copy_249 rfl ?_
                                  refine g_iloadn (pc := 250) (i := 3) (x := i) hK dd_X12_copy_250 rfl rfl ?_
                                  refine g_iadd (pc := 251) (z := (40 * sp) + i) hK dd_X12_copy_251 rfl ?_
                                  refine g_iload (pc := 252) (i := 6) (x := ki) hK dd_X12_copy_252 rfl ?_
                                  refine g_iadd (pc := 254) (z := ((40 * sp) + i) + ki) hK dd_X12_copy_254 rfl ?_
                                  refine g_lald (pc := 255) hK (kdm kd_203) yl_203 (by decide) dd_X12_copy_255 (by omega) (by omega) (fun x338 ex338 rx338 => ?_)
                                  have ex_ := ex338
                                  refine g_last (pc := 256) hK (kdm kd_203) yl_203 (by decide) (by decide) dd_X12_copy_256 (by omega) (by omega) rx338 ?_
                                  refine g_iinc (pc := 257) (i := 6) (y := ki + 1) (L' := [(0, gR 200), (1, gI sp), (2, gI sq), (3, gI i), (4, gI j), (5, gI n), (6, gI (ki + 1))]) hK dd_X12_copy_257 rfl rfl (by decide) rfl ?_
                                  refine g_goto (pc := 260) (tgt := 221) hK dd_X12_copy_260 (by decide) ?_
                                  refine g_sub (L' := [(0, gR 200), (1, gI sp), (2, gI sq), (3, gI i), (4, gI j), (5, gI n), (6, gI (ki + 1))]) [0, 1, 2, 3, 4, 5, 6] rfl ?_
                                  refine g_mem (M2 := cp M 203 (M 203) (40 * sp + i).toNat (40 * sq + j).toNat (ki + 1).toNat) (by rw [tn1 (by omega), show (40 * sq + j + ki).toNat = (40 * sq + j).toNat + ki.toNat by omega]; refine cp_as (ex_.trans ?_); rw [cp_rd (by omega)]; congr 1; omega) ?_
                                  exact ih333 (ki + 1) (by omega) (by omega)
                            refine g_mem (M2 := cp M 203 (M 203) (40 * sp + i).toNat (40 * sq + j).toNat (0 : Int).toNat) (cp_0.symm) ?_
                            refine g_sub (L' := [(0, gR 200), (1, gI sp), (2, gI sq), (3, gI i), (4, gI j), (5, gI n), (6, gI 0)]) [0, 1, 2, 3, 4, 5, 6] rfl ?_
                            exact lp334 _ 0 (by omega) (Nat.lt_succ_self _)
                          · refine g_iloadn (pc := 163) (i := 3) (x := i) hK dd_X12_copy_163 rfl rfl ?_
                            refine g_iload (pc := 164) (i := 4) (x := j) hK dd_X12_copy_164 rfl ?_
                            refine g_icmp_ge (pc := 166) (tgt := 218) hK dd_X12_copy_166 (by decide) h_i h_j (fun c339 => ?_) (fun c339 => ?_)
                            · refine g_iconst (pc := 218) (x := 0) hK dd_X12_copy_218 (by decide) ?_
                              refine g_istore (pc := 219) (i := 6) (L' := [(0, gR 200), (1, gI sp), (2, gI sq), (3, gI i), (4, gI j), (5, gI n), (6, gI 0)]) hK dd_X12_copy_219 (by decide) rfl ?_
                              have lp342 : ∀ (n340 : Nat) (ki : Int), (0 ≤ ki ∧ ki ≤ n) → (n - ki).toNat < n340 → G p l e (rmD 2) s m args below meth c D cy q A 0 0 7 (MQ below (gQc D cy q A Pq) args s 0 0 A) 221 [(0, gR 200), (1, gI sp), (2, gI sq), (3, gI i), (4, gI j), (5, gI n), (6, gI ki)] [] (cp M 203 (M 203) (40 * sp + i).toNat (40 * sq + j).toNat ki.toNat) := by
                                intro n340
                                induction n340 with
                                | zero => intro ki iv343 hm344; exact absurd hm344 (Nat.not_lt_zero _)
                                | succ n340 ih341 =>
                                  intro ki iv343 hm344
                                  refine g_iload (pc := 221) (i := 6) (x := ki) hK dd_X12_copy_221 rfl ?_
                                  refine g_iload (pc := 223) (i := 5) (x := n) hK dd_X12_copy_223 rfl ?_
                                  refine g_icmp_ge (pc := 225) (tgt := 263) hK dd_X12_copy_225 (by decide) ⟨by omega, by omega⟩ h_n (fun c345 => ?_) (fun c345 => ?_)
                                  · refine g_iload (pc := 263) (i := 5) (x := n) hK dd_X12_copy_263 rfl ?_
                                    refine g_iret (pc := 265) hK hr hlocks dd_X12_copy_265 rfl ?_
                                    first | exact g_fin (hB (by first | omega | (subst_vars; omega) | exact ⟨by first | assumption | omega | (subst_vars; first | assumption | omega), by first | assumption | omega | (subst_vars; first | assumption | omega)⟩)) (by first | rfl | omega | (subst_vars; first | rfl | omega)) (by first | rfl | (subst_vars; rfl)) | exact g_fin (hO (by first | omega | (subst_vars; omega) | exact ⟨by first | assumption | omega | (subst_vars; first | assumption | omega), by first | assumption | omega | (subst_vars; first | assumption | omega)⟩)) (by first | rfl | omega | (subst_vars; first | rfl | omega)) (by first | rfl | (subst_vars; rfl)) | exact g_fin (hN (by first | omega | (subst_vars; omega) | exact ⟨by first | assumption | omega | (subst_vars; first | assumption | omega), by first | assumption | omega | (subst_vars; first | assumption | omega)⟩)) (by first | rfl | omega | (subst_vars; first | rfl | omega)) (by first | rfl | (subst_vars; rfl)) | exact g_fin (hP (by first | omega | (subst_vars; omega) | exact ⟨by first | assumption | omega | (subst_vars; first | assumption | omega), by first | assumption | omega | (subst_vars; first | assumption | omega)⟩)) (by first | rfl | omega | (subst_vars; first | rfl | omega)) (by first | rfl | (subst_vars; rfl)) | exact g_fin (hY (by first | omega | (subst_vars; omega) | exact ⟨by first | assumption | omega | (subst_vars; first | assumption | omega), by first | assumption | omega | (subst_vars; first | assumption | omega)⟩)) (by first | rfl | omega | (subst_vars; first | rfl | omega)) (by rw [show ki = n by omega]) | (exfalso; omega)
                                  · refine g_aloadn (pc := 228) (i := 0) (x := 200) hK dd_X12_copy_228 rfl rfl ?_
                                    refine g_getv (pc := 229) (f := (1, 3)) (j := 2) (v := gR 203) hK (kdm kd_200) rfl ef_12 (by decide) rfl kk_1103 dd_X12_copy_229 rfl ?_
                                    refine g_bipush (pc := 232) (x := 40) hK dd_X12_copy_232 (by decide) ?_
                                    refine g_iloadn (pc := 234) (i := 2) (x := sq) hK dd_X12_copy_234 rfl rfl ?_
                                    refine g_imul (pc := 235) (z := 40 * sq) hK dd_X12_copy_235 rfl ?_
                                    refine g_iload (pc := 236) (i := 4) (x := j) hK dd_X12_copy_236 rfl ?_
                                    refine g_iadd (pc := 238) (z := (40 * sq) + j) hK dd_X12_copy_238 rfl ?_
                                    refine g_iload (pc := 239) (i := 6) (x := ki) hK dd_X12_copy_239 rfl ?_
                                    refine g_iadd (pc := 241) (z := ((40 * sq) + j) + ki) hK dd_X12_copy_241 rfl ?_
                                    refine g_aloadn (pc := 242) (i := 0) (x := 200) hK dd_X12_copy_242 rfl rfl ?_
                                    refine g_getv (pc := 243) (f := (1, 3)) (j := 2) (v := gR 203) hK (kdm kd_200) rfl ef_12 (by decide) rfl kk_1103 dd_X12_copy_243 rfl ?_
                                    refine g_bipush (pc := 246) (x := 40) hK dd_X12_copy_246 (by decide) ?_
                                    refine g_iloadn (pc := 248) (i := 1) (x := sp) hK dd_X12_copy_248 rfl rfl ?_
                                    refine g_imul (pc := 249) (z := 40 * sp) hK dd_X12_copy_249 rfl ?_
                                    refine g_iloadn (pc := 250) (i := 3) (x := i) hK dd_X12_copy_250 rfl rfl ?_
                                    refine g_iadd (pc := 251) (z := (40 * sp) + i) hK dd_X12_copy_251 rfl ?_
                                    refine g_iload (pc := 252) (i := 6) (x := ki) hK dd_X12_copy_252 rfl ?_
                                    refine g_iadd (pc := 254) (z := ((40 * sp) + i) + ki) hK dd_X12_copy_254 rfl ?_
                                    refine g_lald (pc := 255) hK (kdm kd_203) yl_203 (by decide) dd_X12_copy_255 (by omega) (by omega) (fun x346 ex346 rx346 => ?_)
                                    have ex_ := ex346
                                    refine g_last (pc := 256) hK (kdm kd_203) yl_203 (by decide) (by decide) dd_X12_copy_256 (by omega) (by omega) rx346 ?_
                                    refine g_iinc (pc := 257) (i := 6) (y := ki + 1) (L' := [(0, gR 200), (1, gI sp), (2, gI sq), (3, gI i), (4, gI j), (5, gI n), (6, gI (ki + 1))]) hK dd_X12_copy_257 rfl rfl (by decide) rfl ?_
                                    refine g_goto (pc := 260) (tgt := 221) hK dd_X12_copy_260 (by decide) ?_
                                    refine g_sub (L' := [(0, gR 200), (1, gI sp), (2, gI sq), (3, gI i), (4, gI j), (5, gI n), (6, gI (ki + 1))]) [0, 1, 2, 3, 4, 5, 6] rfl ?_
                                    refine g_mem (M2 := cp M 203 (M 203) (40 * sp + i).toNat (40 * sq + j).toNat (ki + 1).toNat) (by rw [tn1 (by omega), show (40 * sq + j + ki).toNat = (40 * sq + j).toNat + ki.toNat by omega]; refine cp_as (ex_.trans ?_); rw [cp_rd (by omega)]; congr 1; omega) ?_
                                    exact ih341 (ki + 1) (by omega) (by omega)
                              refine g_mem (M2 := cp M 203 (M 203) (40 * sp + i).toNat (40 * sq + j).toNat (0 : Int).toNat) (cp_0.symm) ?_
                              refine g_sub (L' := [(0, gR 200), (1, gI sp), (2, gI sq), (3, gI i), (4, gI j), (5, gI n), (6, gI 0)]) [0, 1, 2, 3, 4, 5, 6] rfl ?_
                              exact lp342 _ 0 (by omega) (Nat.lt_succ_self _)
                            · refine g_iload (pc := 169) (i := 5) (x := n) hK dd_X12_copy_169 rfl ?_
                              refine g_iconst (pc := 171) (x := 1) hK dd_X12_copy_171 (by decide) ?_
                              refine g_isub (pc := 172) (z := n - 1) hK dd_X12_copy_172 rfl ?_
                              refine g_istore (pc := 173) (i := 6) (L' := [(0, gR 200), (1, gI sp), (2, gI sq), (3, gI i), (4, gI j), (5, gI n), (6, gI (n - 1))]) hK dd_X12_copy_173 (by decide) rfl ?_
                              have lp349 : ∀ (n347 : Nat) (kd : Int), (-1 ≤ kd ∧ kd < n) → (kd + 1).toNat < n347 → G p l e (rmD 2) s m args below meth c D cy q A 0 0 7 (MQ below (gQc D cy q A Pq) args s 0 0 A) 175 [(0, gR 200), (1, gI sp), (2, gI sq), (3, gI i), (4, gI j), (5, gI n), (6, gI kd)] [] (cp M 203 (M 203) (40 * sp + i + kd + 1).toNat (40 * sq + j + kd + 1).toNat (n - 1 - kd).toNat) := by
                                intro n347
                                induction n347 with
                                | zero => intro kd iv350 hm351; exact absurd hm351 (Nat.not_lt_zero _)
                                | succ n347 ih348 =>
                                  intro kd iv350 hm351
                                  refine g_iload (pc := 175) (i := 6) (x := kd) hK dd_X12_copy_175 rfl ?_
                                  refine g_if_lt (pc := 177) (tgt := 215) hK dd_X12_copy_177 (by decide) ⟨by omega, by omega⟩ (fun c352 => ?_) (fun c352 => ?_)
                                  · refine g_goto (pc := 215) (tgt := 263) hK dd_X12_copy_215 (by decide) ?_
                                    refine g_iload (pc := 263) (i := 5) (x := n) hK dd_X12_copy_263 rfl ?_
                                    refine g_iret (pc := 265) hK hr hlocks dd_X12_copy_265 rfl ?_
                                    first | exact g_fin (hB (by first | omega | (subst_vars; omega) | exact ⟨by first | assumption | omega | (subst_vars; first | assumption | omega), by first | assumption | omega | (subst_vars; first | assumption | omega)⟩)) (by first | rfl | omega | (subst_vars; first | rfl | omega)) (by first | rfl | (subst_vars; rfl)) | exact g_fin (hO (by first | omega | (subst_vars; omega) | exact ⟨by first | assumption | omega | (subst_vars; first | assumption | omega), by first | assumption | omega | (subst_vars; first | assumption | omega)⟩)) (by first | rfl | omega | (subst_vars; first | rfl | omega)) (by first | rfl | (subst_vars; rfl)) | exact g_fin (hN (by first | omega | (subst_vars; omega) | exact ⟨by first | assumption | omega | (subst_vars; first | assumption | omega), by first | assumption | omega | (subst_vars; first | assumption | omega)⟩)) (by first | rfl | omega | (subst_vars; first | rfl | omega)) (by first | rfl | (subst_vars; rfl)) | exact g_fin (hP (by first | omega | (subst_vars; omega) | exact ⟨by first | assumption | omega | (subst_vars; first | assumption | omega), by first | assumption | omega | (subst_vars; first | assumption | omega)⟩)) (by first | rfl | omega | (subst_vars; first | rfl | omega)) (by first | rfl | (subst_vars; rfl)) | exact g_fin (hY (by first | omega | (subst_vars; omega) | exact ⟨by first | assumption | omega | (subst_vars; first | assumption | omega), by first | assumption | omega | (subst_vars; first | assumption | omega)⟩)) (by first | rfl | omega | (subst_vars; first | rfl | omega)) (by rw [show kd = -1 by omega, show (40 * sp + i + -1 + 1).toNat = (40 * sp + i).toNat by omega, show (40 * sq + j + -1 + 1).toNat = (40 * sq + j).toNat by omega, show (n - 1 - -1).toNat = n.toNat by omega]) | (exfalso; omega)
                                  · refine g_aloadn (pc := 180) (i := 0) (x := 200) hK dd_X12_copy_180 rfl rfl ?_
                                    refine g_getv (pc := 181) (f := (1, 3)) (j := 2) (v := gR 203) hK (kdm kd_200) rfl ef_12 (by decide) rfl kk_1103 dd_X12_copy_181 rfl ?_
                                    refine g_bipush (pc := 184) (x := 40) hK dd_X12_copy_184 (by decide) ?_
                                    refine g_iloadn (pc := 186) (i := 2) (x := sq) hK dd_X12_copy_186 rfl rfl ?_
                                    refine g_imul (pc := 187) (z := 40 * sq) hK dd_X12_copy_187 rfl ?_
                                    refine g_iload (pc := 188) (i := 4) (x := j) hK dd_X12_copy_188 rfl ?_
                                    refine g_iadd (pc := 190) (z := (40 * sq) + j) hK dd_X12_copy_190 rfl ?_
                                    refine g_iload (pc := 191) (i := 6) (x := kd) hK dd_X12_copy_191 rfl ?_
                                    refine g_iadd (pc := 193) (z := ((40 * sq) + j) + kd) hK dd_X12_copy_193 rfl ?_
                                    refine g_aloadn (pc := 194) (i := 0) (x := 200) hK dd_X12_copy_194 rfl rfl ?_
                                    refine g_getv (pc := 195) (f := (1, 3)) (j := 2) (v := gR 203) hK (kdm kd_200) rfl ef_12 (by decide) rfl kk_1103 dd_X12_copy_195 rfl ?_
                                    refine g_bipush (pc := 198) (x := 40) hK dd_X12_copy_198 (by decide) ?_
                                    refine g_iloadn (pc := 200) (i := 1) (x := sp) hK dd_X12_copy_200 rfl rfl ?_
                                    refine g_imul (pc := 201) (z := 40 * sp) hK dd_X12_copy_201 rfl ?_
                                    refine g_iloadn (pc := 202) (i := 3) (x := i) hK dd_X12_copy_202 rfl rfl ?_
                                    refine g_iadd (pc := 203) (z := (40 * sp) + i) hK dd_X12_copy_203 rfl ?_
                                    refine g_iload (pc := 204) (i := 6) (x := kd) hK dd_X12_copy_204 rfl ?_
                                    refine g_iadd (pc := 206) (z := ((40 * sp) + i) + kd) hK dd_X12_copy_206 rfl ?_
                                    refine g_lald (pc := 207) hK (kdm kd_203) yl_203 (by decide) dd_X12_copy_207 (by omega) (by omega) (fun x353 ex353 rx353 => ?_)
                                    have ex_ := ex353
                                    refine g_last (pc := 208) hK (kdm kd_203) yl_203 (by decide) (by decide) dd_X12_copy_208 (by omega) (by omega) rx353 ?_
                                    refine g_iinc (pc := 209) (i := 6) (y := kd - 1) (L' := [(0, gR 200), (1, gI sp), (2, gI sq), (3, gI i), (4, gI j), (5, gI n), (6, gI (kd - 1))]) hK dd_X12_copy_209 rfl (by omega) (by decide) rfl ?_
                                    refine g_goto (pc := 212) (tgt := 175) hK dd_X12_copy_212 (by decide) ?_
                                    refine g_sub (L' := [(0, gR 200), (1, gI sp), (2, gI sq), (3, gI i), (4, gI j), (5, gI n), (6, gI (kd - 1))]) [0, 1, 2, 3, 4, 5, 6] rfl ?_
                                    refine g_mem (M2 := cp M 203 (M 203) (40 * sp + i + (kd - 1) + 1).toNat (40 * sq + j + (kd - 1) + 1).toNat (n - 1 - (kd - 1)).toNat) (by rw [show (40 * sp + i + kd + 1).toNat = (40 * sp + i + kd).toNat + 1 by omega, show (40 * sq + j + kd + 1).toNat = (40 * sq + j + kd).toNat + 1 by omega]; rw [show (40 * sp + i + (kd - 1) + 1).toNat = (40 * sp + i + kd).toNat by omega, show (40 * sq + j + (kd - 1) + 1).toNat = (40 * sq + j + kd).toNat by omega, show (n - 1 - (kd - 1)).toNat = (n - 1 - kd).toNat + 1 by omega]; refine cp_ds (ex_.trans ?_); rw [show (40 * sp + i + kd + 1).toNat = (40 * sp + i + kd).toNat + 1 by omega, show (40 * sq + j + kd + 1).toNat = (40 * sq + j + kd).toNat + 1 by omega, cp_rd (by omega)]) ?_
                                    exact ih348 (kd - 1) (by omega) (by omega)
                              refine g_mem (M2 := cp M 203 (M 203) (40 * sp + i + (n - 1) + 1).toNat (40 * sq + j + (n - 1) + 1).toNat (n - 1 - (n - 1)).toNat) (by rw [show (n - 1 - (n - 1)).toNat = 0 by omega]; exact cp_0.symm) ?_
                              refine g_sub (L' := [(0, gR 200), (1, gI sp), (2, gI sq), (3, gI i), (4, gI j), (5, gI n), (6, gI (n - 1))]) [0, 1, 2, 3, 4, 5, 6] rfl ?_
                              exact lp349 _ (n - 1) (by omega) (Nat.lt_succ_self _)
                        · refine g_lcmp (pc := 147) (z := 0) hK dd_X12_copy_147 ⟨by omega, by omega⟩ (inL_of rx326) (by rw [if_neg (by omega), if_pos c328]) ?_
                          refine g_if_le (pc := 148) (tgt := 158) hK dd_X12_copy_148 (by decide) (by decide) (fun _ => ?_) (fun c354 => absurd (by decide) c354)
                          refine g_iloadn (pc := 158) (i := 1) (x := sp) hK dd_X12_copy_158 rfl rfl ?_
                          refine g_iloadn (pc := 159) (i := 2) (x := sq) hK dd_X12_copy_159 rfl rfl ?_
                          refine g_icmp_ne (pc := 160) (tgt := 218) hK dd_X12_copy_160 (by decide) h_sp h_sq (fun c355 => ?_) (fun c355 => ?_)
                          · refine g_iconst (pc := 218) (x := 0) hK dd_X12_copy_218 (by decide) ?_
                            refine g_istore (pc := 219) (i := 6) (L' := [(0, gR 200), (1, gI sp), (2, gI sq), (3, gI i), (4, gI j), (5, gI n), (6, gI 0)]) hK dd_X12_copy_219 (by decide) rfl ?_
                            have lp358 : ∀ (n356 : Nat) (ki : Int), (0 ≤ ki ∧ ki ≤ n) → (n - ki).toNat < n356 → G p l e (rmD 2) s m args below meth c D cy q A 0 0 7 (MQ below (gQc D cy q A Pq) args s 0 0 A) 221 [(0, gR 200), (1, gI sp), (2, gI sq), (3, gI i), (4, gI j), (5, gI n), (6, gI ki)] [] (cp M 203 (M 203) (40 * sp + i).toNat (40 * sq + j).toNat ki.toNat) := by
                              intro n356
                              induction n356 with
                              | zero => intro ki iv359 hm360; exact absurd hm360 (Nat.not_lt_zero _)
                              | succ n356 ih357 =>
                                intro ki iv359 hm360
                                refine g_iload (pc := 221) (i := 6) (x := ki) hK dd_X12_copy_221 rfl ?_
                                refine g_iload (pc := 223) (i := 5) (x := n) hK dd_X12_copy_223 rfl ?_
                                refine g_icmp_ge (pc := 225) (tgt := 263) hK dd_X12_copy_225 (by decide) ⟨by omega, by omega⟩ h_n (fun c361 => ?_) (fun c361 => ?_)
                                · refine g_iload (pc := 263) (i := 5) (x := n) hK dd_X12_copy_263 rfl ?_
                                  refine g_iret (pc := 265) hK hr hlocks dd_X12_copy_265 rfl ?_
                                  first | exact g_fin (hB (by first | omega | (subst_vars; omega) | exact ⟨by first | assumption | omega | (subst_vars; first | assumption | omega), by first | assumption | omega | (subst_vars; first | assumption | omega)⟩)) (by first | rfl | omega | (subst_vars; first | rfl | omega)) (by first | rfl | (subst_vars; rfl)) | exact g_fin (hO (by first | omega | (subst_vars; omega) | exact ⟨by first | assumption | omega | (subst_vars; first | assumption | omega), by first | assumption | omega | (subst_vars; first | assumption | omega)⟩)) (by first | rfl | omega | (subst_vars; first | rfl | omega)) (by first | rfl | (subst_vars; rfl)) | exact g_fin (hN (by first | omega | (subst_vars; omega) | exact ⟨by first | assumption | omega | (subst_vars; first | assumption | omega), by first | assumption | omega | (subst_vars; first | assumption | omega)⟩)) (by first | rfl | omega | (subst_vars; first | rfl | omega)) (by first | rfl | (subst_vars; rfl)) | exact g_fin (hP (by first | omega | (subst_vars; omega) | exact ⟨by first | assumption | omega | (subst_vars; first | assumption | omega), by first | assumption | omega | (subst_vars; first | assumption | omega)⟩)) (by first | rfl | omega | (subst_vars; first | rfl | omega)) (by first | rfl | (subst_vars; rfl)) | exact g_fin (hY (by first | omega | (subst_vars; omega) | exact ⟨by first | assumption | omega | (subst_vars; first | assumption | omega), by first | assumption | omega | (subst_vars; first | assumption | omega)⟩)) (by first | rfl | omega | (subst_vars; first | rfl | omega)) (by rw [show ki = n by omega]) | (exfalso; omega)
                                · refine g_aloadn (pc := 228) (i := 0) (x := 200) hK dd_X12_copy_228 rfl rfl ?_
                                  refine g_getv (pc := 229) (f := (1, 3)) (j := 2) (v := gR 203) hK (kdm kd_200) rfl ef_12 (by decide) rfl kk_1103 dd_X12_copy_229 rfl ?_
                                  refine g_bipush (pc := 232) (x := 40) hK dd_X12_copy_232 (by decide) ?_
                                  refine g_iloadn (pc := 234) (i := 2) (x := sq) hK dd_X12_copy_234 rfl rfl ?_
                                  refine g_imul (pc := 235) (z := 40 * sq) hK dd_X12_copy_235 rfl ?_
                                  refine g_iload (pc := 236) (i := 4) (x := j) hK dd_X12_copy_236 rfl ?_
                                  refine g_iadd (pc := 238) (z := (40 * sq) + j) hK dd_X12_copy_238 rfl ?_
                                  refine g_iload (pc := 239) (i := 6) (x := ki) hK dd_X12_copy_239 rfl ?_
                                  refine g_iadd (pc := 241) (z := ((40 * sq) + j) + ki) hK dd_X12_copy_241 rfl ?_
                                  refine g_aloadn (pc := 242) (i := 0) (x := 200) hK dd_X12_copy_242 rfl rfl ?_
                                  refine g_getv (pc := 243) (f := (1, 3)) (j := 2) (v := gR 203) hK (kdm kd_200) rfl ef_12 (by decide) rfl kk_1103 dd_X12_copy_243 rfl ?_
                                  refine g_bipush (pc := 246) (x := 40) hK dd_X12_copy_246 (by decide) ?_
                                  refine g_iloadn (pc := 248) (i := 1) (x := sp) hK dd_X12_copy_248 rfl rfl ?_
                                  refine g_imul (pc := 249) (z := 40 * sp) hK dd_X12_copy_249 rfl ?_
                                  refine g_iloadn (pc := 250) (i := 3) (x := i) hK dd_X12_copy_250 rfl rfl ?_
                                  refine g_iadd (pc := 251) (z := (40 * sp) + i) hK dd_X12_copy_251 rfl ?_
                                  refine g_iload (pc := 252) (i := 6) (x := ki) hK dd_X12_copy_252 rfl ?_
                                  refine g_iadd (pc := 254) (z := ((40 * sp) + i) + ki) hK dd_X12_copy_254 rfl ?_
                                  refine g_lald (pc := 255) hK (kdm kd_203) yl_203 (by decide) dd_X12_copy_255 (by omega) (by omega) (fun x362 ex362 rx362 => ?_)
                                  have ex_ := ex362
                                  refine g_last (pc := 256) hK (kdm kd_203) yl_203 (by decide) (by decide) dd_X12_copy_256 (by omega) (by omega) rx362 ?_
                                  refine g_iinc (pc := 257) (i := 6) (y := ki + 1) (L' := [(0, gR 200), (1, gI sp), (2, gI sq), (3, gI i), (4, gI j), (5, gI n), (6, gI (ki + 1))]) hK dd_X12_copy_257 rfl rfl (by decide) rfl ?_
                                  refine g_goto (pc := 260) (tgt := 221) hK dd_X12_copy_260 (by decide) ?_
                                  refine g_sub (L' := [(0, gR 200), (1, gI sp), (2, gI sq), (3, gI i), (4, gI j), (5, gI n), (6, gI (ki + 1))]) [0, 1, 2, 3, 4, 5, 6] rfl ?_
                                  refine g_mem (M2 := cp M 203 (M 203) (40 * sp + i).toNat (40 * sq + j).toNat (ki + 1).toNat) (by rw [tn1 (by omega), show (40 * sq + j + ki).toNat = (40 * sq + j).toNat + ki.toNat by omega]; refine cp_as (ex_.trans ?_); rw [cp_rd (by omega)]; congr 1; omega) ?_
                                  exact ih357 (ki + 1) (by omega) (by omega)
                            refine g_mem (M2 := cp M 203 (M 203) (40 * sp + i).toNat (40 * sq + j).toNat (0 : Int).toNat) (cp_0.symm) ?_
                            refine g_sub (L' := [(0, gR 200), (1, gI sp), (2, gI sq), (3, gI i), (4, gI j), (5, gI n), (6, gI 0)]) [0, 1, 2, 3, 4, 5, 6] rfl ?_
                            exact lp358 _ 0 (by omega) (Nat.lt_succ_self _)
                          · refine g_iloadn (pc := 163) (i := 3) (x := i) hK dd_X12_copy_163 rfl rfl ?_
                            refine g_iload (pc := 164) (i := 4) (x := j) hK dd_X12_copy_164 rfl ?_
                            refine g_icmp_ge (pc := 166) (tgt := 218) hK dd_X12_copy_166 (by decide) h_i h_j (fun c363 => ?_) (fun c363 => ?_)
                            · refine g_iconst (pc := 218) (x := 0) hK dd_X12_copy_218 (by decide) ?_
                              refine g_istore (pc := 219) (i := 6) (L' := [(0, gR 200), (1, gI sp), (2, gI sq), (3, gI i), (4, gI j), (5, gI n), (6, gI 0)]) hK dd_X12_copy_219 (by decide) rfl ?_
                              have lp366 : ∀ (n364 : Nat) (ki : Int), (0 ≤ ki ∧ ki ≤ n) → (n - ki).toNat < n364 → G p l e (rmD 2) s m args below meth c D cy q A 0 0 7 (MQ below (gQc D cy q A Pq) args s 0 0 A) 221 [(0, gR 200), (1, gI sp), (2, gI sq), (3, gI i), (4, gI j), (5, gI n), (6, gI ki)] [] (cp M 203 (M 203) (40 * sp + i).toNat (40 * sq + j).toNat ki.toNat) := by
                                intro n364
                                induction n364 with
                                | zero => intro ki iv367 hm368; exact absurd hm368 (Nat.not_lt_zero _)
                                | succ n364 ih365 =>
                                  intro ki iv367 hm368
                                  refine g_iload (pc := 221) (i := 6) (x := ki) hK dd_X12_copy_221 rfl ?_
                                  refine g_iload (pc := 223) (i := 5) (x := n) hK dd_X12_copy_223 rfl ?_
                                  refine g_icmp_ge (pc := 225) (tgt := 263) hK dd_X12_copy_225 (by decide) ⟨by omega, by omega⟩ h_n (fun c369 => ?_) (fun c369 => ?_)
                                  · refine g_iload (pc := 263) (i := 5) (x := n) hK dd_X12_copy_263 rfl ?_
                                    refine g_iret (pc := 265) hK hr hlocks dd_X12_copy_265 rfl ?_
                                    first | exact g_fin (hB (by first | omega | (subst_vars; omega) | exact ⟨by first | assumption | omega | (subst_vars; first | assumption | omega), by first | assumption | omega | (subst_vars; first | assumption | omega)⟩)) (by first | rfl | omega | (subst_vars; first | rfl | omega)) (by first | rfl | (subst_vars; rfl)) | exact g_fin (hO (by first | omega | (subst_vars; omega) | exact ⟨by first | assumption | omega | (subst_vars; first | assumption | omega), by first | assumption | omega | (subst_vars; first | assumption | omega)⟩)) (by first | rfl | omega | (subst_vars; first | rfl | omega)) (by first | rfl | (subst_vars; rfl)) | exact g_fin (hN (by first | omega | (subst_vars; omega) | exact ⟨by first | assumption | omega | (subst_vars; first | assumption | omega), by first | assumption | omega | (subst_vars; first | assumption | omega)⟩)) (by first | rfl | omega | (subst_vars; first | rfl | omega)) (by first | rfl | (subst_vars; rfl)) | exact g_fin (hP (by first | omega | (subst_vars; omega) | exact ⟨by first | assumption | omega | (subst_vars; first | assumption | omega), by first | assumption | omega | (subst_vars; first | assumption | omega)⟩)) (by first | rfl | omega | (subst_vars; first | rfl | omega)) (by first | rfl | (subst_vars; rfl)) | exact g_fin (hY (by first | omega | (subst_vars; omega) | exact ⟨by first | assumption | omega | (subst_vars; first | assumption | omega), by first | assumption | omega | (subst_vars; first | assumption | omega)⟩)) (by first | rfl | omega | (subst_vars; first | rfl | omega)) (by rw [show ki = n by omega]) | (exfalso; omega)
                                  · refine g_aloadn (pc := 228) (i := 0) (x := 200) hK dd_X12_copy_228 rfl rfl ?_
                                    refine g_getv (pc := 229) (f := (1, 3)) (j := 2) (v := gR 203) hK (kdm kd_200) rfl ef_12 (by decide) rfl kk_1103 dd_X12_copy_229 rfl ?_
                                    refine g_bipush (pc := 232) (x := 40) hK dd_X12_copy_232 (by decide) ?_
                                    refine g_iloadn (pc := 234) (i := 2) (x := sq) hK dd_X12_copy_234 rfl rfl ?_
                                    refine g_imul (pc := 235) (z := 40 * sq) hK dd_X12_copy_235 rfl ?_
                                    refine g_iload (pc := 236) (i := 4) (x := j) hK dd_X12_copy_236 rfl ?_
                                    refine g_iadd (pc := 238) (z := (40 * sq) + j) hK dd_X12_copy_238 rfl ?_
                                    refine g_iload (pc := 239) (i := 6) (x := ki) hK dd_X12_copy_239 rfl ?_
                                    refine g_iadd (pc := 241) (z := ((40 * sq) + j) + ki) hK dd_X12_copy_241 rfl ?_
                                    refine g_aloadn (pc := 242) (i := 0) (x := 200) hK dd_X12_copy_242 rfl rfl ?_
                                    refine g_getv (pc := 243) (f := (1, 3)) (j := 2) (v := gR 203) hK (kdm kd_200) rfl ef_12 (by decide) rfl kk_1103 dd_X12_copy_243 rfl ?_
                                    refine g_bipush (pc := 246) (x := 40) hK dd_X12_copy_246 (by decide) ?_
                                    refine g_iloadn (pc := 248) (i := 1) (x := sp) hK dd_X12_copy_248 rfl rfl ?_
                                    refine g_imul (pc := 249) (z := 40 * sp) hK dd_X12_copy_249 rfl ?_
                                    refine g_iloadn (pc := 250) (i := 3) (x := i) hK dd_X12_copy_250 rfl rfl ?_
                                    refine g_iadd (pc := 251) (z := (40 * sp) + i) hK dd_X12_copy_251 rfl ?_
                                    refine g_iload (pc := 252) (i := 6) (x := ki) hK dd_X12_copy_252 rfl ?_
                                    refine g_iadd (pc := 254) (z := ((40 * sp) + i) + ki) hK dd_X12_copy_254 rfl ?_
                                    refine g_lald (pc := 255) hK (kdm kd_203) yl_203 (by decide) dd_X12_copy_255 (by omega) (by omega) (fun x370 ex370 rx370 => ?_)
                                    have ex_ := ex370
                                    refine g_last (pc := 256) hK (kdm kd_203) yl_203 (by decide) (by decide) dd_X12_copy_256 (by omega) (by omega) rx370 ?_
                                    refine g_iinc (pc := 257) (i := 6) (y := ki + 1) (L' := [(0, gR 200), (1, gI sp), (2, gI sq), (3, gI i), (4, gI j), (5, gI n), (6, gI (ki + 1))]) hK dd_X12_copy_257 rfl rfl (by decide) rfl ?_
                                    refine g_goto (pc := 260) (tgt := 221) hK dd_X12_copy_260 (by decide) ?_
                                    refine g_sub (L' := [(0, gR 200), (1, gI sp), (2, gI sq), (3, gI i), (4, gI j), (5, gI n), (6, gI (ki + 1))]) [0, 1, 2, 3, 4, 5, 6] rfl ?_
                                    refine g_mem (M2 := cp M 203 (M 203) (40 * sp + i).toNat (40 * sq + j).toNat (ki + 1).toNat) (by rw [tn1 (by omega), show (40 * sq + j + ki).toNat = (40 * sq + j).toNat + ki.toNat by omega]; refine cp_as (ex_.trans ?_); rw [cp_rd (by omega)]; congr 1; omega) ?_
                                    exact ih365 (ki + 1) (by omega) (by omega)
                              refine g_mem (M2 := cp M 203 (M 203) (40 * sp + i).toNat (40 * sq + j).toNat (0 : Int).toNat) (cp_0.symm) ?_
                              refine g_sub (L' := [(0, gR 200), (1, gI sp), (2, gI sq), (3, gI i), (4, gI j), (5, gI n), (6, gI 0)]) [0, 1, 2, 3, 4, 5, 6] rfl ?_
                              exact lp366 _ 0 (by omega) (Nat.lt_succ_self _)
                            · refine g_iload (pc := 169) (i := 5) (x := n) hK dd_X12_copy_169 rfl ?_
                              refine g_iconst (pc := 171) (x := 1) hK dd_X12_copy_171 (by decide) ?_
                              refine g_isub (pc := 172) (z := n - 1) hK dd_X12_copy_172 rfl ?_
                              refine g_istore (pc := 173) (i := 6) (L' := [(0, gR 200), (1, gI sp), (2, gI sq), (3, gI i), (4, gI j), (5, gI n), (6, gI (n - 1))]) hK dd_X12_copy_173 (by decide) rfl ?_
                              have lp373 : ∀ (n371 : Nat) (kd : Int), (-1 ≤ kd ∧ kd < n) → (kd + 1).toNat < n371 → G p l e (rmD 2) s m args below meth c D cy q A 0 0 7 (MQ below (gQc D cy q A Pq) args s 0 0 A) 175 [(0, gR 200), (1, gI sp), (2, gI sq), (3, gI i), (4, gI j), (5, gI n), (6, gI kd)] [] (cp M 203 (M 203) (40 * sp + i + kd + 1).toNat (40 * sq + j + kd + 1).toNat (n - 1 - kd).toNat) := by
                                intro n371
                                induction n371 with
                                | zero => intro kd iv374 hm375; exact absurd hm375 (Nat.not_lt_zero _)
                                | succ n371 ih372 =>
                                  intro kd iv374 hm375
                                  refine g_iload (pc := 175) (i := 6) (x := kd) hK dd_X12_copy_175 rfl ?_
                                  refine g_if_lt (pc := 177) (tgt := 215) hK dd_X12_copy_177 (by decide) ⟨by omega, by omega⟩ (fun c376 => ?_) (fun c376 => ?_)
                                  · refine g_goto (pc := 215) (tgt := 263) hK dd_X12_copy_215 (by decide) ?_
                                    refine g_iload (pc := 263) (i := 5) (x := n) hK dd_X12_copy_263 rfl ?_
                                    refine g_iret (pc := 265) hK hr hlocks dd_X12_copy_265 rfl ?_
                                    first | exact g_fin (hB (by first | omega | (subst_vars; omega) | exact ⟨by first | assumption | omega | (subst_vars; first | assumption | omega), by first | assumption | omega | (subst_vars; first | assumption | omega)⟩)) (by first | rfl | omega | (subst_vars; first | rfl | omega)) (by first | rfl | (subst_vars; rfl)) | exact g_fin (hO (by first | omega | (subst_vars; omega) | exact ⟨by first | assumption | omega | (subst_vars; first | assumption | omega), by first | assumption | omega | (subst_vars; first | assumption | omega)⟩)) (by first | rfl | omega | (subst_vars; first | rfl | omega)) (by first | rfl | (subst_vars; rfl)) | exact g_fin (hN (by first | omega | (subst_vars; omega) | exact ⟨by first | assumption | omega | (subst_vars; first | assumption | omega), by first | assumption | omega | (subst_vars; first | assumption | omega)⟩)) (by first | rfl | omega | (subst_vars; first | rfl | omega)) (by first | rfl | (subst_vars; rfl)) | exact g_fin (hP (by first | omega | (subst_vars; omega) | exact ⟨by first | assumption | omega | (subst_vars; first | assumption | omega), by first | assumption | omega | (subst_vars; first | assumption | omega)⟩)) (by first | rfl | omega | (subst_vars; first | rfl | omega)) (by first | rfl | (subst_vars; rfl)) | exact g_fin (hY (by first | omega | (subst_vars; omega) | exact ⟨by first | assumption | omega | (subst_vars; first | assumption | omega), by first | assumption | omega | (subst_vars; first | assumption | omega)⟩)) (by first | rfl | omega | (subst_vars; first | rfl | omega)) (by rw [show kd = -1 by omega, show (40 * sp + i + -1 + 1).toNat = (40 * sp + i).toNat by omega, show (40 * sq + j + -1 + 1).toNat = (40 * sq + j).toNat by omega, show (n - 1 - -1).toNat = n.toNat by omega]) | (exfalso; omega)
                                  · refine g_aloadn (pc := 180) (i := 0) (x := 200) hK dd_X12_copy_180 rfl rfl ?_
                                    refine g_getv (pc := 181) (f := (1, 3)) (j := 2) (v := gR 203) hK (kdm kd_200) rfl ef_12 (by decide) rfl kk_1103 dd_X12_copy_181 rfl ?_
                                    refine g_bipush (pc := 184) (x := 40) hK dd_X12_copy_184 (by decide) ?_
                                    refine g_iloadn (pc := 186) (i := 2) (x := sq) hK dd_X12_copy_186 rfl rfl ?_
                                    refine g_imul (pc := 187) (z := 40 * sq) hK dd_X12_copy_187 rfl ?_
                                    refine g_iload (pc := 188) (i := 4) (x := j) hK dd_X12_copy_188 rfl ?_
                                    refine g_iadd (pc := 190) (z := (40 * sq) + j) hK dd_X12_copy_190 rfl ?_
                                    refine g_iload (pc := 191) (i := 6) (x := kd) hK dd_X12_copy_191 rfl ?_
                                    refine g_iadd (pc := 193) (z := ((40 * sq) + j) + kd) hK dd_X12_copy_193 rfl ?_
                                    refine g_aloadn (pc := 194) (i := 0) (x := 200) hK dd_X12_copy_194 rfl rfl ?_
                                    refine g_getv (pc := 195) (f := (1, 3)) (j := 2) (v := gR 203) hK (kdm kd_200) rfl ef_12 (by decide) rfl kk_1103 dd_X12_copy_195 rfl ?_
                                    refine g_bipush (pc := 198) (x := 40) hK dd_X12_copy_198 (by decide) ?_
                                    refine g_iloadn (pc := 200) (i := 1) (x := sp) hK dd_X12_copy_200 rfl rfl ?_
                                    refine g_imul (pc := 201) (z := 40 * sp) hK dd_X12_copy_201 rfl ?_
                                    refine g_iloadn (pc := 202) (i := 3) (x := i) hK dd_X12_copy_202 rfl rfl ?_
                                    refine g_iadd (pc := 203) (z := (40 * sp) + i) hK dd_X12_copy_203 rfl ?_
                                    refine g_iload (pc := 204) (i := 6) (x := kd) hK dd_X12_copy_204 rfl ?_
                                    refine g_iadd (pc := 206) (z := ((40 * sp) + i) + kd) hK dd_X12_copy_206 rfl ?_
                                    refine g_lald (pc := 207) hK (kdm kd_203) yl_203 (by decide) dd_X12_copy_207 (by omega) (by omega) (fun x377 ex377 rx377 => ?_)
                                    have ex_ := ex377
                                    refine g_last (pc := 208) hK (kdm kd_203) yl_203 (by decide) (by decide) dd_X12_copy_208 (by omega) (by omega) rx377 ?_
                                    refine g_iinc (pc := 209) (i := 6) (y := kd - 1) (L' := [(0, gR 200), (1, gI sp), (2, gI sq), (3, gI i), (4, gI j), (5, gI n), (6, gI (kd - 1))]) hK dd_X12_copy_209 rfl (by omega) (by decide) rfl ?_
                                    refine g_goto (pc := 212) (tgt := 175) hK dd_X12_copy_212 (by decide) ?_
                                    refine g_sub (L' := [(0, gR 200), (1, gI sp), (2, gI sq), (3, gI i), (4, gI j), (5, gI n), (6, gI (kd - 1))]) [0, 1, 2, 3, 4, 5, 6] rfl ?_
                                    refine g_mem (M2 := cp M 203 (M 203) (40 * sp + i + (kd - 1) + 1).toNat (40 * sq + j + (kd - 1) + 1).toNat (n - 1 - (kd - 1)).toNat) (by rw [show (40 * sp + i + kd + 1).toNat = (40 * sp + i + kd).toNat + 1 by omega, show (40 * sq + j + kd + 1).toNat = (40 * sq + j + kd).toNat + 1 by omega]; rw [show (40 * sp + i + (kd - 1) + 1).toNat = (40 * sp + i + kd).toNat by omega, show (40 * sq + j + (kd - 1) + 1).toNat = (40 * sq + j + kd).toNat by omega, show (n - 1 - (kd - 1)).toNat = (n - 1 - kd).toNat + 1 by omega]; refine cp_ds (ex_.trans ?_); rw [show (40 * sp + i + kd + 1).toNat = (40 * sp + i + kd).toNat + 1 by omega, show (40 * sq + j + kd + 1).toNat = (40 * sq + j + kd).toNat + 1 by omega, cp_rd (by omega)]) ?_
                                    exact ih372 (kd - 1) (by omega) (by omega)
                              refine g_mem (M2 := cp M 203 (M 203) (40 * sp + i + (n - 1) + 1).toNat (40 * sq + j + (n - 1) + 1).toNat (n - 1 - (n - 1)).toNat) (by rw [show (n - 1 - (n - 1)).toNat = 0 by omega]; exact cp_0.symm) ?_
                              refine g_sub (L' := [(0, gR 200), (1, gI sp), (2, gI sq), (3, gI i), (4, gI j), (5, gI n), (6, gI (n - 1))]) [0, 1, 2, 3, 4, 5, 6] rfl ?_
                              exact lp373 _ (n - 1) (by omega) (Nat.lt_succ_self _)
                        · refine g_lcmp (pc := 147) (z := 1) hK dd_X12_copy_147 ⟨by omega, by omega⟩ (inL_of rx326) (by rw [if_pos (by omega)]) ?_
                          refine g_if_le (pc := 148) (tgt := 158) hK dd_X12_copy_148 (by decide) (by decide) (fun c378 => absurd c378 (by decide)) (fun _ => ?_)
                          refine g_aloadn (pc := 151) (i := 0) (x := 200) hK dd_X12_copy_151 rfl rfl ?_
                          refine g_bipush (pc := 152) (x := (-2)) hK dd_X12_copy_152 (by decide) ?_
                          refine g_callV (pc := 154) (As := [gI (-2)]) hK ws_M_152 md_X12_no ⟨Nat.zero_le _, Nat.zero_le _⟩ ⟨by decide, by decide⟩ (kdm kd_200) rfl rfl dd_X12_copy_154 rfl rfl (Nat.le_of_ble_eq_true rfl) (d_no_2 hrg (g_r1 ?_))
                          refine g_iret (pc := 157) hK hr hlocks dd_X12_copy_157 rfl ?_
                          first | exact g_fin (hB (by first | omega | (subst_vars; omega) | exact ⟨by first | assumption | omega | (subst_vars; first | assumption | omega), by first | assumption | omega | (subst_vars; first | assumption | omega)⟩)) (by first | rfl | omega | (subst_vars; first | rfl | omega)) (by first | rfl | (subst_vars; rfl)) | exact g_fin (hP (by first | omega | (subst_vars; omega) | exact ⟨by first | assumption | omega | (subst_vars; first | assumption | omega), by first | assumption | omega | (subst_vars; first | assumption | omega)⟩)) (by first | rfl | omega | (subst_vars; first | rfl | omega)) (by first | rfl | (subst_vars; rfl)) | exact g_fin (hY (by first | omega | (subst_vars; omega) | exact ⟨by first | assumption | omega | (subst_vars; first | assumption | omega), by first | assumption | omega | (subst_vars; first | assumption | omega)⟩)) (by first | rfl | omega | (subst_vars; first | rfl | omega)) (by rw [show ki = n by omega]) | (exfalso; omega)
                      · refine g_lcmp (pc := 129) (z := 1) hK dd_X12_copy_129 ⟨by omega, by omega⟩ (inL_of rx267) (by rw [if_pos (by omega)]) ?_
                        refine g_if_gt (pc := 130) (tgt := 151) hK dd_X12_copy_130 (by decide) (by decide) (fun _ => ?_) (fun c379 => absurd (by decide) c379)
                        refine g_aloadn (pc := 151) (i := 0) (x := 200) hK dd_X12_copy_151 rfl rfl ?_
                        refine g_bipush (pc := 152) (x := (-2)) hK dd_X12_copy_152 (by decide) ?_
                        refine g_callV (pc := 154) (As := [gI (-2)]) hK ws_M_152 md_X12_no ⟨Nat.zero_le _, Nat.zero_le _⟩ ⟨by decide, by decide⟩ (kdm kd_200) rfl rfl dd_X12_copy_154 rfl rfl (Nat.le_of_ble_eq_true rfl) (d_no_2 hrg (g_r1 ?_))
                        refine g_iret (pc := 157) hK hr hlocks dd_X12_copy_157 rfl ?_
                        first | exact g_fin (hB (by first | omega | (subst_vars; omega) | exact ⟨by first | assumption | omega | (subst_vars; first | assumption | omega), by first | assumption | omega | (subst_vars; first | assumption | omega)⟩)) (by first | rfl | omega | (subst_vars; first | rfl | omega)) (by first | rfl | (subst_vars; rfl)) | exact g_fin (hP (by first | omega | (subst_vars; omega) | exact ⟨by first | assumption | omega | (subst_vars; first | assumption | omega), by first | assumption | omega | (subst_vars; first | assumption | omega)⟩)) (by first | rfl | omega | (subst_vars; first | rfl | omega)) (by first | rfl | (subst_vars; rfl)) | exact g_fin (hY (by first | omega | (subst_vars; omega) | exact ⟨by first | assumption | omega | (subst_vars; first | assumption | omega), by first | assumption | omega | (subst_vars; first | assumption | omega)⟩)) (by first | rfl | omega | (subst_vars; first | rfl | omega)) (by rw [show ki = n by omega]) | (exfalso; omega)
              · refine g_aloadn (pc := 95) (i := 0) (x := 200) hK dd_X12_copy_95 rfl rfl ?_
                refine g_bipush (pc := 96) (x := (-4)) hK dd_X12_copy_96 (by decide) ?_
                refine g_callV (pc := 98) (As := [gI (-4)]) hK ws_M_152 md_X12_no ⟨Nat.zero_le _, Nat.zero_le _⟩ ⟨by decide, by decide⟩ (kdm kd_200) rfl rfl dd_X12_copy_98 rfl rfl (Nat.le_of_ble_eq_true rfl) (d_no_4 hrg (g_r1 ?_))
                refine g_iret (pc := 101) hK hr hlocks dd_X12_copy_101 rfl ?_
                first | exact g_fin (hN (by first | omega | (subst_vars; omega) | exact ⟨by first | assumption | omega | (subst_vars; first | assumption | omega), by first | assumption | omega | (subst_vars; first | assumption | omega)⟩)) (by first | rfl | omega | (subst_vars; first | rfl | omega)) (by first | rfl | (subst_vars; rfl)) | exact g_fin (hY (by first | omega | (subst_vars; omega) | exact ⟨by first | assumption | omega | (subst_vars; first | assumption | omega), by first | assumption | omega | (subst_vars; first | assumption | omega)⟩)) (by first | rfl | omega | (subst_vars; first | rfl | omega)) (by rw [show ki = n by omega]) | (exfalso; omega)
    · refine g_if_ne (pc := 13) (tgt := 23) hK dd_X12_copy_13 (by decide) (by decide) (fun c380 => absurd c380 (by decide)) (fun _ => ?_)
      refine g_aloadn (pc := 16) (i := 0) (x := 200) hK dd_X12_copy_16 rfl rfl ?_
      refine g_bipush (pc := 17) (x := (-2)) hK dd_X12_copy_17 (by decide) ?_
      refine g_callV (pc := 19) (As := [gI (-2)]) hK ws_M_152 md_X12_no ⟨Nat.zero_le _, Nat.zero_le _⟩ ⟨by decide, by decide⟩ (kdm kd_200) rfl rfl dd_X12_copy_19 rfl rfl (Nat.le_of_ble_eq_true rfl) (d_no_2 hrg (g_r1 ?_))
      refine g_iret (pc := 22) hK hr hlocks dd_X12_copy_22 rfl ?_
      first | exact g_fin (hB (by first | omega | (subst_vars; omega) | exact ⟨by first | assumption | omega | (subst_vars; first | assumption | omega), by first | assumption | omega | (subst_vars; first | assumption | omega)⟩)) (by first | rfl | omega | (subst_vars; first | rfl | omega)) (by first | rfl | (subst_vars; rfl)) | exact g_fin (hP (by first | omega | (subst_vars; omega) | exact ⟨by first | assumption | omega | (subst_vars; first | assumption | omega), by first | assumption | omega | (subst_vars; first | assumption | omega)⟩)) (by first | rfl | omega | (subst_vars; first | rfl | omega)) (by first | rfl | (subst_vars; rfl)) | exact g_fin (hY (by first | omega | (subst_vars; omega) | exact ⟨by first | assumption | omega | (subst_vars; first | assumption | omega), by first | assumption | omega | (subst_vars; first | assumption | omega)⟩)) (by first | rfl | omega | (subst_vars; first | rfl | omega)) (by rw [show ki = n by omega]) | (exfalso; omega)
  · refine g_if_eq (pc := 5) (tgt := 16) hK dd_X12_copy_5 (by decide) (by decide) (fun _ => ?_) (fun c381 => absurd (by decide) c381)
    refine g_aloadn (pc := 16) (i := 0) (x := 200) hK dd_X12_copy_16 rfl rfl ?_
    refine g_bipush (pc := 17) (x := (-2)) hK dd_X12_copy_17 (by decide) ?_
    refine g_callV (pc := 19) (As := [gI (-2)]) hK ws_M_152 md_X12_no ⟨Nat.zero_le _, Nat.zero_le _⟩ ⟨by decide, by decide⟩ (kdm kd_200) rfl rfl dd_X12_copy_19 rfl rfl (Nat.le_of_ble_eq_true rfl) (d_no_2 hrg (g_r1 ?_))
    refine g_iret (pc := 22) hK hr hlocks dd_X12_copy_22 rfl ?_
    first | exact g_fin (hB (by first | omega | (subst_vars; omega) | exact ⟨by first | assumption | omega | (subst_vars; first | assumption | omega), by first | assumption | omega | (subst_vars; first | assumption | omega)⟩)) (by first | rfl | omega | (subst_vars; first | rfl | omega)) (by first | rfl | (subst_vars; rfl)) | exact g_fin (hP (by first | omega | (subst_vars; omega) | exact ⟨by first | assumption | omega | (subst_vars; first | assumption | omega), by first | assumption | omega | (subst_vars; first | assumption | omega)⟩)) (by first | rfl | omega | (subst_vars; first | rfl | omega)) (by first | rfl | (subst_vars; rfl)) | exact g_fin (hY (by first | omega | (subst_vars; omega) | exact ⟨by first | assumption | omega | (subst_vars; first | assumption | omega), by first | assumption | omega | (subst_vars; first | assumption | omega)⟩)) (by first | rfl | omega | (subst_vars; first | rfl | omega)) (by rw [show ki = n by omega]) | (exfalso; omega)
