set_option maxHeartbeats 4000000 in
set_option maxRecDepth 100000 in
theorem c_within {l : Launch} {M : Mem} {Pq : Option gV → Mem → Prop} (v : Int) (lo : Int) (hi : Int) (h1 : inI v) (h2 : inI lo) (h3 : inI hi) (hT : (lo ≤ v ∧ v ≤ hi) → Pq (some (gI 1)) M) (hF : ¬ (lo ≤ v ∧ v ≤ hi) → Pq (some (gI 0)) M) : gCtr l my_X11_within mb_X11_within 3 ((some .boolean)) 1 [gI v, gI lo, gI hi] M Pq := by
  refine g_intro (by decide) (Nat.le_of_ble_eq_true rfl) ?_
  intro p e s m args below meth c D cy q A hK hr hlocks hw
  refine g_sub (L' := [(0, gI v), (1, gI lo), (2, gI hi)]) [0, 1, 2] rfl ?_
  refine g_iloadn (pc := 0) (i := 0) (x := v) hK dd_X11_within_0 rfl rfl ?_
  refine g_iloadn (pc := 1) (i := 1) (x := lo) hK dd_X11_within_1 rfl rfl ?_
  refine g_icmp_lt (pc := 2) (tgt := 14) hK dd_X11_within_2 (by decide) h1 h2 (fun c1 => ?_) (fun c1 => ?_)
  · refine g_iconst (pc := 14) (x := 0) hK dd_X11_within_14 (by decide) ?_
    refine g_iret (pc := 15) hK hr hlocks dd_X11_within_15 rfl ?_
    exact g_finM (hF (by omega)) (rfl)
  · refine g_iloadn (pc := 5) (i := 0) (x := v) hK dd_X11_within_5 rfl rfl ?_
    refine g_iloadn (pc := 6) (i := 2) (x := hi) hK dd_X11_within_6 rfl rfl ?_
    refine g_icmp_gt (pc := 7) (tgt := 14) hK dd_X11_within_7 (by decide) h1 h3 (fun c2 => ?_) (fun c2 => ?_)
    · refine g_iconst (pc := 14) (x := 0) hK dd_X11_within_14 (by decide) ?_
      refine g_iret (pc := 15) hK hr hlocks dd_X11_within_15 rfl ?_
      exact g_finM (hF (by omega)) (rfl)
    · refine g_iconst (pc := 10) (x := 1) hK dd_X11_within_10 (by decide) ?_
      refine g_goto (pc := 11) (tgt := 15) hK dd_X11_within_11 (by decide) ?_
      refine g_iret (pc := 15) hK hr hlocks dd_X11_within_15 rfl ?_
      exact g_finM (hT (by omega)) (rfl)
set_option maxHeartbeats 4000000 in
set_option maxRecDepth 100000 in
theorem c_isShelf {l : Launch} {M : Mem} {Pq : Option gV → Mem → Prop} (x : Int) (h1 : inI x) (hT : (0 ≤ x ∧ x ≤ 7) → Pq (some (gI 1)) M) (hF : ¬ (0 ≤ x ∧ x ≤ 7) → Pq (some (gI 0)) M) : gCtr l my_X11_isShelf mb_X11_isShelf 1 ((some .boolean)) 2 [gI x] M Pq := by
  refine g_intro (by decide) (Nat.le_of_ble_eq_true rfl) ?_
  intro p e s m args below meth c D cy q A hK hr hlocks hw
  refine g_sub (L' := [(0, gI x)]) [0] rfl ?_
  refine g_iloadn (pc := 0) (i := 0) (x := x) hK dd_X11_isShelf_0 rfl rfl ?_
  refine g_iconst (pc := 1) (x := 0) hK dd_X11_isShelf_1 (by decide) ?_
  refine g_bipush (pc := 2) (x := 7) hK dd_X11_isShelf_2 (by decide) ?_
  refine g_callT (pc := 4) (As := [gI x, gI 0, gI 7]) hK ws_X_59 md_X11_within ⟨Nat.zero_le _, Nat.zero_le _⟩ ⟨by decide, by decide⟩ dd_X11_isShelf_4 rfl rfl (Nat.le_of_ble_eq_true rfl) (c_within x 0 7 h1 (by decide) (by decide) (fun c1 => g_r1 ?_) (fun c1 => g_r1 ?_))
  · refine g_iret (pc := 7) hK hr hlocks dd_X11_isShelf_7 rfl ?_
    exact g_finM (hT (by omega)) (rfl)
  · refine g_iret (pc := 7) hK hr hlocks dd_X11_isShelf_7 rfl ?_
    exact g_finM (hF (by omega)) (rfl)
set_option maxHeartbeats 4000000 in
set_option maxRecDepth 100000 in
theorem c_isKind {l : Launch} {M : Mem} {Pq : Option gV → Mem → Prop} (x : Int) (h1 : inI x) (hT : (0 ≤ x ∧ x ≤ 5) → Pq (some (gI 1)) M) (hF : ¬ (0 ≤ x ∧ x ≤ 5) → Pq (some (gI 0)) M) : gCtr l my_X11_isKind mb_X11_isKind 1 ((some .boolean)) 2 [gI x] M Pq := by
  refine g_intro (by decide) (Nat.le_of_ble_eq_true rfl) ?_
  intro p e s m args below meth c D cy q A hK hr hlocks hw
  refine g_sub (L' := [(0, gI x)]) [0] rfl ?_
  refine g_iloadn (pc := 0) (i := 0) (x := x) hK dd_X11_isKind_0 rfl rfl ?_
  refine g_iconst (pc := 1) (x := 0) hK dd_X11_isKind_1 (by decide) ?_
  refine g_iconst (pc := 2) (x := 5) hK dd_X11_isKind_2 (by decide) ?_
  refine g_callT (pc := 3) (As := [gI x, gI 0, gI 5]) hK ws_X_59 md_X11_within ⟨Nat.zero_le _, Nat.zero_le _⟩ ⟨by decide, by decide⟩ dd_X11_isKind_3 rfl rfl (Nat.le_of_ble_eq_true rfl) (c_within x 0 5 h1 (by decide) (by decide) (fun c1 => g_r1 ?_) (fun c1 => g_r1 ?_))
  · refine g_iret (pc := 6) hK hr hlocks dd_X11_isKind_6 rfl ?_
    exact g_finM (hT (by omega)) (rfl)
  · refine g_iret (pc := 6) hK hr hlocks dd_X11_isKind_6 rfl ?_
    exact g_finM (hF (by omega)) (rfl)
set_option maxHeartbeats 4000000 in
set_option maxRecDepth 100000 in
theorem c_isKinds {l : Launch} {M : Mem} {Pq : Option gV → Mem → Prop} (x : Int) (h1 : inI x) (hT : (0 ≤ x ∧ x ≤ 63) → Pq (some (gI 1)) M) (hF : ¬ (0 ≤ x ∧ x ≤ 63) → Pq (some (gI 0)) M) : gCtr l my_X11_isKinds mb_X11_isKinds 1 ((some .boolean)) 2 [gI x] M Pq := by
  refine g_intro (by decide) (Nat.le_of_ble_eq_true rfl) ?_
  intro p e s m args below meth c D cy q A hK hr hlocks hw
  refine g_sub (L' := [(0, gI x)]) [0] rfl ?_
  refine g_iloadn (pc := 0) (i := 0) (x := x) hK dd_X11_isKinds_0 rfl rfl ?_
  refine g_iconst (pc := 1) (x := 0) hK dd_X11_isKinds_1 (by decide) ?_
  refine g_bipush (pc := 2) (x := 63) hK dd_X11_isKinds_2 (by decide) ?_
  refine g_callT (pc := 4) (As := [gI x, gI 0, gI 63]) hK ws_X_59 md_X11_within ⟨Nat.zero_le _, Nat.zero_le _⟩ ⟨by decide, by decide⟩ dd_X11_isKinds_4 rfl rfl (Nat.le_of_ble_eq_true rfl) (c_within x 0 63 h1 (by decide) (by decide) (fun c1 => g_r1 ?_) (fun c1 => g_r1 ?_))
  · refine g_iret (pc := 7) hK hr hlocks dd_X11_isKinds_7 rfl ?_
    exact g_finM (hT (by omega)) (rfl)
  · refine g_iret (pc := 7) hK hr hlocks dd_X11_isKinds_7 rfl ?_
    exact g_finM (hF (by omega)) (rfl)
set_option maxHeartbeats 4000000 in
set_option maxRecDepth 100000 in
theorem c_isHour {l : Launch} {M : Mem} {Pq : Option gV → Mem → Prop} (x : Int) (h1 : inI x) (hT : (0 ≤ x ∧ x ≤ 11) → Pq (some (gI 1)) M) (hF : ¬ (0 ≤ x ∧ x ≤ 11) → Pq (some (gI 0)) M) : gCtr l my_X11_isHour mb_X11_isHour 1 ((some .boolean)) 2 [gI x] M Pq := by
  refine g_intro (by decide) (Nat.le_of_ble_eq_true rfl) ?_
  intro p e s m args below meth c D cy q A hK hr hlocks hw
  refine g_sub (L' := [(0, gI x)]) [0] rfl ?_
  refine g_iloadn (pc := 0) (i := 0) (x := x) hK dd_X11_isHour_0 rfl rfl ?_
  refine g_iconst (pc := 1) (x := 0) hK dd_X11_isHour_1 (by decide) ?_
  refine g_bipush (pc := 2) (x := 11) hK dd_X11_isHour_2 (by decide) ?_
  refine g_callT (pc := 4) (As := [gI x, gI 0, gI 11]) hK ws_X_59 md_X11_within ⟨Nat.zero_le _, Nat.zero_le _⟩ ⟨by decide, by decide⟩ dd_X11_isHour_4 rfl rfl (Nat.le_of_ble_eq_true rfl) (c_within x 0 11 h1 (by decide) (by decide) (fun c1 => g_r1 ?_) (fun c1 => g_r1 ?_))
  · refine g_iret (pc := 7) hK hr hlocks dd_X11_isHour_7 rfl ?_
    exact g_finM (hT (by omega)) (rfl)
  · refine g_iret (pc := 7) hK hr hlocks dd_X11_isHour_7 rfl ?_
    exact g_finM (hF (by omega)) (rfl)
set_option maxHeartbeats 4000000 in
set_option maxRecDepth 100000 in
theorem c_isPerson {l : Launch} {M : Mem} {Pq : Option gV → Mem → Prop} (x : Int) (h1 : inI x) (hT : (0 ≤ x ∧ x ≤ 15) → Pq (some (gI 1)) M) (hF : ¬ (0 ≤ x ∧ x ≤ 15) → Pq (some (gI 0)) M) : gCtr l my_X11_isPerson mb_X11_isPerson 1 ((some .boolean)) 2 [gI x] M Pq := by
  refine g_intro (by decide) (Nat.le_of_ble_eq_true rfl) ?_
  intro p e s m args below meth c D cy q A hK hr hlocks hw
  refine g_sub (L' := [(0, gI x)]) [0] rfl ?_
  refine g_iloadn (pc := 0) (i := 0) (x := x) hK dd_X11_isPerson_0 rfl rfl ?_
  refine g_iconst (pc := 1) (x := 0) hK dd_X11_isPerson_1 (by decide) ?_
  refine g_bipush (pc := 2) (x := 15) hK dd_X11_isPerson_2 (by decide) ?_
  refine g_callT (pc := 4) (As := [gI x, gI 0, gI 15]) hK ws_X_59 md_X11_within ⟨Nat.zero_le _, Nat.zero_le _⟩ ⟨by decide, by decide⟩ dd_X11_isPerson_4 rfl rfl (Nat.le_of_ble_eq_true rfl) (c_within x 0 15 h1 (by decide) (by decide) (fun c1 => g_r1 ?_) (fun c1 => g_r1 ?_))
  · refine g_iret (pc := 7) hK hr hlocks dd_X11_isPerson_7 rfl ?_
    exact g_finM (hT (by omega)) (rfl)
  · refine g_iret (pc := 7) hK hr hlocks dd_X11_isPerson_7 rfl ?_
    exact g_finM (hF (by omega)) (rfl)
set_option maxHeartbeats 4000000 in
set_option maxRecDepth 100000 in
theorem c_has10 {l : Launch} {M : Mem} {Pq : Option gV → Mem → Prop} (t : Int) (h1 : inI t) (h2 : 0 ≤ M 6 6 ∧ M 6 6 ≤ 30) (hT : (0 ≤ t ∧ t < M 6 6) → Pq (some (gI 1)) M) (hF : ¬ (0 ≤ t ∧ t < M 6 6) → Pq (some (gI 0)) M) : gCtr l my_X10_has mb_X10_has 2 ((some .boolean)) 2 [gR 6, gI t] M Pq := by
  refine g_intro (by decide) (Nat.le_of_ble_eq_true rfl) ?_
  intro p e s m args below meth c D cy q A hK hr hlocks hw
  refine g_sub (L' := [(0, gR 6), (1, gI t)]) [0, 1] rfl ?_
  refine g_iloadn (pc := 0) (i := 1) (x := t) hK dd_X10_has_0 rfl rfl ?_
  refine g_iconst (pc := 1) (x := 0) hK dd_X10_has_1 (by decide) ?_
  refine g_aloadn (pc := 2) (i := 0) (x := 6) hK dd_X10_has_2 rfl rfl ?_
  refine g_geti (pc := 3) (f := (0, 0)) (j := 6) hK (kdm kd_6) rfl ef_10 (by decide) rfl kk_86 nl_6 dd_X10_has_3 rfl (fun x1 ex1 rx1 => ?_)
  refine g_iconst (pc := 6) (x := 1) hK dd_X10_has_6 (by decide) ?_
  refine g_isub (pc := 7) (z := x1 - 1) hK dd_X10_has_7 rfl ?_
  refine g_callTN (pc := 8) (As := [gI t, gI 0, gI (x1 - 1)]) hK ws_Things_37 md_X11_within ⟨Nat.zero_le _, Nat.zero_le _⟩ ⟨by decide, by decide⟩ dd_X10_has_8 rfl rfl (Nat.le_of_ble_eq_true rfl) (c_within t 0 (x1 - 1) h1 (by decide) ⟨by omega, by omega⟩ (fun c2 => g_r1 ?_) (fun c2 => g_r1 ?_))
  · refine g_iret (pc := 11) hK hr hlocks dd_X10_has_11 rfl ?_
    exact g_finM (hT (by omega)) (rfl)
  · refine g_iret (pc := 11) hK hr hlocks dd_X10_has_11 rfl ?_
    exact g_finM (hF (by omega)) (rfl)
