set_option maxHeartbeats 4000000 in
set_option maxRecDepth 100000 in
theorem law_case_12 {p : Program} {e : Env} {s : State} {m : MethodId} {below : List Frame} {meth : Method} {c : Code} (l : Launch) (D : va_G) (cy : Nat → ClassId) (q t : Nat → Nat) (A : Nat → Prop) (hAe : ∀ w, A w → s.heap.size ≤ w) (hA : ∀ w, s.heap.size ≤ w → A w) {b : Nat} {xs : Nat → Int32} (Sx : CallFix p m c code 4 s #[Value.ref b] BW "WhiteElephantsLaw") (hr : meth.sig.returnType = ret) (hlocks : meth.locks = false) (hK : va_K D cls (TY cy) s) (hX : LX A s) (hSc : va_X b 6 xs s s.heap) (hbl : b < s.heap.size) {H : Heap} {locs : List Loc} {ls : Array Slot} (hl : lv_has ls 4 [(3, .int 0), (2, .ref (t 60)), (1, .ref (q 0)), (0, .ref b)]) (hP : va_P D cls (wX cy q ++ wM cy t) H) (hD : va_D A (wX cy q ++ wM cy t)) (hS : va_S A s.heap H locs) : W p l e room_1 s m #[Value.ref b] below meth c H locs 155 19939 (lw_Z below #[Value.ref b] s) (F0 m 727 ls []) := by
  have hx := Sx.1
  have hb := Sx.2.1
  have hbA : ¬ A b := fun h => absurd (hAe b h) (Nat.not_le.mpr hbl)
  refine lv_aload_n hx hb dd_L_law_727 rfl (lv_at hl 2 rfl) ?_
  refine lv_aload_n hx hb dd_L_law_728 rfl (lv_at hl 3 rfl) ?_
  refine lv_iload_n hx hb dd_L_law_729 rfl (lv_at hl 0 rfl) ?_
  refine lv_iconst (v := 1) hx hb dd_L_law_730 (by decide) ?_
  refine lv_iadd hx hb dd_L_law_731 ?_
  refine wk_int (v := 1) (by decide) ?_
  refine va_sld hx hb hSc hbl hbA hS (i := 1) (vi_of (by decide)) dd_L_law_732 ?_
  refine wk_int (v := xs 1) rfl ?_
  refine lv_aload_n hx hb dd_L_law_733 rfl (lv_at hl 3 rfl) ?_
  refine lv_iload_n hx hb dd_L_law_734 rfl (lv_at hl 0 rfl) ?_
  refine lv_iconst (v := 2) hx hb dd_L_law_735 (by decide) ?_
  refine lv_iadd hx hb dd_L_law_736 ?_
  refine wk_int (v := 2) (by decide) ?_
  refine va_sld hx hb hSc hbl hbA hS (i := 2) (vi_of (by decide)) dd_L_law_737 ?_
  refine wk_int (v := xs 2) rfl ?_
  refine hk_i (wr := (wM cy t)) (c1 := 155) (s1 := 19939) [0, 2, 5, 14] [113, 114, 115, 116, 117, 118, 119, 120, 121, 122, 123, 124, 125, 126, 127, 128, 129, 130, 131, 132, 133, 134, 135, 136, 137, 138, 139, 140, 141, 142, 143, 144, 145, 146, 147, 148, 149, 150, 151, 152, 153, 154] (hc_V [.int (xs 1), .int (xs 2)] [] [0, 2, 5, 14] Sx hl.1 ws_L_69 md_X11_goes (c_X_goes l D cy q (xs 1) (xs 2)) ⟨Nat.le_of_ble_eq_true rfl, Nat.le_of_ble_eq_true rfl⟩ hP hD rfl (by decide) hK nx_b (nx_w hX.1.1) (va_recv hK hP (ci := 11) (q0 := 0) rfl rfl) rfl rfl (Nat.le_of_ble_eq_true rfl) dd_L_law_738 ⟨Nat.le_of_ble_eq_true rfl, Nat.le_of_ble_eq_true rfl⟩) hS hA hP hD rfl rfl (by decide) (by decide) rfl rfl (fun r1 u2 H locs hw3 hP hD hS => ?_)
  have hP : va_P D cls (wM cy t) H := hP
  have hD : va_D A (wM cy t) := hD
  refine lv_aload_n hx hb dd_L_law_741 rfl (lv_at hl 1 rfl) ?_
  refine lv_aload_n hx hb dd_L_law_742 rfl (lv_at hl 3 rfl) ?_
  refine lv_iload_n hx hb dd_L_law_743 rfl (lv_at hl 0 rfl) ?_
  refine lv_iconst (v := 1) hx hb dd_L_law_744 (by decide) ?_
  refine lv_iadd hx hb dd_L_law_745 ?_
  refine wk_int (v := 1) (by decide) ?_
  refine va_sld hx hb hSc hbl hbA hS (i := 1) (vi_of (by decide)) dd_L_law_746 ?_
  refine wk_int (v := xs 1) rfl ?_
  refine lv_aload_n hx hb dd_L_law_747 rfl (lv_at hl 3 rfl) ?_
  refine lv_iload_n hx hb dd_L_law_748 rfl (lv_at hl 0 rfl) ?_
  refine lv_iconst (v := 2) hx hb dd_L_law_749 (by decide) ?_
  refine lv_iadd hx hb dd_L_law_750 ?_
  refine wk_int (v := 2) (by decide) ?_
  refine va_sld hx hb hSc hbl hbA hS (i := 2) (vi_of (by decide)) dd_L_law_751 ?_
  refine wk_int (v := xs 2) rfl ?_
  refine hk_i (wr := []) (c1 := 155) (s1 := 19939) [0, 29] [] (hc_V [.int (xs 1), .int (xs 2)] [.int r1] [0, 29] Sx hl.1 ws_L_72 md_X12_goes (c_M_pub_goes l D cy t (xs 1) (xs 2)) ⟨Nat.le_of_ble_eq_true rfl, Nat.le_of_ble_eq_true rfl⟩ hP hD rfl (by decide) hK nx_b (nx_w hX.1.1) (va_recv hK hP (ci := 12) (q0 := 0) rfl rfl) rfl rfl (Nat.le_of_ble_eq_true rfl) dd_L_law_752 ⟨Nat.le_of_ble_eq_true rfl, Nat.le_of_ble_eq_true rfl⟩) hS hA hP hD rfl rfl (by decide) (by decide) rfl rfl (fun r4 u5 H locs hw6 hP hD hS => ?_)
  refine lv_icmp_eq (tgt := 1731) hx hb dd_L_law_755 (by decide) (fun _ => ?_) (fun c => absurd (hw3.trans hw6.symm) c)
  exact law_again l A hAe Sx hr hlocks hSc hbl hS ls (lv_sub hl [0, 3] rfl)
set_option maxHeartbeats 4000000 in
set_option maxRecDepth 100000 in
theorem law_case_13 {p : Program} {e : Env} {s : State} {m : MethodId} {below : List Frame} {meth : Method} {c : Code} (l : Launch) (D : va_G) (cy : Nat → ClassId) (q t : Nat → Nat) (A : Nat → Prop) (hAe : ∀ w, A w → s.heap.size ≤ w) (hA : ∀ w, s.heap.size ≤ w → A w) {b : Nat} {xs : Nat → Int32} (Sx : CallFix p m c code 4 s #[Value.ref b] BW "WhiteElephantsLaw") (hr : meth.sig.returnType = ret) (hlocks : meth.locks = false) (hK : va_K D cls (TY cy) s) (hX : LX A s) (hSc : va_X b 6 xs s s.heap) (hbl : b < s.heap.size) {H : Heap} {locs : List Loc} {ls : Array Slot} (hl : lv_has ls 4 [(3, .int 0), (2, .ref (t 60)), (1, .ref (q 0)), (0, .ref b)]) (hP : va_P D cls (wX cy q ++ wM cy t) H) (hD : va_D A (wX cy q ++ wM cy t)) (hS : va_S A s.heap H locs) : W p l e room_1 s m #[Value.ref b] below meth c H locs 155 19939 (lw_Z below #[Value.ref b] s) (F0 m 760 ls []) := by
  have hx := Sx.1
  have hb := Sx.2.1
  have hbA : ¬ A b := fun h => absurd (hAe b h) (Nat.not_le.mpr hbl)
  refine lv_aload_n hx hb dd_L_law_760 rfl (lv_at hl 2 rfl) ?_
  refine lv_aload_n hx hb dd_L_law_761 rfl (lv_at hl 3 rfl) ?_
  refine lv_iload_n hx hb dd_L_law_762 rfl (lv_at hl 0 rfl) ?_
  refine lv_iconst (v := 1) hx hb dd_L_law_763 (by decide) ?_
  refine lv_iadd hx hb dd_L_law_764 ?_
  refine wk_int (v := 1) (by decide) ?_
  refine va_sld hx hb hSc hbl hbA hS (i := 1) (vi_of (by decide)) dd_L_law_765 ?_
  refine wk_int (v := xs 1) rfl ?_
  refine lv_aload_n hx hb dd_L_law_766 rfl (lv_at hl 3 rfl) ?_
  refine lv_iload_n hx hb dd_L_law_767 rfl (lv_at hl 0 rfl) ?_
  refine lv_iconst (v := 2) hx hb dd_L_law_768 (by decide) ?_
  refine lv_iadd hx hb dd_L_law_769 ?_
  refine wk_int (v := 2) (by decide) ?_
  refine va_sld hx hb hSc hbl hbA hS (i := 2) (vi_of (by decide)) dd_L_law_770 ?_
  refine wk_int (v := xs 2) rfl ?_
  refine hk_i (wr := (wM cy t)) (c1 := 155) (s1 := 19939) [0, 2, 3, 4] [113, 114, 115, 116, 117, 118, 119, 120, 121, 122, 123, 124, 125, 126, 127, 128, 129, 130, 131, 132, 133, 134, 135, 136, 137, 138, 139, 140, 141, 142, 143, 144, 145, 146, 147, 148, 149, 150, 151, 152, 153, 154] (hc_V [.int (xs 1), .int (xs 2)] [] [0, 2, 3, 4] Sx hl.1 ws_L_73 md_X11_feed (c_X_feed l D cy q (xs 1) (xs 2)) ⟨Nat.le_of_ble_eq_true rfl, Nat.le_of_ble_eq_true rfl⟩ hP hD rfl (by decide) hK nx_b (nx_w hX.1.1) (va_recv hK hP (ci := 11) (q0 := 0) rfl rfl) rfl rfl (Nat.le_of_ble_eq_true rfl) dd_L_law_771 ⟨Nat.le_of_ble_eq_true rfl, Nat.le_of_ble_eq_true rfl⟩) hS hA hP hD rfl rfl (by decide) (by decide) rfl rfl (fun r1 u2 H locs hw3 hP hD hS => ?_)
  have hP : va_P D cls (wM cy t) H := hP
  have hD : va_D A (wM cy t) := hD
  refine lv_aload_n hx hb dd_L_law_774 rfl (lv_at hl 1 rfl) ?_
  refine lv_aload_n hx hb dd_L_law_775 rfl (lv_at hl 3 rfl) ?_
  refine lv_iload_n hx hb dd_L_law_776 rfl (lv_at hl 0 rfl) ?_
  refine lv_iconst (v := 1) hx hb dd_L_law_777 (by decide) ?_
  refine lv_iadd hx hb dd_L_law_778 ?_
  refine wk_int (v := 1) (by decide) ?_
  refine va_sld hx hb hSc hbl hbA hS (i := 1) (vi_of (by decide)) dd_L_law_779 ?_
  refine wk_int (v := xs 1) rfl ?_
  refine lv_aload_n hx hb dd_L_law_780 rfl (lv_at hl 3 rfl) ?_
  refine lv_iload_n hx hb dd_L_law_781 rfl (lv_at hl 0 rfl) ?_
  refine lv_iconst (v := 2) hx hb dd_L_law_782 (by decide) ?_
  refine lv_iadd hx hb dd_L_law_783 ?_
  refine wk_int (v := 2) (by decide) ?_
  refine va_sld hx hb hSc hbl hbA hS (i := 2) (vi_of (by decide)) dd_L_law_784 ?_
  refine wk_int (v := xs 2) rfl ?_
  refine hk_i (wr := []) (c1 := 155) (s1 := 19939) [0, 14, 29] [] (hc_V [.int (xs 1), .int (xs 2)] [.int r1] [0, 14, 29] Sx hl.1 ws_L_76 md_X12_feed (c_M_pub_feed l D cy t (xs 1) (xs 2)) ⟨Nat.le_of_ble_eq_true rfl, Nat.le_of_ble_eq_true rfl⟩ hP hD rfl (by decide) hK nx_b (nx_w hX.1.1) (va_recv hK hP (ci := 12) (q0 := 0) rfl rfl) rfl rfl (Nat.le_of_ble_eq_true rfl) dd_L_law_785 ⟨Nat.le_of_ble_eq_true rfl, Nat.le_of_ble_eq_true rfl⟩) hS hA hP hD rfl rfl (by decide) (by decide) rfl rfl (fun r4 u5 H locs hw6 hP hD hS => ?_)
  refine lv_icmp_eq (tgt := 1731) hx hb dd_L_law_788 (by decide) (fun _ => ?_) (fun c => absurd (if2_eq hw3 hw6) c)
  exact law_again l A hAe Sx hr hlocks hSc hbl hS ls (lv_sub hl [0, 3] rfl)
set_option maxHeartbeats 4000000 in
set_option maxRecDepth 100000 in
theorem law_case_14 {p : Program} {e : Env} {s : State} {m : MethodId} {below : List Frame} {meth : Method} {c : Code} (l : Launch) (D : va_G) (cy : Nat → ClassId) (q t : Nat → Nat) (A : Nat → Prop) (hAe : ∀ w, A w → s.heap.size ≤ w) (hA : ∀ w, s.heap.size ≤ w → A w) {b : Nat} {xs : Nat → Int32} (Sx : CallFix p m c code 4 s #[Value.ref b] BW "WhiteElephantsLaw") (hr : meth.sig.returnType = ret) (hlocks : meth.locks = false) (hK : va_K D cls (TY cy) s) (hX : LX A s) (hSc : va_X b 6 xs s s.heap) (hbl : b < s.heap.size) {H : Heap} {locs : List Loc} {ls : Array Slot} (hl : lv_has ls 4 [(3, .int 0), (2, .ref (t 60)), (1, .ref (q 0)), (0, .ref b)]) (hP : va_P D cls (wX cy q ++ wM cy t) H) (hD : va_D A (wX cy q ++ wM cy t)) (hS : va_S A s.heap H locs) : W p l e room_1 s m #[Value.ref b] below meth c H locs 155 19939 (lw_Z below #[Value.ref b] s) (F0 m 793 ls []) := by
  have hx := Sx.1
  have hb := Sx.2.1
  have hbA : ¬ A b := fun h => absurd (hAe b h) (Nat.not_le.mpr hbl)
  refine lv_aload_n hx hb dd_L_law_793 rfl (lv_at hl 2 rfl) ?_
  refine hk_i (wr := (wM cy t)) (c1 := 155) (s1 := 19939) [0, 3] [113, 114, 115, 116, 117, 118, 119, 120, 121, 122, 123, 124, 125, 126, 127, 128, 129, 130, 131, 132, 133, 134, 135, 136, 137, 138, 139, 140, 141, 142, 143, 144, 145, 146, 147, 148, 149, 150, 151, 152, 153, 154] (hc_V [] [] [0, 3] Sx hl.1 ws_L_77 md_X11_wipe (c_X_wipe l D cy q) ⟨Nat.le_of_ble_eq_true rfl, Nat.le_of_ble_eq_true rfl⟩ hP hD rfl (by decide) hK nx_b (nx_w hX.1.1) (va_recv hK hP (ci := 11) (q0 := 0) rfl rfl) rfl rfl (Nat.le_of_ble_eq_true rfl) dd_L_law_794 ⟨Nat.le_of_ble_eq_true rfl, Nat.le_of_ble_eq_true rfl⟩) hS hA hP hD rfl rfl (by decide) (by decide) rfl rfl (fun r1 u2 H locs hw3 hP hD hS => ?_)
  have hP : va_P D cls (wM cy t) H := hP
  have hD : va_D A (wM cy t) := hD
  refine lv_aload_n hx hb dd_L_law_797 rfl (lv_at hl 1 rfl) ?_
  refine hk_i (wr := []) (c1 := 155) (s1 := 19939) [0] [] (hc_V [] [.int r1] [0] Sx hl.1 ws_L_81 md_X12_wipe (c_M_pub_wipe l D cy t) ⟨Nat.le_of_ble_eq_true rfl, Nat.le_of_ble_eq_true rfl⟩ hP hD rfl (by decide) hK nx_b (nx_w hX.1.1) (va_recv hK hP (ci := 12) (q0 := 0) rfl rfl) rfl rfl (Nat.le_of_ble_eq_true rfl) dd_L_law_798 ⟨Nat.le_of_ble_eq_true rfl, Nat.le_of_ble_eq_true rfl⟩) hS hA hP hD rfl rfl (by decide) (by decide) rfl rfl (fun r4 u5 H locs hw6 hP hD hS => ?_)
  refine lv_icmp_eq (tgt := 1731) hx hb dd_L_law_801 (by decide) (fun _ => ?_) (fun c => absurd (hw3.trans hw6.symm) c)
  exact law_again l A hAe Sx hr hlocks hSc hbl hS ls (lv_sub hl [0, 3] rfl)
set_option maxHeartbeats 4000000 in
set_option maxRecDepth 100000 in
theorem law_case_15 {p : Program} {e : Env} {s : State} {m : MethodId} {below : List Frame} {meth : Method} {c : Code} (l : Launch) (D : va_G) (cy : Nat → ClassId) (q t : Nat → Nat) (A : Nat → Prop) (hAe : ∀ w, A w → s.heap.size ≤ w) (hA : ∀ w, s.heap.size ≤ w → A w) {b : Nat} {xs : Nat → Int32} (Sx : CallFix p m c code 4 s #[Value.ref b] BW "WhiteElephantsLaw") (hr : meth.sig.returnType = ret) (hlocks : meth.locks = false) (hK : va_K D cls (TY cy) s) (hX : LX A s) (hSc : va_X b 6 xs s s.heap) (hbl : b < s.heap.size) {H : Heap} {locs : List Loc} {ls : Array Slot} (hl : lv_has ls 4 [(3, .int 0), (2, .ref (t 60)), (1, .ref (q 0)), (0, .ref b)]) (hP : va_P D cls (wX cy q ++ wM cy t) H) (hD : va_D A (wX cy q ++ wM cy t)) (hS : va_S A s.heap H locs) : W p l e room_1 s m #[Value.ref b] below meth c H locs 155 19939 (lw_Z below #[Value.ref b] s) (F0 m 806 ls []) := by
  have hx := Sx.1
  have hb := Sx.2.1
  have hbA : ¬ A b := fun h => absurd (hAe b h) (Nat.not_le.mpr hbl)
  refine lv_aload_n hx hb dd_L_law_806 rfl (lv_at hl 2 rfl) ?_
  refine hk_i (wr := (wM cy t)) (c1 := 155) (s1 := 19939) [0, 2, 3, 5, 18, 20] [113, 114, 115, 116, 117, 118, 119, 120, 121, 122, 123, 124, 125, 126, 127, 128, 129, 130, 131, 132, 133, 134, 135, 136, 137, 138, 139, 140, 141, 142, 143, 144, 145, 146, 147, 148, 149, 150, 151, 152, 153, 154] (hc_V [] [] [0, 2, 3, 5, 18, 20] Sx hl.1 ws_L_82 md_X11_law (c_X_law l D cy q) ⟨Nat.le_of_ble_eq_true rfl, Nat.le_of_ble_eq_true rfl⟩ hP hD rfl (by decide) hK lx_b (fun U hU hW => ⟨px_go hS (va_free hD hS hA [0, 2, 3, 5, 18, 20] rfl) hU hW hX.1, at_go hS (va_free hD hS hA [0, 2, 3, 5, 18, 20] rfl) hU hW hX.2⟩) (va_recv hK hP (ci := 11) (q0 := 0) rfl rfl) rfl rfl (Nat.le_of_ble_eq_true rfl) dd_L_law_807 ⟨Nat.le_of_ble_eq_true rfl, Nat.le_of_ble_eq_true rfl⟩) hS hA hP hD rfl rfl (by decide) (by decide) rfl rfl (fun r1 u2 H locs hw3 hP hD hS => ?_)
  have hP : va_P D cls (wM cy t) H := hP
  have hD : va_D A (wM cy t) := hD
  refine lv_aload_n hx hb dd_L_law_810 rfl (lv_at hl 1 rfl) ?_
  refine hk_i (wr := []) (c1 := 155) (s1 := 19939) [0, 13, 29] [] (hc_V [] [.int r1] [0, 13, 29] Sx hl.1 ws_L_85 md_X12_law (c_M_pub_law l D cy t) ⟨Nat.le_of_ble_eq_true rfl, Nat.le_of_ble_eq_true rfl⟩ hP hD rfl (by decide) hK nx_b (nx_w hX.1.1) (va_recv hK hP (ci := 12) (q0 := 0) rfl rfl) rfl rfl (Nat.le_of_ble_eq_true rfl) dd_L_law_811 ⟨Nat.le_of_ble_eq_true rfl, Nat.le_of_ble_eq_true rfl⟩) hS hA hP hD rfl rfl (by decide) (by decide) rfl rfl (fun r4 u5 H locs hw6 hP hD hS => ?_)
  refine lv_icmp_eq (tgt := 1731) hx hb dd_L_law_814 (by decide) (fun _ => ?_) (fun c => absurd (hw3.trans hw6.symm) c)
  exact law_again l A hAe Sx hr hlocks hSc hbl hS ls (lv_sub hl [0, 3] rfl)
set_option maxHeartbeats 4000000 in
set_option maxRecDepth 100000 in
theorem law_case_16 {p : Program} {e : Env} {s : State} {m : MethodId} {below : List Frame} {meth : Method} {c : Code} (l : Launch) (D : va_G) (cy : Nat → ClassId) (q t : Nat → Nat) (A : Nat → Prop) (hAe : ∀ w, A w → s.heap.size ≤ w) (hA : ∀ w, s.heap.size ≤ w → A w) {b : Nat} {xs : Nat → Int32} (Sx : CallFix p m c code 4 s #[Value.ref b] BW "WhiteElephantsLaw") (hr : meth.sig.returnType = ret) (hlocks : meth.locks = false) (hK : va_K D cls (TY cy) s) (hX : LX A s) (hSc : va_X b 6 xs s s.heap) (hbl : b < s.heap.size) {H : Heap} {locs : List Loc} {ls : Array Slot} (hl : lv_has ls 4 [(3, .int 0), (2, .ref (t 60)), (1, .ref (q 0)), (0, .ref b)]) (hP : va_P D cls (wX cy q ++ wM cy t) H) (hD : va_D A (wX cy q ++ wM cy t)) (hS : va_S A s.heap H locs) : W p l e room_1 s m #[Value.ref b] below meth c H locs 155 19939 (lw_Z below #[Value.ref b] s) (F0 m 819 ls []) := by
  have hx := Sx.1
  have hb := Sx.2.1
  have hbA : ¬ A b := fun h => absurd (hAe b h) (Nat.not_le.mpr hbl)
  refine lv_aload_n hx hb dd_L_law_819 rfl (lv_at hl 2 rfl) ?_
  refine lv_aload_n hx hb dd_L_law_820 rfl (lv_at hl 3 rfl) ?_
  refine lv_iload_n hx hb dd_L_law_821 rfl (lv_at hl 0 rfl) ?_
  refine lv_iconst (v := 1) hx hb dd_L_law_822 (by decide) ?_
  refine lv_iadd hx hb dd_L_law_823 ?_
  refine wk_int (v := 1) (by decide) ?_
  refine va_sld hx hb hSc hbl hbA hS (i := 1) (vi_of (by decide)) dd_L_law_824 ?_
  refine wk_int (v := xs 1) rfl ?_
  refine lv_aload_n hx hb dd_L_law_825 rfl (lv_at hl 3 rfl) ?_
  refine lv_iload_n hx hb dd_L_law_826 rfl (lv_at hl 0 rfl) ?_
  refine lv_iconst (v := 2) hx hb dd_L_law_827 (by decide) ?_
  refine lv_iadd hx hb dd_L_law_828 ?_
  refine wk_int (v := 2) (by decide) ?_
  refine va_sld hx hb hSc hbl hbA hS (i := 2) (vi_of (by decide)) dd_L_law_829 ?_
  refine wk_int (v := xs 2) rfl ?_
  refine hk_i (wr := (wM cy t)) (c1 := 155) (s1 := 19939) [0, 2, 5, 18] [113, 114, 115, 116, 117, 118, 119, 120, 121, 122, 123, 124, 125, 126, 127, 128, 129, 130, 131, 132, 133, 134, 135, 136, 137, 138, 139, 140, 141, 142, 143, 144, 145, 146, 147, 148, 149, 150, 151, 152, 153, 154] (hc_V [.int (xs 1), .int (xs 2)] [] [0, 2, 5, 18] Sx hl.1 ws_L_86 md_X11_lawOf (c_X_lawOf l D cy q (xs 1) (xs 2)) ⟨Nat.le_of_ble_eq_true rfl, Nat.le_of_ble_eq_true rfl⟩ hP hD rfl (by decide) hK nx_b (nx_w hX.1.1) (va_recv hK hP (ci := 11) (q0 := 0) rfl rfl) rfl rfl (Nat.le_of_ble_eq_true rfl) dd_L_law_830 ⟨Nat.le_of_ble_eq_true rfl, Nat.le_of_ble_eq_true rfl⟩) hS hA hP hD rfl rfl (by decide) (by decide) rfl rfl (fun r1 u2 H locs hw3 hP hD hS => ?_)
  have hP : va_P D cls (wM cy t) H := hP
  have hD : va_D A (wM cy t) := hD
  refine lv_aload_n hx hb dd_L_law_833 rfl (lv_at hl 1 rfl) ?_
  refine lv_aload_n hx hb dd_L_law_834 rfl (lv_at hl 3 rfl) ?_
  refine lv_iload_n hx hb dd_L_law_835 rfl (lv_at hl 0 rfl) ?_
  refine lv_iconst (v := 1) hx hb dd_L_law_836 (by decide) ?_
  refine lv_iadd hx hb dd_L_law_837 ?_
  refine wk_int (v := 1) (by decide) ?_
  refine va_sld hx hb hSc hbl hbA hS (i := 1) (vi_of (by decide)) dd_L_law_838 ?_
  refine wk_int (v := xs 1) rfl ?_
  refine lv_aload_n hx hb dd_L_law_839 rfl (lv_at hl 3 rfl) ?_
  refine lv_iload_n hx hb dd_L_law_840 rfl (lv_at hl 0 rfl) ?_
  refine lv_iconst (v := 2) hx hb dd_L_law_841 (by decide) ?_
  refine lv_iadd hx hb dd_L_law_842 ?_
  refine wk_int (v := 2) (by decide) ?_
  refine va_sld hx hb hSc hbl hbA hS (i := 2) (vi_of (by decide)) dd_L_law_843 ?_
  refine wk_int (v := xs 2) rfl ?_
  refine hk_i (wr := []) (c1 := 155) (s1 := 19939) [0, 29] [] (hc_V [.int (xs 1), .int (xs 2)] [.int r1] [0, 29] Sx hl.1 ws_L_89 md_X12_lawOf (c_M_pub_lawOf l D cy t (xs 1) (xs 2)) ⟨Nat.le_of_ble_eq_true rfl, Nat.le_of_ble_eq_true rfl⟩ hP hD rfl (by decide) hK nx_b (nx_w hX.1.1) (va_recv hK hP (ci := 12) (q0 := 0) rfl rfl) rfl rfl (Nat.le_of_ble_eq_true rfl) dd_L_law_844 ⟨Nat.le_of_ble_eq_true rfl, Nat.le_of_ble_eq_true rfl⟩) hS hA hP hD rfl rfl (by decide) (by decide) rfl rfl (fun r4 u5 H locs hw6 hP hD hS => ?_)
  refine lv_icmp_eq (tgt := 1731) hx hb dd_L_law_847 (by decide) (fun _ => ?_) (fun c => absurd (hw3.trans hw6.symm) c)
  exact law_again l A hAe Sx hr hlocks hSc hbl hS ls (lv_sub hl [0, 3] rfl)
set_option maxHeartbeats 4000000 in
set_option maxRecDepth 100000 in
theorem law_case_17 {p : Program} {e : Env} {s : State} {m : MethodId} {below : List Frame} {meth : Method} {c : Code} (l : Launch) (D : va_G) (cy : Nat → ClassId) (q t : Nat → Nat) (A : Nat → Prop) (hAe : ∀ w, A w → s.heap.size ≤ w) (hA : ∀ w, s.heap.size ≤ w → A w) {b : Nat} {xs : Nat → Int32} (Sx : CallFix p m c code 4 s #[Value.ref b] BW "WhiteElephantsLaw") (hr : meth.sig.returnType = ret) (hlocks : meth.locks = false) (hK : va_K D cls (TY cy) s) (hX : LX A s) (hSc : va_X b 6 xs s s.heap) (hbl : b < s.heap.size) {H : Heap} {locs : List Loc} {ls : Array Slot} (hl : lv_has ls 4 [(3, .int 0), (2, .ref (t 60)), (1, .ref (q 0)), (0, .ref b)]) (hP : va_P D cls (wX cy q ++ wM cy t) H) (hD : va_D A (wX cy q ++ wM cy t)) (hS : va_S A s.heap H locs) : W p l e room_1 s m #[Value.ref b] below meth c H locs 155 19939 (lw_Z below #[Value.ref b] s) (F0 m 852 ls []) := by
  have hx := Sx.1
  have hb := Sx.2.1
  have hbA : ¬ A b := fun h => absurd (hAe b h) (Nat.not_le.mpr hbl)
  refine lv_aload_n hx hb dd_L_law_852 rfl (lv_at hl 2 rfl) ?_
  refine lv_aload_n hx hb dd_L_law_853 rfl (lv_at hl 3 rfl) ?_
  refine lv_iload_n hx hb dd_L_law_854 rfl (lv_at hl 0 rfl) ?_
  refine lv_iconst (v := 1) hx hb dd_L_law_855 (by decide) ?_
  refine lv_iadd hx hb dd_L_law_856 ?_
  refine wk_int (v := 1) (by decide) ?_
  refine va_sld hx hb hSc hbl hbA hS (i := 1) (vi_of (by decide)) dd_L_law_857 ?_
  refine wk_int (v := xs 1) rfl ?_
  refine lv_aload_n hx hb dd_L_law_858 rfl (lv_at hl 3 rfl) ?_
  refine lv_iload_n hx hb dd_L_law_859 rfl (lv_at hl 0 rfl) ?_
  refine lv_iconst (v := 2) hx hb dd_L_law_860 (by decide) ?_
  refine lv_iadd hx hb dd_L_law_861 ?_
  refine wk_int (v := 2) (by decide) ?_
  refine va_sld hx hb hSc hbl hbA hS (i := 2) (vi_of (by decide)) dd_L_law_862 ?_
  refine wk_int (v := xs 2) rfl ?_
  refine lv_aload_n hx hb dd_L_law_863 rfl (lv_at hl 3 rfl) ?_
  refine lv_iload_n hx hb dd_L_law_864 rfl (lv_at hl 0 rfl) ?_
  refine lv_iconst (v := 3) hx hb dd_L_law_865 (by decide) ?_
  refine lv_iadd hx hb dd_L_law_866 ?_
  refine wk_int (v := 3) (by decide) ?_
  refine va_sld hx hb hSc hbl hbA hS (i := 3) (vi_of (by decide)) dd_L_law_867 ?_
  refine wk_int (v := xs 3) rfl ?_
  refine lv_if_eq (tgt := 875) hx hb dd_L_law_868 (by decide) (fun c1 => ?_) (fun c1 => ?_)
  · have fc1 := ci_eq (a := ((xs 3)).toInt) (b := 0) rfl rfl c1
    refine lv_iconst (v := 0) hx hb dd_L_law_875 (by decide) ?_
    refine hk_i (wr := (wM cy t)) (c1 := 155) (s1 := 19939) [0, 2, 5, 14] [113, 114, 115, 116, 117, 118, 119, 120, 121, 122, 123, 124, 125, 126, 127, 128, 129, 130, 131, 132, 133, 134, 135, 136, 137, 138, 139, 140, 141, 142, 143, 144, 145, 146, 147, 148, 149, 150, 151, 152, 153, 154] (hc_V [.int (xs 1), .int (xs 2), .int 0] [] [0, 2, 5, 14] Sx hl.1 ws_L_90 md_X11_thinks (c_X_thinks l D cy q (xs 1) (xs 2) 0) ⟨Nat.le_of_ble_eq_true rfl, Nat.le_of_ble_eq_true rfl⟩ hP hD rfl (by decide) hK nx_b (nx_w hX.1.1) (va_recv hK hP (ci := 11) (q0 := 0) rfl rfl) rfl rfl (Nat.le_of_ble_eq_true rfl) dd_L_law_876 ⟨Nat.le_of_ble_eq_true rfl, Nat.le_of_ble_eq_true rfl⟩) hS hA hP hD rfl rfl (by decide) (by decide) rfl rfl (fun r2 u3 H locs hw4 hP hD hS => ?_)
    have hP : va_P D cls (wM cy t) H := hP
    have hD : va_D A (wM cy t) := hD
    refine lv_aload_n hx hb dd_L_law_879 rfl (lv_at hl 1 rfl) ?_
    refine lv_aload_n hx hb dd_L_law_880 rfl (lv_at hl 3 rfl) ?_
    refine lv_iload_n hx hb dd_L_law_881 rfl (lv_at hl 0 rfl) ?_
    refine lv_iconst (v := 1) hx hb dd_L_law_882 (by decide) ?_
    refine lv_iadd hx hb dd_L_law_883 ?_
    refine wk_int (v := 1) (by decide) ?_
    refine va_sld hx hb hSc hbl hbA hS (i := 1) (vi_of (by decide)) dd_L_law_884 ?_
    refine wk_int (v := xs 1) rfl ?_
    refine lv_aload_n hx hb dd_L_law_885 rfl (lv_at hl 3 rfl) ?_
    refine lv_iload_n hx hb dd_L_law_886 rfl (lv_at hl 0 rfl) ?_
    refine lv_iconst (v := 2) hx hb dd_L_law_887 (by decide) ?_
    refine lv_iadd hx hb dd_L_law_888 ?_
    refine wk_int (v := 2) (by decide) ?_
    refine va_sld hx hb hSc hbl hbA hS (i := 2) (vi_of (by decide)) dd_L_law_889 ?_
    refine wk_int (v := xs 2) rfl ?_
    refine lv_aload_n hx hb dd_L_law_890 rfl (lv_at hl 3 rfl) ?_
    refine lv_iload_n hx hb dd_L_law_891 rfl (lv_at hl 0 rfl) ?_
    refine lv_iconst (v := 3) hx hb dd_L_law_892 (by decide) ?_
    refine lv_iadd hx hb dd_L_law_893 ?_
    refine wk_int (v := 3) (by decide) ?_
    refine va_sld hx hb hSc hbl hbA hS (i := 3) (vi_of (by decide)) dd_L_law_894 ?_
    refine wk_int (v := xs 3) rfl ?_
    refine lv_if_eq (tgt := 902) hx hb dd_L_law_895 (by decide) (fun c5 => ?_) (fun c5 => ?_)
    · have fc5 := ci_eq (a := ((xs 3)).toInt) (b := 0) rfl rfl c5
      refine lv_iconst (v := 0) hx hb dd_L_law_902 (by decide) ?_
      refine hk_i (wr := []) (c1 := 155) (s1 := 19939) [0, 29] [] (hc_V [.int (xs 1), .int (xs 2), .int 0] [.int r2] [0, 29] Sx hl.1 ws_L_94 md_X12_thinks (c_M_pub_thinks l D cy t (xs 1) (xs 2) 0) ⟨Nat.le_of_ble_eq_true rfl, Nat.le_of_ble_eq_true rfl⟩ hP hD rfl (by decide) hK nx_b (nx_w hX.1.1) (va_recv hK hP (ci := 12) (q0 := 0) rfl rfl) rfl rfl (Nat.le_of_ble_eq_true rfl) dd_L_law_903 ⟨Nat.le_of_ble_eq_true rfl, Nat.le_of_ble_eq_true rfl⟩) hS hA hP hD rfl rfl (by decide) (by decide) rfl rfl (fun r6 u7 H locs hw8 hP hD hS => ?_)
      refine lv_icmp_eq (tgt := 1731) hx hb dd_L_law_906 (by decide) (fun _ => ?_) (fun c => absurd (hw4.trans hw8.symm) c)
      exact law_again l A hAe Sx hr hlocks hSc hbl hS ls (lv_sub hl [0, 3] rfl)
    · have fc5 := ci_ne (a := ((xs 3)).toInt) (b := 0) rfl rfl c5
      exfalso; omega
  · have fc1 := ci_ne (a := ((xs 3)).toInt) (b := 0) rfl rfl c1
    refine lv_iconst (v := 1) hx hb dd_L_law_871 (by decide) ?_
    refine lv_goto (tgt := 876) hx hb dd_L_law_872 (by decide) ?_
    refine hk_i (wr := (wM cy t)) (c1 := 155) (s1 := 19939) [0, 2, 5, 14] [113, 114, 115, 116, 117, 118, 119, 120, 121, 122, 123, 124, 125, 126, 127, 128, 129, 130, 131, 132, 133, 134, 135, 136, 137, 138, 139, 140, 141, 142, 143, 144, 145, 146, 147, 148, 149, 150, 151, 152, 153, 154] (hc_V [.int (xs 1), .int (xs 2), .int 1] [] [0, 2, 5, 14] Sx hl.1 ws_L_90 md_X11_thinks (c_X_thinks l D cy q (xs 1) (xs 2) 1) ⟨Nat.le_of_ble_eq_true rfl, Nat.le_of_ble_eq_true rfl⟩ hP hD rfl (by decide) hK nx_b (nx_w hX.1.1) (va_recv hK hP (ci := 11) (q0 := 0) rfl rfl) rfl rfl (Nat.le_of_ble_eq_true rfl) dd_L_law_876 ⟨Nat.le_of_ble_eq_true rfl, Nat.le_of_ble_eq_true rfl⟩) hS hA hP hD rfl rfl (by decide) (by decide) rfl rfl (fun r9 u10 H locs hw11 hP hD hS => ?_)
    have hP : va_P D cls (wM cy t) H := hP
    have hD : va_D A (wM cy t) := hD
    refine lv_aload_n hx hb dd_L_law_879 rfl (lv_at hl 1 rfl) ?_
    refine lv_aload_n hx hb dd_L_law_880 rfl (lv_at hl 3 rfl) ?_
    refine lv_iload_n hx hb dd_L_law_881 rfl (lv_at hl 0 rfl) ?_
    refine lv_iconst (v := 1) hx hb dd_L_law_882 (by decide) ?_
    refine lv_iadd hx hb dd_L_law_883 ?_
    refine wk_int (v := 1) (by decide) ?_
    refine va_sld hx hb hSc hbl hbA hS (i := 1) (vi_of (by decide)) dd_L_law_884 ?_
    refine wk_int (v := xs 1) rfl ?_
    refine lv_aload_n hx hb dd_L_law_885 rfl (lv_at hl 3 rfl) ?_
    refine lv_iload_n hx hb dd_L_law_886 rfl (lv_at hl 0 rfl) ?_
    refine lv_iconst (v := 2) hx hb dd_L_law_887 (by decide) ?_
    refine lv_iadd hx hb dd_L_law_888 ?_
    refine wk_int (v := 2) (by decide) ?_
    refine va_sld hx hb hSc hbl hbA hS (i := 2) (vi_of (by decide)) dd_L_law_889 ?_
    refine wk_int (v := xs 2) rfl ?_
    refine lv_aload_n hx hb dd_L_law_890 rfl (lv_at hl 3 rfl) ?_
    refine lv_iload_n hx hb dd_L_law_891 rfl (lv_at hl 0 rfl) ?_
    refine lv_iconst (v := 3) hx hb dd_L_law_892 (by decide) ?_
    refine lv_iadd hx hb dd_L_law_893 ?_
    refine wk_int (v := 3) (by decide) ?_
    refine va_sld hx hb hSc hbl hbA hS (i := 3) (vi_of (by decide)) dd_L_law_894 ?_
    refine wk_int (v := xs 3) rfl ?_
    refine lv_if_eq (tgt := 902) hx hb dd_L_law_895 (by decide) (fun c12 => ?_) (fun c12 => ?_)
    · have fc12 := ci_eq (a := ((xs 3)).toInt) (b := 0) rfl rfl c12
      refine lv_iconst (v := 0) hx hb dd_L_law_902 (by decide) ?_
      refine hk_i (wr := []) (c1 := 155) (s1 := 19939) [0, 29] [] (hc_V [.int (xs 1), .int (xs 2), .int 0] [.int r9] [0, 29] Sx hl.1 ws_L_94 md_X12_thinks (c_M_pub_thinks l D cy t (xs 1) (xs 2) 0) ⟨Nat.le_of_ble_eq_true rfl, Nat.le_of_ble_eq_true rfl⟩ hP hD rfl (by decide) hK nx_b (nx_w hX.1.1) (va_recv hK hP (ci := 12) (q0 := 0) rfl rfl) rfl rfl (Nat.le_of_ble_eq_true rfl) dd_L_law_903 ⟨Nat.le_of_ble_eq_true rfl, Nat.le_of_ble_eq_true rfl⟩) hS hA hP hD rfl rfl (by decide) (by decide) rfl rfl (fun r13 u14 H locs hw15 hP hD hS => ?_)
      refine lv_icmp_eq (tgt := 1731) hx hb dd_L_law_906 (by decide) (fun _ => ?_) (fun c => absurd (hw11.trans hw15.symm) c)
      exact law_again l A hAe Sx hr hlocks hSc hbl hS ls (lv_sub hl [0, 3] rfl)
    · have fc12 := ci_ne (a := ((xs 3)).toInt) (b := 0) rfl rfl c12
      refine lv_iconst (v := 1) hx hb dd_L_law_898 (by decide) ?_
      refine lv_goto (tgt := 903) hx hb dd_L_law_899 (by decide) ?_
      refine hk_i (wr := []) (c1 := 155) (s1 := 19939) [0, 29] [] (hc_V [.int (xs 1), .int (xs 2), .int 1] [.int r9] [0, 29] Sx hl.1 ws_L_94 md_X12_thinks (c_M_pub_thinks l D cy t (xs 1) (xs 2) 1) ⟨Nat.le_of_ble_eq_true rfl, Nat.le_of_ble_eq_true rfl⟩ hP hD rfl (by decide) hK nx_b (nx_w hX.1.1) (va_recv hK hP (ci := 12) (q0 := 0) rfl rfl) rfl rfl (Nat.le_of_ble_eq_true rfl) dd_L_law_903 ⟨Nat.le_of_ble_eq_true rfl, Nat.le_of_ble_eq_true rfl⟩) hS hA hP hD rfl rfl (by decide) (by decide) rfl rfl (fun r16 u17 H locs hw18 hP hD hS => ?_)
      refine lv_icmp_eq (tgt := 1731) hx hb dd_L_law_906 (by decide) (fun _ => ?_) (fun c => absurd (hw11.trans hw18.symm) c)
      exact law_again l A hAe Sx hr hlocks hSc hbl hS ls (lv_sub hl [0, 3] rfl)
set_option maxHeartbeats 4000000 in
set_option maxRecDepth 100000 in
theorem law_case_18 {p : Program} {e : Env} {s : State} {m : MethodId} {below : List Frame} {meth : Method} {c : Code} (l : Launch) (D : va_G) (cy : Nat → ClassId) (q t : Nat → Nat) (A : Nat → Prop) (hAe : ∀ w, A w → s.heap.size ≤ w) (hA : ∀ w, s.heap.size ≤ w → A w) {b : Nat} {xs : Nat → Int32} (Sx : CallFix p m c code 4 s #[Value.ref b] BW "WhiteElephantsLaw") (hr : meth.sig.returnType = ret) (hlocks : meth.locks = false) (hK : va_K D cls (TY cy) s) (hX : LX A s) (hSc : va_X b 6 xs s s.heap) (hbl : b < s.heap.size) {H : Heap} {locs : List Loc} {ls : Array Slot} (hl : lv_has ls 4 [(3, .int 0), (2, .ref (t 60)), (1, .ref (q 0)), (0, .ref b)]) (hP : va_P D cls (wX cy q ++ wM cy t) H) (hD : va_D A (wX cy q ++ wM cy t)) (hS : va_S A s.heap H locs) : W p l e room_1 s m #[Value.ref b] below meth c H locs 155 19939 (lw_Z below #[Value.ref b] s) (F0 m 911 ls []) := by
  have hx := Sx.1
  have hb := Sx.2.1
  have hbA : ¬ A b := fun h => absurd (hAe b h) (Nat.not_le.mpr hbl)
  refine lv_aload_n hx hb dd_L_law_911 rfl (lv_at hl 2 rfl) ?_
  refine lv_aload_n hx hb dd_L_law_912 rfl (lv_at hl 3 rfl) ?_
  refine lv_iload_n hx hb dd_L_law_913 rfl (lv_at hl 0 rfl) ?_
  refine lv_iconst (v := 1) hx hb dd_L_law_914 (by decide) ?_
  refine lv_iadd hx hb dd_L_law_915 ?_
  refine wk_int (v := 1) (by decide) ?_
  refine va_sld hx hb hSc hbl hbA hS (i := 1) (vi_of (by decide)) dd_L_law_916 ?_
  refine wk_int (v := xs 1) rfl ?_
  refine lv_aload_n hx hb dd_L_law_917 rfl (lv_at hl 3 rfl) ?_
  refine lv_iload_n hx hb dd_L_law_918 rfl (lv_at hl 0 rfl) ?_
  refine lv_iconst (v := 2) hx hb dd_L_law_919 (by decide) ?_
  refine lv_iadd hx hb dd_L_law_920 ?_
  refine wk_int (v := 2) (by decide) ?_
  refine va_sld hx hb hSc hbl hbA hS (i := 2) (vi_of (by decide)) dd_L_law_921 ?_
  refine wk_int (v := xs 2) rfl ?_
  refine hk_i (wr := (wM cy t)) (c1 := 155) (s1 := 19939) [0, 2, 5, 14] [113, 114, 115, 116, 117, 118, 119, 120, 121, 122, 123, 124, 125, 126, 127, 128, 129, 130, 131, 132, 133, 134, 135, 136, 137, 138, 139, 140, 141, 142, 143, 144, 145, 146, 147, 148, 149, 150, 151, 152, 153, 154] (hc_V [.int (xs 1), .int (xs 2)] [] [0, 2, 5, 14] Sx hl.1 ws_L_95 md_X11_price (c_X_price l D cy q (xs 1) (xs 2)) ⟨Nat.le_of_ble_eq_true rfl, Nat.le_of_ble_eq_true rfl⟩ hP hD rfl (by decide) hK nx_b (nx_w hX.1.1) (va_recv hK hP (ci := 11) (q0 := 0) rfl rfl) rfl rfl (Nat.le_of_ble_eq_true rfl) dd_L_law_922 ⟨Nat.le_of_ble_eq_true rfl, Nat.le_of_ble_eq_true rfl⟩) hS hA hP hD rfl rfl (by decide) (by decide) rfl rfl (fun r1 u2 H locs hw3 hP hD hS => ?_)
  have hP : va_P D cls (wM cy t) H := hP
  have hD : va_D A (wM cy t) := hD
  refine lv_aload_n hx hb dd_L_law_925 rfl (lv_at hl 1 rfl) ?_
  refine lv_aload_n hx hb dd_L_law_926 rfl (lv_at hl 3 rfl) ?_
  refine lv_iload_n hx hb dd_L_law_927 rfl (lv_at hl 0 rfl) ?_
  refine lv_iconst (v := 1) hx hb dd_L_law_928 (by decide) ?_
  refine lv_iadd hx hb dd_L_law_929 ?_
  refine wk_int (v := 1) (by decide) ?_
  refine va_sld hx hb hSc hbl hbA hS (i := 1) (vi_of (by decide)) dd_L_law_930 ?_
  refine wk_int (v := xs 1) rfl ?_
  refine lv_aload_n hx hb dd_L_law_931 rfl (lv_at hl 3 rfl) ?_
  refine lv_iload_n hx hb dd_L_law_932 rfl (lv_at hl 0 rfl) ?_
  refine lv_iconst (v := 2) hx hb dd_L_law_933 (by decide) ?_
  refine lv_iadd hx hb dd_L_law_934 ?_
  refine wk_int (v := 2) (by decide) ?_
  refine va_sld hx hb hSc hbl hbA hS (i := 2) (vi_of (by decide)) dd_L_law_935 ?_
  refine wk_int (v := xs 2) rfl ?_
  refine hk_i (wr := []) (c1 := 155) (s1 := 19939) [0, 29] [] (hc_V [.int (xs 1), .int (xs 2)] [.int r1] [0, 29] Sx hl.1 ws_L_98 md_X12_price (c_M_pub_price l D cy t (xs 1) (xs 2)) ⟨Nat.le_of_ble_eq_true rfl, Nat.le_of_ble_eq_true rfl⟩ hP hD rfl (by decide) hK nx_b (nx_w hX.1.1) (va_recv hK hP (ci := 12) (q0 := 0) rfl rfl) rfl rfl (Nat.le_of_ble_eq_true rfl) dd_L_law_936 ⟨Nat.le_of_ble_eq_true rfl, Nat.le_of_ble_eq_true rfl⟩) hS hA hP hD rfl rfl (by decide) (by decide) rfl rfl (fun r4 u5 H locs hw6 hP hD hS => ?_)
  refine lv_icmp_eq (tgt := 1731) hx hb dd_L_law_939 (by decide) (fun _ => ?_) (fun c => absurd (hw3.trans hw6.symm) c)
  exact law_again l A hAe Sx hr hlocks hSc hbl hS ls (lv_sub hl [0, 3] rfl)
set_option maxHeartbeats 4000000 in
set_option maxRecDepth 100000 in
theorem law_case_19 {p : Program} {e : Env} {s : State} {m : MethodId} {below : List Frame} {meth : Method} {c : Code} (l : Launch) (D : va_G) (cy : Nat → ClassId) (q t : Nat → Nat) (A : Nat → Prop) (hAe : ∀ w, A w → s.heap.size ≤ w) (hA : ∀ w, s.heap.size ≤ w → A w) {b : Nat} {xs : Nat → Int32} (Sx : CallFix p m c code 4 s #[Value.ref b] BW "WhiteElephantsLaw") (hr : meth.sig.returnType = ret) (hlocks : meth.locks = false) (hK : va_K D cls (TY cy) s) (hX : LX A s) (hSc : va_X b 6 xs s s.heap) (hbl : b < s.heap.size) {H : Heap} {locs : List Loc} {ls : Array Slot} (hl : lv_has ls 4 [(3, .int 0), (2, .ref (t 60)), (1, .ref (q 0)), (0, .ref b)]) (hP : va_P D cls (wX cy q ++ wM cy t) H) (hD : va_D A (wX cy q ++ wM cy t)) (hS : va_S A s.heap H locs) : W p l e room_1 s m #[Value.ref b] below meth c H locs 155 19939 (lw_Z below #[Value.ref b] s) (F0 m 944 ls []) := by
  have hx := Sx.1
  have hb := Sx.2.1
  have hbA : ¬ A b := fun h => absurd (hAe b h) (Nat.not_le.mpr hbl)
  refine lv_aload_n hx hb dd_L_law_944 rfl (lv_at hl 2 rfl) ?_
  refine lv_aload_n hx hb dd_L_law_945 rfl (lv_at hl 3 rfl) ?_
  refine lv_iload_n hx hb dd_L_law_946 rfl (lv_at hl 0 rfl) ?_
  refine lv_iconst (v := 1) hx hb dd_L_law_947 (by decide) ?_
  refine lv_iadd hx hb dd_L_law_948 ?_
  refine wk_int (v := 1) (by decide) ?_
  refine va_sld hx hb hSc hbl hbA hS (i := 1) (vi_of (by decide)) dd_L_law_949 ?_
  refine wk_int (v := xs 1) rfl ?_
  refine lv_aload_n hx hb dd_L_law_950 rfl (lv_at hl 3 rfl) ?_
  refine lv_iload_n hx hb dd_L_law_951 rfl (lv_at hl 0 rfl) ?_
  refine lv_iconst (v := 2) hx hb dd_L_law_952 (by decide) ?_
  refine lv_iadd hx hb dd_L_law_953 ?_
  refine wk_int (v := 2) (by decide) ?_
  refine va_sld hx hb hSc hbl hbA hS (i := 2) (vi_of (by decide)) dd_L_law_954 ?_
  refine wk_int (v := xs 2) rfl ?_
  refine hk_i (wr := (wM cy t)) (c1 := 155) (s1 := 19939) [0, 2, 5, 6] [113, 114, 115, 116, 117, 118, 119, 120, 121, 122, 123, 124, 125, 126, 127, 128, 129, 130, 131, 132, 133, 134, 135, 136, 137, 138, 139, 140, 141, 142, 143, 144, 145, 146, 147, 148, 149, 150, 151, 152, 153, 154] (hc_V [.int (xs 1), .int (xs 2)] [] [0, 2, 5, 6] Sx hl.1 ws_L_99 md_X11_mark (c_X_mark l D cy q (xs 1) (xs 2)) ⟨Nat.le_of_ble_eq_true rfl, Nat.le_of_ble_eq_true rfl⟩ hP hD rfl (by decide) hK nx_b (nx_w hX.1.1) (va_recv hK hP (ci := 11) (q0 := 0) rfl rfl) rfl rfl (Nat.le_of_ble_eq_true rfl) dd_L_law_955 ⟨Nat.le_of_ble_eq_true rfl, Nat.le_of_ble_eq_true rfl⟩) hS hA hP hD rfl rfl (by decide) (by decide) rfl rfl (fun r1 u2 H locs hw3 hP hD hS => ?_)
  have hP : va_P D cls (wM cy t) H := hP
  have hD : va_D A (wM cy t) := hD
  refine lv_aload_n hx hb dd_L_law_958 rfl (lv_at hl 1 rfl) ?_
  refine lv_aload_n hx hb dd_L_law_959 rfl (lv_at hl 3 rfl) ?_
  refine lv_iload_n hx hb dd_L_law_960 rfl (lv_at hl 0 rfl) ?_
  refine lv_iconst (v := 1) hx hb dd_L_law_961 (by decide) ?_
  refine lv_iadd hx hb dd_L_law_962 ?_
  refine wk_int (v := 1) (by decide) ?_
  refine va_sld hx hb hSc hbl hbA hS (i := 1) (vi_of (by decide)) dd_L_law_963 ?_
  refine wk_int (v := xs 1) rfl ?_
  refine lv_aload_n hx hb dd_L_law_964 rfl (lv_at hl 3 rfl) ?_
  refine lv_iload_n hx hb dd_L_law_965 rfl (lv_at hl 0 rfl) ?_
  refine lv_iconst (v := 2) hx hb dd_L_law_966 (by decide) ?_
  refine lv_iadd hx hb dd_L_law_967 ?_
  refine wk_int (v := 2) (by decide) ?_
  refine va_sld hx hb hSc hbl hbA hS (i := 2) (vi_of (by decide)) dd_L_law_968 ?_
  refine wk_int (v := xs 2) rfl ?_
  refine hk_i (wr := []) (c1 := 155) (s1 := 19939) [0, 29] [] (hc_V [.int (xs 1), .int (xs 2)] [.int r1] [0, 29] Sx hl.1 ws_L_102 md_X12_mark (c_M_pub_mark l D cy t (xs 1) (xs 2)) ⟨Nat.le_of_ble_eq_true rfl, Nat.le_of_ble_eq_true rfl⟩ hP hD rfl (by decide) hK nx_b (nx_w hX.1.1) (va_recv hK hP (ci := 12) (q0 := 0) rfl rfl) rfl rfl (Nat.le_of_ble_eq_true rfl) dd_L_law_969 ⟨Nat.le_of_ble_eq_true rfl, Nat.le_of_ble_eq_true rfl⟩) hS hA hP hD rfl rfl (by decide) (by decide) rfl rfl (fun r4 u5 H locs hw6 hP hD hS => ?_)
  refine lv_icmp_eq (tgt := 1731) hx hb dd_L_law_972 (by decide) (fun _ => ?_) (fun c => absurd (hw3.trans hw6.symm) c)
  exact law_again l A hAe Sx hr hlocks hSc hbl hS ls (lv_sub hl [0, 3] rfl)
set_option maxHeartbeats 4000000 in
set_option maxRecDepth 100000 in
theorem law_case_20 {p : Program} {e : Env} {s : State} {m : MethodId} {below : List Frame} {meth : Method} {c : Code} (l : Launch) (D : va_G) (cy : Nat → ClassId) (q t : Nat → Nat) (A : Nat → Prop) (hAe : ∀ w, A w → s.heap.size ≤ w) (hA : ∀ w, s.heap.size ≤ w → A w) {b : Nat} {xs : Nat → Int32} (Sx : CallFix p m c code 4 s #[Value.ref b] BW "WhiteElephantsLaw") (hr : meth.sig.returnType = ret) (hlocks : meth.locks = false) (hK : va_K D cls (TY cy) s) (hX : LX A s) (hSc : va_X b 6 xs s s.heap) (hbl : b < s.heap.size) {H : Heap} {locs : List Loc} {ls : Array Slot} (hl : lv_has ls 4 [(3, .int 0), (2, .ref (t 60)), (1, .ref (q 0)), (0, .ref b)]) (hP : va_P D cls (wX cy q ++ wM cy t) H) (hD : va_D A (wX cy q ++ wM cy t)) (hS : va_S A s.heap H locs) : W p l e room_1 s m #[Value.ref b] below meth c H locs 155 19939 (lw_Z below #[Value.ref b] s) (F0 m 977 ls []) := by
  have hx := Sx.1
  have hb := Sx.2.1
  have hbA : ¬ A b := fun h => absurd (hAe b h) (Nat.not_le.mpr hbl)
  refine lv_aload_n hx hb dd_L_law_977 rfl (lv_at hl 2 rfl) ?_
  refine lv_aload_n hx hb dd_L_law_978 rfl (lv_at hl 3 rfl) ?_
  refine lv_iload_n hx hb dd_L_law_979 rfl (lv_at hl 0 rfl) ?_
  refine lv_iconst (v := 1) hx hb dd_L_law_980 (by decide) ?_
  refine lv_iadd hx hb dd_L_law_981 ?_
  refine wk_int (v := 1) (by decide) ?_
  refine va_sld hx hb hSc hbl hbA hS (i := 1) (vi_of (by decide)) dd_L_law_982 ?_
  refine wk_int (v := xs 1) rfl ?_
  refine lv_aload_n hx hb dd_L_law_983 rfl (lv_at hl 3 rfl) ?_
  refine lv_iload_n hx hb dd_L_law_984 rfl (lv_at hl 0 rfl) ?_
  refine lv_iconst (v := 2) hx hb dd_L_law_985 (by decide) ?_
  refine lv_iadd hx hb dd_L_law_986 ?_
  refine wk_int (v := 2) (by decide) ?_
  refine va_sld hx hb hSc hbl hbA hS (i := 2) (vi_of (by decide)) dd_L_law_987 ?_
  refine wk_int (v := xs 2) rfl ?_
  refine lv_aload_n hx hb dd_L_law_988 rfl (lv_at hl 3 rfl) ?_
  refine lv_iload_n hx hb dd_L_law_989 rfl (lv_at hl 0 rfl) ?_
  refine lv_iconst (v := 3) hx hb dd_L_law_990 (by decide) ?_
  refine lv_iadd hx hb dd_L_law_991 ?_
  refine wk_int (v := 3) (by decide) ?_
  refine va_sld hx hb hSc hbl hbA hS (i := 3) (vi_of (by decide)) dd_L_law_992 ?_
  refine wk_int (v := xs 3) rfl ?_
  refine lv_aload_n hx hb dd_L_law_993 rfl (lv_at hl 3 rfl) ?_
  refine lv_iload_n hx hb dd_L_law_994 rfl (lv_at hl 0 rfl) ?_
  refine lv_iconst (v := 4) hx hb dd_L_law_995 (by decide) ?_
  refine lv_iadd hx hb dd_L_law_996 ?_
  refine wk_int (v := 4) (by decide) ?_
  refine va_sld hx hb hSc hbl hbA hS (i := 4) (vi_of (by decide)) dd_L_law_997 ?_
  refine wk_int (v := xs 4) rfl ?_
  refine hk_i (wr := (wM cy t)) (c1 := 155) (s1 := 19939) [0, 2, 5, 21, 22, 23, 24, 25, 26] [113, 114, 115, 116, 117, 118, 119, 120, 121, 122, 123, 124, 125, 126, 127, 128, 129, 130, 131, 132, 133, 134, 135, 136, 137, 138, 139, 140, 141, 142, 143, 144, 145, 146, 147, 148, 149, 150, 151, 152, 153, 154] (hc_V [.int (xs 1), .int (xs 2), .int (xs 3), .int (xs 4)] [] [0, 2, 5, 21, 22, 23, 24, 25, 26] Sx hl.1 ws_L_103 md_X11_buyer (c_X_buyer l D cy q (xs 1) (xs 2) (xs 3) (xs 4)) ⟨Nat.le_of_ble_eq_true rfl, Nat.le_of_ble_eq_true rfl⟩ hP hD rfl (by decide) hK nx_b (nx_w hX.1.1) (va_recv hK hP (ci := 11) (q0 := 0) rfl rfl) rfl rfl (Nat.le_of_ble_eq_true rfl) dd_L_law_998 ⟨Nat.le_of_ble_eq_true rfl, Nat.le_of_ble_eq_true rfl⟩) hS hA hP hD rfl rfl (by decide) (by decide) rfl rfl (fun r1 u2 H locs hw3 hP hD hS => ?_)
  have hP : va_P D cls (wM cy t) H := hP
  have hD : va_D A (wM cy t) := hD
  refine lv_aload_n hx hb dd_L_law_1001 rfl (lv_at hl 1 rfl) ?_
  refine lv_aload_n hx hb dd_L_law_1002 rfl (lv_at hl 3 rfl) ?_
  refine lv_iload_n hx hb dd_L_law_1003 rfl (lv_at hl 0 rfl) ?_
  refine lv_iconst (v := 1) hx hb dd_L_law_1004 (by decide) ?_
  refine lv_iadd hx hb dd_L_law_1005 ?_
  refine wk_int (v := 1) (by decide) ?_
  refine va_sld hx hb hSc hbl hbA hS (i := 1) (vi_of (by decide)) dd_L_law_1006 ?_
  refine wk_int (v := xs 1) rfl ?_
  refine lv_aload_n hx hb dd_L_law_1007 rfl (lv_at hl 3 rfl) ?_
  refine lv_iload_n hx hb dd_L_law_1008 rfl (lv_at hl 0 rfl) ?_
  refine lv_iconst (v := 2) hx hb dd_L_law_1009 (by decide) ?_
  refine lv_iadd hx hb dd_L_law_1010 ?_
  refine wk_int (v := 2) (by decide) ?_
  refine va_sld hx hb hSc hbl hbA hS (i := 2) (vi_of (by decide)) dd_L_law_1011 ?_
  refine wk_int (v := xs 2) rfl ?_
  refine lv_aload_n hx hb dd_L_law_1012 rfl (lv_at hl 3 rfl) ?_
  refine lv_iload_n hx hb dd_L_law_1013 rfl (lv_at hl 0 rfl) ?_
  refine lv_iconst (v := 3) hx hb dd_L_law_1014 (by decide) ?_
  refine lv_iadd hx hb dd_L_law_1015 ?_
  refine wk_int (v := 3) (by decide) ?_
  refine va_sld hx hb hSc hbl hbA hS (i := 3) (vi_of (by decide)) dd_L_law_1016 ?_
  refine wk_int (v := xs 3) rfl ?_
  refine lv_aload_n hx hb dd_L_law_1017 rfl (lv_at hl 3 rfl) ?_
  refine lv_iload_n hx hb dd_L_law_1018 rfl (lv_at hl 0 rfl) ?_
  refine lv_iconst (v := 4) hx hb dd_L_law_1019 (by decide) ?_
  refine lv_iadd hx hb dd_L_law_1020 ?_
  refine wk_int (v := 4) (by decide) ?_
  refine va_sld hx hb hSc hbl hbA hS (i := 4) (vi_of (by decide)) dd_L_law_1021 ?_
  refine wk_int (v := xs 4) rfl ?_
  refine hk_i (wr := []) (c1 := 155) (s1 := 19939) [0, 15, 16, 17, 18, 19, 29] [] (hc_V [.int (xs 1), .int (xs 2), .int (xs 3), .int (xs 4)] [.int r1] [0, 15, 16, 17, 18, 19, 29] Sx hl.1 ws_L_107 md_X12_buyer (c_M_pub_buyer l D cy t (xs 1) (xs 2) (xs 3) (xs 4)) ⟨Nat.le_of_ble_eq_true rfl, Nat.le_of_ble_eq_true rfl⟩ hP hD rfl (by decide) hK nx_b (nx_w hX.1.1) (va_recv hK hP (ci := 12) (q0 := 0) rfl rfl) rfl rfl (Nat.le_of_ble_eq_true rfl) dd_L_law_1022 ⟨Nat.le_of_ble_eq_true rfl, Nat.le_of_ble_eq_true rfl⟩) hS hA hP hD rfl rfl (by decide) (by decide) rfl rfl (fun r4 u5 H locs hw6 hP hD hS => ?_)
  refine lv_icmp_eq (tgt := 1731) hx hb dd_L_law_1025 (by decide) (fun _ => ?_) (fun c => absurd (if2_eq hw3 hw6) c)
  exact law_again l A hAe Sx hr hlocks hSc hbl hS ls (lv_sub hl [0, 3] rfl)
set_option maxHeartbeats 4000000 in
set_option maxRecDepth 100000 in
theorem law_case_21 {p : Program} {e : Env} {s : State} {m : MethodId} {below : List Frame} {meth : Method} {c : Code} (l : Launch) (D : va_G) (cy : Nat → ClassId) (q t : Nat → Nat) (A : Nat → Prop) (hAe : ∀ w, A w → s.heap.size ≤ w) (hA : ∀ w, s.heap.size ≤ w → A w) {b : Nat} {xs : Nat → Int32} (Sx : CallFix p m c code 4 s #[Value.ref b] BW "WhiteElephantsLaw") (hr : meth.sig.returnType = ret) (hlocks : meth.locks = false) (hK : va_K D cls (TY cy) s) (hX : LX A s) (hSc : va_X b 6 xs s s.heap) (hbl : b < s.heap.size) {H : Heap} {locs : List Loc} {ls : Array Slot} (hl : lv_has ls 4 [(3, .int 0), (2, .ref (t 60)), (1, .ref (q 0)), (0, .ref b)]) (hP : va_P D cls (wX cy q ++ wM cy t) H) (hD : va_D A (wX cy q ++ wM cy t)) (hS : va_S A s.heap H locs) : W p l e room_1 s m #[Value.ref b] below meth c H locs 155 19939 (lw_Z below #[Value.ref b] s) (F0 m 1030 ls []) := by
  have hx := Sx.1
  have hb := Sx.2.1
  have hbA : ¬ A b := fun h => absurd (hAe b h) (Nat.not_le.mpr hbl)
  refine lv_aload_n hx hb dd_L_law_1030 rfl (lv_at hl 2 rfl) ?_
  refine lv_aload_n hx hb dd_L_law_1031 rfl (lv_at hl 3 rfl) ?_
  refine lv_iload_n hx hb dd_L_law_1032 rfl (lv_at hl 0 rfl) ?_
  refine lv_iconst (v := 1) hx hb dd_L_law_1033 (by decide) ?_
  refine lv_iadd hx hb dd_L_law_1034 ?_
  refine wk_int (v := 1) (by decide) ?_
  refine va_sld hx hb hSc hbl hbA hS (i := 1) (vi_of (by decide)) dd_L_law_1035 ?_
  refine wk_int (v := xs 1) rfl ?_
  refine lv_aload_n hx hb dd_L_law_1036 rfl (lv_at hl 3 rfl) ?_
  refine lv_iload_n hx hb dd_L_law_1037 rfl (lv_at hl 0 rfl) ?_
  refine lv_iconst (v := 2) hx hb dd_L_law_1038 (by decide) ?_
  refine lv_iadd hx hb dd_L_law_1039 ?_
  refine wk_int (v := 2) (by decide) ?_
  refine va_sld hx hb hSc hbl hbA hS (i := 2) (vi_of (by decide)) dd_L_law_1040 ?_
  refine wk_int (v := xs 2) rfl ?_
  refine hk_i (wr := (wM cy t)) (c1 := 155) (s1 := 19939) [0, 2, 5, 21] [113, 114, 115, 116, 117, 118, 119, 120, 121, 122, 123, 124, 125, 126, 127, 128, 129, 130, 131, 132, 133, 134, 135, 136, 137, 138, 139, 140, 141, 142, 143, 144, 145, 146, 147, 148, 149, 150, 151, 152, 153, 154] (hc_V [.int (xs 1), .int (xs 2)] [] [0, 2, 5, 21] Sx hl.1 ws_L_108 md_X11_buyerOf (c_X_buyerOf l D cy q (xs 1) (xs 2)) ⟨Nat.le_of_ble_eq_true rfl, Nat.le_of_ble_eq_true rfl⟩ hP hD rfl (by decide) hK nx_b (nx_w hX.1.1) (va_recv hK hP (ci := 11) (q0 := 0) rfl rfl) rfl rfl (Nat.le_of_ble_eq_true rfl) dd_L_law_1041 ⟨Nat.le_of_ble_eq_true rfl, Nat.le_of_ble_eq_true rfl⟩) hS hA hP hD rfl rfl (by decide) (by decide) rfl rfl (fun r1 u2 H locs hw3 hP hD hS => ?_)
  have hP : va_P D cls (wM cy t) H := hP
  have hD : va_D A (wM cy t) := hD
  refine lv_aload_n hx hb dd_L_law_1044 rfl (lv_at hl 1 rfl) ?_
  refine lv_aload_n hx hb dd_L_law_1045 rfl (lv_at hl 3 rfl) ?_
  refine lv_iload_n hx hb dd_L_law_1046 rfl (lv_at hl 0 rfl) ?_
  refine lv_iconst (v := 1) hx hb dd_L_law_1047 (by decide) ?_
  refine lv_iadd hx hb dd_L_law_1048 ?_
  refine wk_int (v := 1) (by decide) ?_
  refine va_sld hx hb hSc hbl hbA hS (i := 1) (vi_of (by decide)) dd_L_law_1049 ?_
  refine wk_int (v := xs 1) rfl ?_
  refine lv_aload_n hx hb dd_L_law_1050 rfl (lv_at hl 3 rfl) ?_
  refine lv_iload_n hx hb dd_L_law_1051 rfl (lv_at hl 0 rfl) ?_
  refine lv_iconst (v := 2) hx hb dd_L_law_1052 (by decide) ?_
  refine lv_iadd hx hb dd_L_law_1053 ?_
  refine wk_int (v := 2) (by decide) ?_
  refine va_sld hx hb hSc hbl hbA hS (i := 2) (vi_of (by decide)) dd_L_law_1054 ?_
  refine wk_int (v := xs 2) rfl ?_
  refine hk_i (wr := []) (c1 := 155) (s1 := 19939) [0, 29] [] (hc_V [.int (xs 1), .int (xs 2)] [.int r1] [0, 29] Sx hl.1 ws_L_111 md_X12_buyerOf (c_M_pub_buyerOf l D cy t (xs 1) (xs 2)) ⟨Nat.le_of_ble_eq_true rfl, Nat.le_of_ble_eq_true rfl⟩ hP hD rfl (by decide) hK nx_b (nx_w hX.1.1) (va_recv hK hP (ci := 12) (q0 := 0) rfl rfl) rfl rfl (Nat.le_of_ble_eq_true rfl) dd_L_law_1055 ⟨Nat.le_of_ble_eq_true rfl, Nat.le_of_ble_eq_true rfl⟩) hS hA hP hD rfl rfl (by decide) (by decide) rfl rfl (fun r4 u5 H locs hw6 hP hD hS => ?_)
  refine lv_icmp_eq (tgt := 1731) hx hb dd_L_law_1058 (by decide) (fun _ => ?_) (fun c => absurd (hw3.trans hw6.symm) c)
  exact law_again l A hAe Sx hr hlocks hSc hbl hS ls (lv_sub hl [0, 3] rfl)
set_option maxHeartbeats 4000000 in
set_option maxRecDepth 100000 in
theorem law_case_22 {p : Program} {e : Env} {s : State} {m : MethodId} {below : List Frame} {meth : Method} {c : Code} (l : Launch) (D : va_G) (cy : Nat → ClassId) (q t : Nat → Nat) (A : Nat → Prop) (hAe : ∀ w, A w → s.heap.size ≤ w) (hA : ∀ w, s.heap.size ≤ w → A w) {b : Nat} {xs : Nat → Int32} (Sx : CallFix p m c code 4 s #[Value.ref b] BW "WhiteElephantsLaw") (hr : meth.sig.returnType = ret) (hlocks : meth.locks = false) (hK : va_K D cls (TY cy) s) (hX : LX A s) (hSc : va_X b 6 xs s s.heap) (hbl : b < s.heap.size) {H : Heap} {locs : List Loc} {ls : Array Slot} (hl : lv_has ls 4 [(3, .int 0), (2, .ref (t 60)), (1, .ref (q 0)), (0, .ref b)]) (hP : va_P D cls (wX cy q ++ wM cy t) H) (hD : va_D A (wX cy q ++ wM cy t)) (hS : va_S A s.heap H locs) : W p l e room_1 s m #[Value.ref b] below meth c H locs 155 19939 (lw_Z below #[Value.ref b] s) (F0 m 1063 ls []) := by
  have hx := Sx.1
  have hb := Sx.2.1
  have hbA : ¬ A b := fun h => absurd (hAe b h) (Nat.not_le.mpr hbl)
  refine lv_aload_n hx hb dd_L_law_1063 rfl (lv_at hl 2 rfl) ?_
  refine lv_aload_n hx hb dd_L_law_1064 rfl (lv_at hl 3 rfl) ?_
  refine lv_iload_n hx hb dd_L_law_1065 rfl (lv_at hl 0 rfl) ?_
  refine lv_iconst (v := 1) hx hb dd_L_law_1066 (by decide) ?_
  refine lv_iadd hx hb dd_L_law_1067 ?_
  refine wk_int (v := 1) (by decide) ?_
  refine va_sld hx hb hSc hbl hbA hS (i := 1) (vi_of (by decide)) dd_L_law_1068 ?_
  refine wk_int (v := xs 1) rfl ?_
  refine lv_aload_n hx hb dd_L_law_1069 rfl (lv_at hl 3 rfl) ?_
  refine lv_iload_n hx hb dd_L_law_1070 rfl (lv_at hl 0 rfl) ?_
  refine lv_iconst (v := 2) hx hb dd_L_law_1071 (by decide) ?_
  refine lv_iadd hx hb dd_L_law_1072 ?_
  refine wk_int (v := 2) (by decide) ?_
  refine va_sld hx hb hSc hbl hbA hS (i := 2) (vi_of (by decide)) dd_L_law_1073 ?_
  refine wk_int (v := xs 2) rfl ?_
  refine hk_i (wr := (wM cy t)) (c1 := 155) (s1 := 19939) [0, 2, 5] [113, 114, 115, 116, 117, 118, 119, 120, 121, 122, 123, 124, 125, 126, 127, 128, 129, 130, 131, 132, 133, 134, 135, 136, 137, 138, 139, 140, 141, 142, 143, 144, 145, 146, 147, 148, 149, 150, 151, 152, 153, 154] (hc_V [.int (xs 1), .int (xs 2)] [] [0, 2, 5] Sx hl.1 ws_L_112 md_X11_turn (c_X_turn l D cy q (xs 1) (xs 2)) ⟨Nat.le_of_ble_eq_true rfl, Nat.le_of_ble_eq_true rfl⟩ hP hD rfl (by decide) hK nx_b (nx_w hX.1.1) (va_recv hK hP (ci := 11) (q0 := 0) rfl rfl) rfl rfl (Nat.le_of_ble_eq_true rfl) dd_L_law_1074 ⟨Nat.le_of_ble_eq_true rfl, Nat.le_of_ble_eq_true rfl⟩) hS hA hP hD rfl rfl (by decide) (by decide) rfl rfl (fun r1 u2 H locs hw3 hP hD hS => ?_)
  have hP : va_P D cls (wM cy t) H := hP
  have hD : va_D A (wM cy t) := hD
  refine lv_aload_n hx hb dd_L_law_1077 rfl (lv_at hl 1 rfl) ?_
  refine lv_aload_n hx hb dd_L_law_1078 rfl (lv_at hl 3 rfl) ?_
  refine lv_iload_n hx hb dd_L_law_1079 rfl (lv_at hl 0 rfl) ?_
  refine lv_iconst (v := 1) hx hb dd_L_law_1080 (by decide) ?_
  refine lv_iadd hx hb dd_L_law_1081 ?_
  refine wk_int (v := 1) (by decide) ?_
  refine va_sld hx hb hSc hbl hbA hS (i := 1) (vi_of (by decide)) dd_L_law_1082 ?_
  refine wk_int (v := xs 1) rfl ?_
  refine lv_aload_n hx hb dd_L_law_1083 rfl (lv_at hl 3 rfl) ?_
  refine lv_iload_n hx hb dd_L_law_1084 rfl (lv_at hl 0 rfl) ?_
  refine lv_iconst (v := 2) hx hb dd_L_law_1085 (by decide) ?_
  refine lv_iadd hx hb dd_L_law_1086 ?_
  refine wk_int (v := 2) (by decide) ?_
  refine va_sld hx hb hSc hbl hbA hS (i := 2) (vi_of (by decide)) dd_L_law_1087 ?_
  refine wk_int (v := xs 2) rfl ?_
  refine hk_i (wr := []) (c1 := 155) (s1 := 19939) [0, 28, 29] [] (hc_V [.int (xs 1), .int (xs 2)] [.int r1] [0, 28, 29] Sx hl.1 ws_L_115 md_X12_turn (c_M_pub_turn l D cy t (xs 1) (xs 2)) ⟨Nat.le_of_ble_eq_true rfl, Nat.le_of_ble_eq_true rfl⟩ hP hD rfl (by decide) hK nx_b (nx_w hX.1.1) (va_recv hK hP (ci := 12) (q0 := 0) rfl rfl) rfl rfl (Nat.le_of_ble_eq_true rfl) dd_L_law_1088 ⟨Nat.le_of_ble_eq_true rfl, Nat.le_of_ble_eq_true rfl⟩) hS hA hP hD rfl rfl (by decide) (by decide) rfl rfl (fun r4 u5 H locs hw6 hP hD hS => ?_)
  refine lv_icmp_eq (tgt := 1731) hx hb dd_L_law_1091 (by decide) (fun _ => ?_) (fun c => absurd (if2_eq hw3 hw6) c)
  exact law_again l A hAe Sx hr hlocks hSc hbl hS ls (lv_sub hl [0, 3] rfl)
set_option maxHeartbeats 4000000 in
set_option maxRecDepth 100000 in
theorem law_case_23 {p : Program} {e : Env} {s : State} {m : MethodId} {below : List Frame} {meth : Method} {c : Code} (l : Launch) (D : va_G) (cy : Nat → ClassId) (q t : Nat → Nat) (A : Nat → Prop) (hAe : ∀ w, A w → s.heap.size ≤ w) (hA : ∀ w, s.heap.size ≤ w → A w) {b : Nat} {xs : Nat → Int32} (Sx : CallFix p m c code 4 s #[Value.ref b] BW "WhiteElephantsLaw") (hr : meth.sig.returnType = ret) (hlocks : meth.locks = false) (hK : va_K D cls (TY cy) s) (hX : LX A s) (hSc : va_X b 6 xs s s.heap) (hbl : b < s.heap.size) {H : Heap} {locs : List Loc} {ls : Array Slot} (hl : lv_has ls 4 [(3, .int 0), (2, .ref (t 60)), (1, .ref (q 0)), (0, .ref b)]) (hP : va_P D cls (wX cy q ++ wM cy t) H) (hD : va_D A (wX cy q ++ wM cy t)) (hS : va_S A s.heap H locs) : W p l e room_1 s m #[Value.ref b] below meth c H locs 155 19939 (lw_Z below #[Value.ref b] s) (F0 m 1096 ls []) := by
  have hx := Sx.1
  have hb := Sx.2.1
  have hbA : ¬ A b := fun h => absurd (hAe b h) (Nat.not_le.mpr hbl)
  refine lv_aload_n hx hb dd_L_law_1096 rfl (lv_at hl 2 rfl) ?_
  refine lv_aload_n hx hb dd_L_law_1097 rfl (lv_at hl 3 rfl) ?_
  refine lv_iload_n hx hb dd_L_law_1098 rfl (lv_at hl 0 rfl) ?_
  refine lv_iconst (v := 1) hx hb dd_L_law_1099 (by decide) ?_
  refine lv_iadd hx hb dd_L_law_1100 ?_
  refine wk_int (v := 1) (by decide) ?_
  refine va_sld hx hb hSc hbl hbA hS (i := 1) (vi_of (by decide)) dd_L_law_1101 ?_
  refine wk_int (v := xs 1) rfl ?_
  refine lv_aload_n hx hb dd_L_law_1102 rfl (lv_at hl 3 rfl) ?_
  refine lv_iload_n hx hb dd_L_law_1103 rfl (lv_at hl 0 rfl) ?_
  refine lv_iconst (v := 2) hx hb dd_L_law_1104 (by decide) ?_
  refine lv_iadd hx hb dd_L_law_1105 ?_
  refine wk_int (v := 2) (by decide) ?_
  refine va_sld hx hb hSc hbl hbA hS (i := 2) (vi_of (by decide)) dd_L_law_1106 ?_
  refine wk_int (v := xs 2) rfl ?_
  refine hk_i (wr := (wM cy t)) (c1 := 155) (s1 := 19939) [0, 2, 5, 6] [113, 114, 115, 116, 117, 118, 119, 120, 121, 122, 123, 124, 125, 126, 127, 128, 129, 130, 131, 132, 133, 134, 135, 136, 137, 138, 139, 140, 141, 142, 143, 144, 145, 146, 147, 148, 149, 150, 151, 152, 153, 154] (hc_V [.int (xs 1), .int (xs 2)] [] [0, 2, 5, 6] Sx hl.1 ws_L_116 md_X11_costs (c_X_costs l D cy q (xs 1) (xs 2)) ⟨Nat.le_of_ble_eq_true rfl, Nat.le_of_ble_eq_true rfl⟩ hP hD rfl (by decide) hK nx_b (nx_w hX.1.1) (va_recv hK hP (ci := 11) (q0 := 0) rfl rfl) rfl rfl (Nat.le_of_ble_eq_true rfl) dd_L_law_1107 ⟨Nat.le_of_ble_eq_true rfl, Nat.le_of_ble_eq_true rfl⟩) hS hA hP hD rfl rfl (by decide) (by decide) rfl rfl (fun r1 u2 H locs hw3 hP hD hS => ?_)
  have hP : va_P D cls (wM cy t) H := hP
  have hD : va_D A (wM cy t) := hD
  refine lv_aload_n hx hb dd_L_law_1110 rfl (lv_at hl 1 rfl) ?_
  refine lv_aload_n hx hb dd_L_law_1111 rfl (lv_at hl 3 rfl) ?_
  refine lv_iload_n hx hb dd_L_law_1112 rfl (lv_at hl 0 rfl) ?_
  refine lv_iconst (v := 1) hx hb dd_L_law_1113 (by decide) ?_
  refine lv_iadd hx hb dd_L_law_1114 ?_
  refine wk_int (v := 1) (by decide) ?_
  refine va_sld hx hb hSc hbl hbA hS (i := 1) (vi_of (by decide)) dd_L_law_1115 ?_
  refine wk_int (v := xs 1) rfl ?_
  refine lv_aload_n hx hb dd_L_law_1116 rfl (lv_at hl 3 rfl) ?_
  refine lv_iload_n hx hb dd_L_law_1117 rfl (lv_at hl 0 rfl) ?_
  refine lv_iconst (v := 2) hx hb dd_L_law_1118 (by decide) ?_
  refine lv_iadd hx hb dd_L_law_1119 ?_
  refine wk_int (v := 2) (by decide) ?_
  refine va_sld hx hb hSc hbl hbA hS (i := 2) (vi_of (by decide)) dd_L_law_1120 ?_
  refine wk_int (v := xs 2) rfl ?_
  refine hk_i (wr := []) (c1 := 155) (s1 := 19939) [0, 29] [] (hc_V [.int (xs 1), .int (xs 2)] [.int r1] [0, 29] Sx hl.1 ws_L_119 md_X12_costs (c_M_pub_costs l D cy t (xs 1) (xs 2)) ⟨Nat.le_of_ble_eq_true rfl, Nat.le_of_ble_eq_true rfl⟩ hP hD rfl (by decide) hK nx_b (nx_w hX.1.1) (va_recv hK hP (ci := 12) (q0 := 0) rfl rfl) rfl rfl (Nat.le_of_ble_eq_true rfl) dd_L_law_1121 ⟨Nat.le_of_ble_eq_true rfl, Nat.le_of_ble_eq_true rfl⟩) hS hA hP hD rfl rfl (by decide) (by decide) rfl rfl (fun r4 u5 H locs hw6 hP hD hS => ?_)
  refine lv_icmp_eq (tgt := 1731) hx hb dd_L_law_1124 (by decide) (fun _ => ?_) (fun c => absurd (hw3.trans hw6.symm) c)
  exact law_again l A hAe Sx hr hlocks hSc hbl hS ls (lv_sub hl [0, 3] rfl)
