set_option maxHeartbeats 4000000 in
set_option maxRecDepth 100000 in
theorem law_case_24 {p : Program} {e : Env} {s : State} {m : MethodId} {below : List Frame} {meth : Method} {c : Code} (l : Launch) (D : va_G) (cy : Nat → ClassId) (q t : Nat → Nat) (A : Nat → Prop) (hAe : ∀ w, A w → s.heap.size ≤ w) (hA : ∀ w, s.heap.size ≤ w → A w) {b : Nat} {xs : Nat → Int32} (Sx : CallFix p m c code 4 s #[Value.ref b] BW "WhiteElephantsLaw") (hr : meth.sig.returnType = ret) (hlocks : meth.locks = false) (hK : va_K D cls (TY cy) s) (hX : LX A s) (hSc : va_X b 6 xs s s.heap) (hbl : b < s.heap.size) {H : Heap} {locs : List Loc} {ls : Array Slot} (hl : lv_has ls 4 [(3, .int 0), (2, .ref (t 60)), (1, .ref (q 0)), (0, .ref b)]) (hP : va_P D cls (wX cy q ++ wM cy t) H) (hD : va_D A (wX cy q ++ wM cy t)) (hS : va_S A s.heap H locs) : W p l e room_1 s m #[Value.ref b] below meth c H locs 155 19939 (lw_Z below #[Value.ref b] s) (F0 m 1129 ls []) := by
  have hx := Sx.1
  have hb := Sx.2.1
  have hbA : ¬ A b := fun h => absurd (hAe b h) (Nat.not_le.mpr hbl)
  refine lv_aload_n hx hb dd_L_law_1129 rfl (lv_at hl 2 rfl) ?_
  refine lv_aload_n hx hb dd_L_law_1130 rfl (lv_at hl 3 rfl) ?_
  refine lv_iload_n hx hb dd_L_law_1131 rfl (lv_at hl 0 rfl) ?_
  refine lv_iconst (v := 1) hx hb dd_L_law_1132 (by decide) ?_
  refine lv_iadd hx hb dd_L_law_1133 ?_
  refine wk_int (v := 1) (by decide) ?_
  refine va_sld hx hb hSc hbl hbA hS (i := 1) (vi_of (by decide)) dd_L_law_1134 ?_
  refine wk_int (v := xs 1) rfl ?_
  refine lv_aload_n hx hb dd_L_law_1135 rfl (lv_at hl 3 rfl) ?_
  refine lv_iload_n hx hb dd_L_law_1136 rfl (lv_at hl 0 rfl) ?_
  refine lv_iconst (v := 2) hx hb dd_L_law_1137 (by decide) ?_
  refine lv_iadd hx hb dd_L_law_1138 ?_
  refine wk_int (v := 2) (by decide) ?_
  refine va_sld hx hb hSc hbl hbA hS (i := 2) (vi_of (by decide)) dd_L_law_1139 ?_
  refine wk_int (v := xs 2) rfl ?_
  refine hk_i (wr := (wM cy t)) (c1 := 155) (s1 := 19939) [0, 2, 5, 21] [113, 114, 115, 116, 117, 118, 119, 120, 121, 122, 123, 124, 125, 126, 127, 128, 129, 130, 131, 132, 133, 134, 135, 136, 137, 138, 139, 140, 141, 142, 143, 144, 145, 146, 147, 148, 149, 150, 151, 152, 153, 154] (hc_V [.int (xs 1), .int (xs 2)] [] [0, 2, 5, 21] Sx hl.1 ws_L_120 md_X11_takes (c_X_takes l D cy q (xs 1) (xs 2)) ⟨Nat.le_of_ble_eq_true rfl, Nat.le_of_ble_eq_true rfl⟩ hP hD rfl (by decide) hK nx_b (nx_w hX.1.1) (va_recv hK hP (ci := 11) (q0 := 0) rfl rfl) rfl rfl (Nat.le_of_ble_eq_true rfl) dd_L_law_1140 ⟨Nat.le_of_ble_eq_true rfl, Nat.le_of_ble_eq_true rfl⟩) hS hA hP hD rfl rfl (by decide) (by decide) rfl rfl (fun r1 u2 H locs hw3 hP hD hS => ?_)
  have hP : va_P D cls (wM cy t) H := hP
  have hD : va_D A (wM cy t) := hD
  refine lv_aload_n hx hb dd_L_law_1143 rfl (lv_at hl 1 rfl) ?_
  refine lv_aload_n hx hb dd_L_law_1144 rfl (lv_at hl 3 rfl) ?_
  refine lv_iload_n hx hb dd_L_law_1145 rfl (lv_at hl 0 rfl) ?_
  refine lv_iconst (v := 1) hx hb dd_L_law_1146 (by decide) ?_
  refine lv_iadd hx hb dd_L_law_1147 ?_
  refine wk_int (v := 1) (by decide) ?_
  refine va_sld hx hb hSc hbl hbA hS (i := 1) (vi_of (by decide)) dd_L_law_1148 ?_
  refine wk_int (v := xs 1) rfl ?_
  refine lv_aload_n hx hb dd_L_law_1149 rfl (lv_at hl 3 rfl) ?_
  refine lv_iload_n hx hb dd_L_law_1150 rfl (lv_at hl 0 rfl) ?_
  refine lv_iconst (v := 2) hx hb dd_L_law_1151 (by decide) ?_
  refine lv_iadd hx hb dd_L_law_1152 ?_
  refine wk_int (v := 2) (by decide) ?_
  refine va_sld hx hb hSc hbl hbA hS (i := 2) (vi_of (by decide)) dd_L_law_1153 ?_
  refine wk_int (v := xs 2) rfl ?_
  refine hk_i (wr := []) (c1 := 155) (s1 := 19939) [0, 29] [] (hc_V [.int (xs 1), .int (xs 2)] [.int r1] [0, 29] Sx hl.1 ws_L_123 md_X12_takes (c_M_pub_takes l D cy t (xs 1) (xs 2)) ⟨Nat.le_of_ble_eq_true rfl, Nat.le_of_ble_eq_true rfl⟩ hP hD rfl (by decide) hK nx_b (nx_w hX.1.1) (va_recv hK hP (ci := 12) (q0 := 0) rfl rfl) rfl rfl (Nat.le_of_ble_eq_true rfl) dd_L_law_1154 ⟨Nat.le_of_ble_eq_true rfl, Nat.le_of_ble_eq_true rfl⟩) hS hA hP hD rfl rfl (by decide) (by decide) rfl rfl (fun r4 u5 H locs hw6 hP hD hS => ?_)
  refine lv_icmp_eq (tgt := 1731) hx hb dd_L_law_1157 (by decide) (fun _ => ?_) (fun c => absurd (hw3.trans hw6.symm) c)
  exact law_again l A hAe Sx hr hlocks hSc hbl hS ls (lv_sub hl [0, 3] rfl)
set_option maxHeartbeats 4000000 in
set_option maxRecDepth 100000 in
theorem law_case_25 {p : Program} {e : Env} {s : State} {m : MethodId} {below : List Frame} {meth : Method} {c : Code} (l : Launch) (D : va_G) (cy : Nat → ClassId) (q t : Nat → Nat) (A : Nat → Prop) (hAe : ∀ w, A w → s.heap.size ≤ w) (hA : ∀ w, s.heap.size ≤ w → A w) {b : Nat} {xs : Nat → Int32} (Sx : CallFix p m c code 4 s #[Value.ref b] BW "WhiteElephantsLaw") (hr : meth.sig.returnType = ret) (hlocks : meth.locks = false) (hK : va_K D cls (TY cy) s) (hX : LX A s) (hSc : va_X b 6 xs s s.heap) (hbl : b < s.heap.size) {H : Heap} {locs : List Loc} {ls : Array Slot} (hl : lv_has ls 4 [(3, .int 0), (2, .ref (t 60)), (1, .ref (q 0)), (0, .ref b)]) (hP : va_P D cls (wX cy q ++ wM cy t) H) (hD : va_D A (wX cy q ++ wM cy t)) (hS : va_S A s.heap H locs) : W p l e room_1 s m #[Value.ref b] below meth c H locs 155 19939 (lw_Z below #[Value.ref b] s) (F0 m 1162 ls []) := by
  have hx := Sx.1
  have hb := Sx.2.1
  have hbA : ¬ A b := fun h => absurd (hAe b h) (Nat.not_le.mpr hbl)
  refine lv_aload_n hx hb dd_L_law_1162 rfl (lv_at hl 2 rfl) ?_
  refine lv_aload_n hx hb dd_L_law_1163 rfl (lv_at hl 3 rfl) ?_
  refine lv_iload_n hx hb dd_L_law_1164 rfl (lv_at hl 0 rfl) ?_
  refine lv_iconst (v := 1) hx hb dd_L_law_1165 (by decide) ?_
  refine lv_iadd hx hb dd_L_law_1166 ?_
  refine wk_int (v := 1) (by decide) ?_
  refine va_sld hx hb hSc hbl hbA hS (i := 1) (vi_of (by decide)) dd_L_law_1167 ?_
  refine wk_int (v := xs 1) rfl ?_
  refine lv_aload_n hx hb dd_L_law_1168 rfl (lv_at hl 3 rfl) ?_
  refine lv_iload_n hx hb dd_L_law_1169 rfl (lv_at hl 0 rfl) ?_
  refine lv_iconst (v := 2) hx hb dd_L_law_1170 (by decide) ?_
  refine lv_iadd hx hb dd_L_law_1171 ?_
  refine wk_int (v := 2) (by decide) ?_
  refine va_sld hx hb hSc hbl hbA hS (i := 2) (vi_of (by decide)) dd_L_law_1172 ?_
  refine wk_int (v := xs 2) rfl ?_
  refine hk_i (wr := (wM cy t)) (c1 := 155) (s1 := 19939) [0, 2, 5, 6, 21, 87] [113, 114, 115, 116, 117, 118, 119, 120, 121, 122, 123, 124, 125, 126, 127, 128, 129, 130, 131, 132, 133, 134, 135, 136, 137, 138, 139, 140, 141, 142, 143, 144, 145, 146, 147, 148, 149, 150, 151, 152, 153, 154] (hc_V [.int (xs 1), .int (xs 2)] [] [0, 2, 5, 6, 21, 87] Sx hl.1 ws_L_124 md_X11_takings (c_X_takings l D cy q (xs 1) (xs 2)) ⟨Nat.le_of_ble_eq_true rfl, Nat.le_of_ble_eq_true rfl⟩ hP hD rfl (by decide) hK nx_b (nx_w hX.1.1) (va_recv hK hP (ci := 11) (q0 := 0) rfl rfl) rfl rfl (Nat.le_of_ble_eq_true rfl) dd_L_law_1173 ⟨Nat.le_of_ble_eq_true rfl, Nat.le_of_ble_eq_true rfl⟩) hS hA hP hD rfl rfl (by decide) (by decide) rfl rfl (fun r1 u2 H locs hw3 hP hD hS => ?_)
  have hP : va_P D cls (wM cy t) H := hP
  have hD : va_D A (wM cy t) := hD
  refine lv_aload_n hx hb dd_L_law_1176 rfl (lv_at hl 1 rfl) ?_
  refine lv_aload_n hx hb dd_L_law_1177 rfl (lv_at hl 3 rfl) ?_
  refine lv_iload_n hx hb dd_L_law_1178 rfl (lv_at hl 0 rfl) ?_
  refine lv_iconst (v := 1) hx hb dd_L_law_1179 (by decide) ?_
  refine lv_iadd hx hb dd_L_law_1180 ?_
  refine wk_int (v := 1) (by decide) ?_
  refine va_sld hx hb hSc hbl hbA hS (i := 1) (vi_of (by decide)) dd_L_law_1181 ?_
  refine wk_int (v := xs 1) rfl ?_
  refine lv_aload_n hx hb dd_L_law_1182 rfl (lv_at hl 3 rfl) ?_
  refine lv_iload_n hx hb dd_L_law_1183 rfl (lv_at hl 0 rfl) ?_
  refine lv_iconst (v := 2) hx hb dd_L_law_1184 (by decide) ?_
  refine lv_iadd hx hb dd_L_law_1185 ?_
  refine wk_int (v := 2) (by decide) ?_
  refine va_sld hx hb hSc hbl hbA hS (i := 2) (vi_of (by decide)) dd_L_law_1186 ?_
  refine wk_int (v := xs 2) rfl ?_
  refine hk_i (wr := []) (c1 := 155) (s1 := 19939) [0, 32, 33, 28, 29] [] (hc_V [.int (xs 1), .int (xs 2)] [.int r1] [0, 32, 33, 28, 29] Sx hl.1 ws_L_127 md_X12_takings (c_M_pub_takings l D cy t (xs 1) (xs 2)) ⟨Nat.le_of_ble_eq_true rfl, Nat.le_of_ble_eq_true rfl⟩ hP hD rfl (by decide) hK nx_b (nx_w hX.1.1) (va_recv hK hP (ci := 12) (q0 := 0) rfl rfl) rfl rfl (Nat.le_of_ble_eq_true rfl) dd_L_law_1187 ⟨Nat.le_of_ble_eq_true rfl, Nat.le_of_ble_eq_true rfl⟩) hS hA hP hD rfl rfl (by decide) (by decide) rfl rfl (fun r4 u5 H locs hw6 hP hD hS => ?_)
  refine lv_icmp_eq (tgt := 1731) hx hb dd_L_law_1190 (by decide) (fun _ => ?_) (fun c => absurd (if2_eq hw3 hw6) c)
  exact law_again l A hAe Sx hr hlocks hSc hbl hS ls (lv_sub hl [0, 3] rfl)
set_option maxHeartbeats 4000000 in
set_option maxRecDepth 100000 in
theorem law_case_26 {p : Program} {e : Env} {s : State} {m : MethodId} {below : List Frame} {meth : Method} {c : Code} (l : Launch) (D : va_G) (cy : Nat → ClassId) (q t : Nat → Nat) (A : Nat → Prop) (hAe : ∀ w, A w → s.heap.size ≤ w) (hA : ∀ w, s.heap.size ≤ w → A w) {b : Nat} {xs : Nat → Int32} (Sx : CallFix p m c code 4 s #[Value.ref b] BW "WhiteElephantsLaw") (hr : meth.sig.returnType = ret) (hlocks : meth.locks = false) (hK : va_K D cls (TY cy) s) (hX : LX A s) (hSc : va_X b 6 xs s s.heap) (hbl : b < s.heap.size) {H : Heap} {locs : List Loc} {ls : Array Slot} (hl : lv_has ls 4 [(3, .int 0), (2, .ref (t 60)), (1, .ref (q 0)), (0, .ref b)]) (hP : va_P D cls (wX cy q ++ wM cy t) H) (hD : va_D A (wX cy q ++ wM cy t)) (hS : va_S A s.heap H locs) : W p l e room_1 s m #[Value.ref b] below meth c H locs 155 19939 (lw_Z below #[Value.ref b] s) (F0 m 1195 ls []) := by
  have hx := Sx.1
  have hb := Sx.2.1
  have hbA : ¬ A b := fun h => absurd (hAe b h) (Nat.not_le.mpr hbl)
  refine lv_aload_n hx hb dd_L_law_1195 rfl (lv_at hl 2 rfl) ?_
  refine hk_i (wr := (wM cy t)) (c1 := 155) (s1 := 19939) [0, 5, 6, 21, 87] [113, 114, 115, 116, 117, 118, 119, 120, 121, 122, 123, 124, 125, 126, 127, 128, 129, 130, 131, 132, 133, 134, 135, 136, 137, 138, 139, 140, 141, 142, 143, 144, 145, 146, 147, 148, 149, 150, 151, 152, 153, 154] (hc_V [] [] [0, 5, 6, 21, 87] Sx hl.1 ws_L_128 md_X11_best (c_X_best l D cy q) ⟨Nat.le_of_ble_eq_true rfl, Nat.le_of_ble_eq_true rfl⟩ hP hD rfl (by decide) hK nx_b (nx_w hX.1.1) (va_recv hK hP (ci := 11) (q0 := 0) rfl rfl) rfl rfl (Nat.le_of_ble_eq_true rfl) dd_L_law_1196 ⟨Nat.le_of_ble_eq_true rfl, Nat.le_of_ble_eq_true rfl⟩) hS hA hP hD rfl rfl (by decide) (by decide) rfl rfl (fun r1 u2 H locs hw3 hP hD hS => ?_)
  have hP : va_P D cls (wM cy t) H := hP
  have hD : va_D A (wM cy t) := hD
  refine lv_aload_n hx hb dd_L_law_1199 rfl (lv_at hl 1 rfl) ?_
  refine pk_i (pc_V [] [.int r1] Sx hl.1 ws_L_131 md_X12_best (c_M_pub_best l D cy t) ⟨rfl, rfl⟩ ⟨Nat.le_of_ble_eq_true rfl, Nat.le_of_ble_eq_true rfl⟩ (hP.sub [0] rfl) hK ns_b (ns_w hX.1.1) (va_recv hK hP (ci := 12) (q0 := 0) rfl rfl) rfl rfl (Nat.le_of_ble_eq_true rfl) dd_L_law_1200 ⟨Nat.le_of_ble_eq_true rfl, Nat.le_of_ble_eq_true rfl⟩) (fun r4 hw5 => ?_)
  refine lv_icmp_eq (tgt := 1731) hx hb dd_L_law_1203 (by decide) (fun _ => ?_) (fun c => absurd (hw3.trans hw5.symm) c)
  exact law_again l A hAe Sx hr hlocks hSc hbl hS ls (lv_sub hl [0, 3] rfl)
set_option maxHeartbeats 4000000 in
set_option maxRecDepth 100000 in
theorem law_case_27 {p : Program} {e : Env} {s : State} {m : MethodId} {below : List Frame} {meth : Method} {c : Code} (l : Launch) (D : va_G) (cy : Nat → ClassId) (q t : Nat → Nat) (A : Nat → Prop) (hAe : ∀ w, A w → s.heap.size ≤ w) (hA : ∀ w, s.heap.size ≤ w → A w) {b : Nat} {xs : Nat → Int32} (Sx : CallFix p m c code 4 s #[Value.ref b] BW "WhiteElephantsLaw") (hr : meth.sig.returnType = ret) (hlocks : meth.locks = false) (hK : va_K D cls (TY cy) s) (hX : LX A s) (hSc : va_X b 6 xs s s.heap) (hbl : b < s.heap.size) {H : Heap} {locs : List Loc} {ls : Array Slot} (hl : lv_has ls 4 [(3, .int 0), (2, .ref (t 60)), (1, .ref (q 0)), (0, .ref b)]) (hP : va_P D cls (wX cy q ++ wM cy t) H) (hD : va_D A (wX cy q ++ wM cy t)) (hS : va_S A s.heap H locs) : W p l e room_1 s m #[Value.ref b] below meth c H locs 155 19939 (lw_Z below #[Value.ref b] s) (F0 m 1208 ls []) := by
  have hx := Sx.1
  have hb := Sx.2.1
  have hbA : ¬ A b := fun h => absurd (hAe b h) (Nat.not_le.mpr hbl)
  refine lv_aload_n hx hb dd_L_law_1208 rfl (lv_at hl 2 rfl) ?_
  refine lv_aload_n hx hb dd_L_law_1209 rfl (lv_at hl 3 rfl) ?_
  refine lv_iload_n hx hb dd_L_law_1210 rfl (lv_at hl 0 rfl) ?_
  refine lv_iconst (v := 1) hx hb dd_L_law_1211 (by decide) ?_
  refine lv_iadd hx hb dd_L_law_1212 ?_
  refine wk_int (v := 1) (by decide) ?_
  refine va_sld hx hb hSc hbl hbA hS (i := 1) (vi_of (by decide)) dd_L_law_1213 ?_
  refine wk_int (v := xs 1) rfl ?_
  refine hk_i (wr := (wM cy t)) (c1 := 155) (s1 := 19939) [0, 1, 2, 97, 98, 99, 100, 101, 102, 103, 104, 105, 106, 107, 108, 109, 110, 111, 112] [113, 114, 115, 116, 117, 118, 119, 120, 121, 122, 123, 124, 125, 126, 127, 128, 129, 130, 131, 132, 133, 134, 135, 136, 137, 138, 139, 140, 141, 142, 143, 144, 145, 146, 147, 148, 149, 150, 151, 152, 153, 154] (hc_V [.int (xs 1)] [] [0, 1, 2, 97, 98, 99, 100, 101, 102, 103, 104, 105, 106, 107, 108, 109, 110, 111, 112] Sx hl.1 ws_L_132 md_X11_judge (c_X_judge l D cy q (xs 1)) ⟨Nat.le_of_ble_eq_true rfl, Nat.le_of_ble_eq_true rfl⟩ hP hD rfl (by decide) hK nx_b (nx_w hX.1.1) (va_recv hK hP (ci := 11) (q0 := 0) rfl rfl) rfl rfl (Nat.le_of_ble_eq_true rfl) dd_L_law_1214 ⟨Nat.le_of_ble_eq_true rfl, Nat.le_of_ble_eq_true rfl⟩) hS hA hP hD rfl rfl (by decide) (by decide) rfl rfl (fun r1 u2 H locs hw3 hP hD hS => ?_)
  have hP : va_P D cls (wM cy t) H := hP
  have hD : va_D A (wM cy t) := hD
  refine lv_aload_n hx hb dd_L_law_1217 rfl (lv_at hl 1 rfl) ?_
  refine lv_aload_n hx hb dd_L_law_1218 rfl (lv_at hl 3 rfl) ?_
  refine lv_iload_n hx hb dd_L_law_1219 rfl (lv_at hl 0 rfl) ?_
  refine lv_iconst (v := 1) hx hb dd_L_law_1220 (by decide) ?_
  refine lv_iadd hx hb dd_L_law_1221 ?_
  refine wk_int (v := 1) (by decide) ?_
  refine va_sld hx hb hSc hbl hbA hS (i := 1) (vi_of (by decide)) dd_L_law_1222 ?_
  refine wk_int (v := xs 1) rfl ?_
  refine hk_i (wr := []) (c1 := 155) (s1 := 19939) [0, 1, 29] [] (hc_V [.int (xs 1)] [.int r1] [0, 1, 29] Sx hl.1 ws_L_135 md_X12_judge (c_M_pub_judge l D cy t (xs 1)) ⟨Nat.le_of_ble_eq_true rfl, Nat.le_of_ble_eq_true rfl⟩ hP hD rfl (by decide) hK nx_b (nx_w hX.1.1) (va_recv hK hP (ci := 12) (q0 := 0) rfl rfl) rfl rfl (Nat.le_of_ble_eq_true rfl) dd_L_law_1223 ⟨Nat.le_of_ble_eq_true rfl, Nat.le_of_ble_eq_true rfl⟩) hS hA hP hD rfl rfl (by decide) (by decide) rfl rfl (fun r4 u5 H locs hw6 hP hD hS => ?_)
  refine lv_icmp_eq (tgt := 1731) hx hb dd_L_law_1226 (by decide) (fun _ => ?_) (fun c => absurd (if2_eq hw3 hw6) c)
  exact law_again l A hAe Sx hr hlocks hSc hbl hS ls (lv_sub hl [0, 3] rfl)
set_option maxHeartbeats 4000000 in
set_option maxRecDepth 100000 in
theorem law_case_28 {p : Program} {e : Env} {s : State} {m : MethodId} {below : List Frame} {meth : Method} {c : Code} (l : Launch) (D : va_G) (cy : Nat → ClassId) (q t : Nat → Nat) (A : Nat → Prop) (hAe : ∀ w, A w → s.heap.size ≤ w) (hA : ∀ w, s.heap.size ≤ w → A w) {b : Nat} {xs : Nat → Int32} (Sx : CallFix p m c code 4 s #[Value.ref b] BW "WhiteElephantsLaw") (hr : meth.sig.returnType = ret) (hlocks : meth.locks = false) (hK : va_K D cls (TY cy) s) (hX : LX A s) (hSc : va_X b 6 xs s s.heap) (hbl : b < s.heap.size) {H : Heap} {locs : List Loc} {ls : Array Slot} (hl : lv_has ls 4 [(3, .int 0), (2, .ref (t 60)), (1, .ref (q 0)), (0, .ref b)]) (hP : va_P D cls (wX cy q ++ wM cy t) H) (hD : va_D A (wX cy q ++ wM cy t)) (hS : va_S A s.heap H locs) : W p l e room_1 s m #[Value.ref b] below meth c H locs 155 19939 (lw_Z below #[Value.ref b] s) (F0 m 1231 ls []) := by
  have hx := Sx.1
  have hb := Sx.2.1
  have hbA : ¬ A b := fun h => absurd (hAe b h) (Nat.not_le.mpr hbl)
  refine lv_aload_n hx hb dd_L_law_1231 rfl (lv_at hl 2 rfl) ?_
  refine lv_aload_n hx hb dd_L_law_1232 rfl (lv_at hl 3 rfl) ?_
  refine lv_iload_n hx hb dd_L_law_1233 rfl (lv_at hl 0 rfl) ?_
  refine lv_iconst (v := 1) hx hb dd_L_law_1234 (by decide) ?_
  refine lv_iadd hx hb dd_L_law_1235 ?_
  refine wk_int (v := 1) (by decide) ?_
  refine va_sld hx hb hSc hbl hbA hS (i := 1) (vi_of (by decide)) dd_L_law_1236 ?_
  refine wk_int (v := xs 1) rfl ?_
  refine hk_i (wr := (wM cy t)) (c1 := 155) (s1 := 19939) [0, 2, 5, 6] [113, 114, 115, 116, 117, 118, 119, 120, 121, 122, 123, 124, 125, 126, 127, 128, 129, 130, 131, 132, 133, 134, 135, 136, 137, 138, 139, 140, 141, 142, 143, 144, 145, 146, 147, 148, 149, 150, 151, 152, 153, 154] (hc_V [.int (xs 1)] [] [0, 2, 5, 6] Sx hl.1 ws_L_136 md_X11_rest (c_X_rest l D cy q (xs 1)) ⟨Nat.le_of_ble_eq_true rfl, Nat.le_of_ble_eq_true rfl⟩ hP hD rfl (by decide) hK nx_b (nx_w hX.1.1) (va_recv hK hP (ci := 11) (q0 := 0) rfl rfl) rfl rfl (Nat.le_of_ble_eq_true rfl) dd_L_law_1237 ⟨Nat.le_of_ble_eq_true rfl, Nat.le_of_ble_eq_true rfl⟩) hS hA hP hD rfl rfl (by decide) (by decide) rfl rfl (fun r1 u2 H locs hw3 hP hD hS => ?_)
  have hP : va_P D cls (wM cy t) H := hP
  have hD : va_D A (wM cy t) := hD
  refine lv_aload_n hx hb dd_L_law_1240 rfl (lv_at hl 1 rfl) ?_
  refine lv_aload_n hx hb dd_L_law_1241 rfl (lv_at hl 3 rfl) ?_
  refine lv_iload_n hx hb dd_L_law_1242 rfl (lv_at hl 0 rfl) ?_
  refine lv_iconst (v := 1) hx hb dd_L_law_1243 (by decide) ?_
  refine lv_iadd hx hb dd_L_law_1244 ?_
  refine wk_int (v := 1) (by decide) ?_
  refine va_sld hx hb hSc hbl hbA hS (i := 1) (vi_of (by decide)) dd_L_law_1245 ?_
  refine wk_int (v := xs 1) rfl ?_
  refine hk_i (wr := []) (c1 := 155) (s1 := 19939) [0, 29] [] (hc_V [.int (xs 1)] [.int r1] [0, 29] Sx hl.1 ws_L_139 md_X12_rest (c_M_pub_rest l D cy t (xs 1)) ⟨Nat.le_of_ble_eq_true rfl, Nat.le_of_ble_eq_true rfl⟩ hP hD rfl (by decide) hK nx_b (nx_w hX.1.1) (va_recv hK hP (ci := 12) (q0 := 0) rfl rfl) rfl rfl (Nat.le_of_ble_eq_true rfl) dd_L_law_1246 ⟨Nat.le_of_ble_eq_true rfl, Nat.le_of_ble_eq_true rfl⟩) hS hA hP hD rfl rfl (by decide) (by decide) rfl rfl (fun r4 u5 H locs hw6 hP hD hS => ?_)
  refine lv_icmp_eq (tgt := 1731) hx hb dd_L_law_1249 (by decide) (fun _ => ?_) (fun c => absurd (if2_eq hw3 hw6) c)
  exact law_again l A hAe Sx hr hlocks hSc hbl hS ls (lv_sub hl [0, 3] rfl)
set_option maxHeartbeats 4000000 in
set_option maxRecDepth 100000 in
theorem law_case_29 {p : Program} {e : Env} {s : State} {m : MethodId} {below : List Frame} {meth : Method} {c : Code} (l : Launch) (D : va_G) (cy : Nat → ClassId) (q t : Nat → Nat) (A : Nat → Prop) (hAe : ∀ w, A w → s.heap.size ≤ w) (hA : ∀ w, s.heap.size ≤ w → A w) {b : Nat} {xs : Nat → Int32} (Sx : CallFix p m c code 4 s #[Value.ref b] BW "WhiteElephantsLaw") (hr : meth.sig.returnType = ret) (hlocks : meth.locks = false) (hK : va_K D cls (TY cy) s) (hX : LX A s) (hSc : va_X b 6 xs s s.heap) (hbl : b < s.heap.size) {H : Heap} {locs : List Loc} {ls : Array Slot} (hl : lv_has ls 4 [(3, .int 0), (2, .ref (t 60)), (1, .ref (q 0)), (0, .ref b)]) (hP : va_P D cls (wX cy q ++ wM cy t) H) (hD : va_D A (wX cy q ++ wM cy t)) (hS : va_S A s.heap H locs) : W p l e room_1 s m #[Value.ref b] below meth c H locs 155 19939 (lw_Z below #[Value.ref b] s) (F0 m 1254 ls []) := by
  have hx := Sx.1
  have hb := Sx.2.1
  have hbA : ¬ A b := fun h => absurd (hAe b h) (Nat.not_le.mpr hbl)
  refine lv_aload_n hx hb dd_L_law_1254 rfl (lv_at hl 2 rfl) ?_
  refine lv_aload_n hx hb dd_L_law_1255 rfl (lv_at hl 3 rfl) ?_
  refine lv_iload_n hx hb dd_L_law_1256 rfl (lv_at hl 0 rfl) ?_
  refine lv_iconst (v := 1) hx hb dd_L_law_1257 (by decide) ?_
  refine lv_iadd hx hb dd_L_law_1258 ?_
  refine wk_int (v := 1) (by decide) ?_
  refine va_sld hx hb hSc hbl hbA hS (i := 1) (vi_of (by decide)) dd_L_law_1259 ?_
  refine wk_int (v := xs 1) rfl ?_
  refine lv_aload_n hx hb dd_L_law_1260 rfl (lv_at hl 3 rfl) ?_
  refine lv_iload_n hx hb dd_L_law_1261 rfl (lv_at hl 0 rfl) ?_
  refine lv_iconst (v := 2) hx hb dd_L_law_1262 (by decide) ?_
  refine lv_iadd hx hb dd_L_law_1263 ?_
  refine wk_int (v := 2) (by decide) ?_
  refine va_sld hx hb hSc hbl hbA hS (i := 2) (vi_of (by decide)) dd_L_law_1264 ?_
  refine wk_int (v := xs 2) rfl ?_
  refine hk_i (wr := (wM cy t)) (c1 := 155) (s1 := 19939) [0, 2, 5, 14] [113, 114, 115, 116, 117, 118, 119, 120, 121, 122, 123, 124, 125, 126, 127, 128, 129, 130, 131, 132, 133, 134, 135, 136, 137, 138, 139, 140, 141, 142, 143, 144, 145, 146, 147, 148, 149, 150, 151, 152, 153, 154] (hc_V [.int (xs 1), .int (xs 2)] [] [0, 2, 5, 14] Sx hl.1 ws_L_140 md_X11_loses (c_X_loses l D cy q (xs 1) (xs 2)) ⟨Nat.le_of_ble_eq_true rfl, Nat.le_of_ble_eq_true rfl⟩ hP hD rfl (by decide) hK nx_b (nx_w hX.1.1) (va_recv hK hP (ci := 11) (q0 := 0) rfl rfl) rfl rfl (Nat.le_of_ble_eq_true rfl) dd_L_law_1265 ⟨Nat.le_of_ble_eq_true rfl, Nat.le_of_ble_eq_true rfl⟩) hS hA hP hD rfl rfl (by decide) (by decide) rfl rfl (fun r1 u2 H locs hw3 hP hD hS => ?_)
  have hP : va_P D cls (wM cy t) H := hP
  have hD : va_D A (wM cy t) := hD
  refine lv_aload_n hx hb dd_L_law_1268 rfl (lv_at hl 1 rfl) ?_
  refine lv_aload_n hx hb dd_L_law_1269 rfl (lv_at hl 3 rfl) ?_
  refine lv_iload_n hx hb dd_L_law_1270 rfl (lv_at hl 0 rfl) ?_
  refine lv_iconst (v := 1) hx hb dd_L_law_1271 (by decide) ?_
  refine lv_iadd hx hb dd_L_law_1272 ?_
  refine wk_int (v := 1) (by decide) ?_
  refine va_sld hx hb hSc hbl hbA hS (i := 1) (vi_of (by decide)) dd_L_law_1273 ?_
  refine wk_int (v := xs 1) rfl ?_
  refine lv_aload_n hx hb dd_L_law_1274 rfl (lv_at hl 3 rfl) ?_
  refine lv_iload_n hx hb dd_L_law_1275 rfl (lv_at hl 0 rfl) ?_
  refine lv_iconst (v := 2) hx hb dd_L_law_1276 (by decide) ?_
  refine lv_iadd hx hb dd_L_law_1277 ?_
  refine wk_int (v := 2) (by decide) ?_
  refine va_sld hx hb hSc hbl hbA hS (i := 2) (vi_of (by decide)) dd_L_law_1278 ?_
  refine wk_int (v := xs 2) rfl ?_
  refine hk_i (wr := []) (c1 := 155) (s1 := 19939) [0, 29] [] (hc_V [.int (xs 1), .int (xs 2)] [.int r1] [0, 29] Sx hl.1 ws_L_143 md_X12_loses (c_M_pub_loses l D cy t (xs 1) (xs 2)) ⟨Nat.le_of_ble_eq_true rfl, Nat.le_of_ble_eq_true rfl⟩ hP hD rfl (by decide) hK nx_b (nx_w hX.1.1) (va_recv hK hP (ci := 12) (q0 := 0) rfl rfl) rfl rfl (Nat.le_of_ble_eq_true rfl) dd_L_law_1279 ⟨Nat.le_of_ble_eq_true rfl, Nat.le_of_ble_eq_true rfl⟩) hS hA hP hD rfl rfl (by decide) (by decide) rfl rfl (fun r4 u5 H locs hw6 hP hD hS => ?_)
  refine lv_icmp_eq (tgt := 1731) hx hb dd_L_law_1282 (by decide) (fun _ => ?_) (fun c => absurd (hw3.trans hw6.symm) c)
  exact law_again l A hAe Sx hr hlocks hSc hbl hS ls (lv_sub hl [0, 3] rfl)
set_option maxHeartbeats 4000000 in
set_option maxRecDepth 100000 in
theorem law_case_30 {p : Program} {e : Env} {s : State} {m : MethodId} {below : List Frame} {meth : Method} {c : Code} (l : Launch) (D : va_G) (cy : Nat → ClassId) (q t : Nat → Nat) (A : Nat → Prop) (hAe : ∀ w, A w → s.heap.size ≤ w) (hA : ∀ w, s.heap.size ≤ w → A w) {b : Nat} {xs : Nat → Int32} (Sx : CallFix p m c code 4 s #[Value.ref b] BW "WhiteElephantsLaw") (hr : meth.sig.returnType = ret) (hlocks : meth.locks = false) (hK : va_K D cls (TY cy) s) (hX : LX A s) (hSc : va_X b 6 xs s s.heap) (hbl : b < s.heap.size) {H : Heap} {locs : List Loc} {ls : Array Slot} (hl : lv_has ls 4 [(3, .int 0), (2, .ref (t 60)), (1, .ref (q 0)), (0, .ref b)]) (hP : va_P D cls (wX cy q ++ wM cy t) H) (hD : va_D A (wX cy q ++ wM cy t)) (hS : va_S A s.heap H locs) : W p l e room_1 s m #[Value.ref b] below meth c H locs 155 19939 (lw_Z below #[Value.ref b] s) (F0 m 1287 ls []) := by
  have hx := Sx.1
  have hb := Sx.2.1
  have hbA : ¬ A b := fun h => absurd (hAe b h) (Nat.not_le.mpr hbl)
  refine lv_aload_n hx hb dd_L_law_1287 rfl (lv_at hl 2 rfl) ?_
  refine lv_aload_n hx hb dd_L_law_1288 rfl (lv_at hl 3 rfl) ?_
  refine lv_iload_n hx hb dd_L_law_1289 rfl (lv_at hl 0 rfl) ?_
  refine lv_iconst (v := 1) hx hb dd_L_law_1290 (by decide) ?_
  refine lv_iadd hx hb dd_L_law_1291 ?_
  refine wk_int (v := 1) (by decide) ?_
  refine va_sld hx hb hSc hbl hbA hS (i := 1) (vi_of (by decide)) dd_L_law_1292 ?_
  refine wk_int (v := xs 1) rfl ?_
  refine hk_i (wr := (wM cy t)) (c1 := 155) (s1 := 19939) [0, 2, 5, 6, 21, 87] [113, 114, 115, 116, 117, 118, 119, 120, 121, 122, 123, 124, 125, 126, 127, 128, 129, 130, 131, 132, 133, 134, 135, 136, 137, 138, 139, 140, 141, 142, 143, 144, 145, 146, 147, 148, 149, 150, 151, 152, 153, 154] (hc_V [.int (xs 1)] [] [0, 2, 5, 6, 21, 87] Sx hl.1 ws_L_144 md_X11_go (c_X_go l D cy q (xs 1)) ⟨Nat.le_of_ble_eq_true rfl, Nat.le_of_ble_eq_true rfl⟩ hP hD rfl (by decide) hK nx_b (nx_w hX.1.1) (va_recv hK hP (ci := 11) (q0 := 0) rfl rfl) rfl rfl (Nat.le_of_ble_eq_true rfl) dd_L_law_1293 ⟨Nat.le_of_ble_eq_true rfl, Nat.le_of_ble_eq_true rfl⟩) hS hA hP hD rfl rfl (by decide) (by decide) rfl rfl (fun r1 u2 H locs hw3 hP hD hS => ?_)
  have hP : va_P D cls (wM cy t) H := hP
  have hD : va_D A (wM cy t) := hD
  refine lv_aload_n hx hb dd_L_law_1296 rfl (lv_at hl 1 rfl) ?_
  refine lv_aload_n hx hb dd_L_law_1297 rfl (lv_at hl 3 rfl) ?_
  refine lv_iload_n hx hb dd_L_law_1298 rfl (lv_at hl 0 rfl) ?_
  refine lv_iconst (v := 1) hx hb dd_L_law_1299 (by decide) ?_
  refine lv_iadd hx hb dd_L_law_1300 ?_
  refine wk_int (v := 1) (by decide) ?_
  refine va_sld hx hb hSc hbl hbA hS (i := 1) (vi_of (by decide)) dd_L_law_1301 ?_
  refine wk_int (v := xs 1) rfl ?_
  refine hk_i (wr := []) (c1 := 155) (s1 := 19939) [0, 28, 29] [] (hc_V [.int (xs 1)] [.int r1] [0, 28, 29] Sx hl.1 ws_L_147 md_X12_go (c_M_pub_go l D cy t (xs 1)) ⟨Nat.le_of_ble_eq_true rfl, Nat.le_of_ble_eq_true rfl⟩ hP hD rfl (by decide) hK nx_b (nx_w hX.1.1) (va_recv hK hP (ci := 12) (q0 := 0) rfl rfl) rfl rfl (Nat.le_of_ble_eq_true rfl) dd_L_law_1302 ⟨Nat.le_of_ble_eq_true rfl, Nat.le_of_ble_eq_true rfl⟩) hS hA hP hD rfl rfl (by decide) (by decide) rfl rfl (fun r4 u5 H locs hw6 hP hD hS => ?_)
  refine lv_icmp_eq (tgt := 1731) hx hb dd_L_law_1305 (by decide) (fun _ => ?_) (fun c => absurd (if2_eq hw3 hw6) c)
  exact law_again l A hAe Sx hr hlocks hSc hbl hS ls (lv_sub hl [0, 3] rfl)
set_option maxHeartbeats 4000000 in
set_option maxRecDepth 100000 in
theorem law_case_31 {p : Program} {e : Env} {s : State} {m : MethodId} {below : List Frame} {meth : Method} {c : Code} (l : Launch) (D : va_G) (cy : Nat → ClassId) (q t : Nat → Nat) (A : Nat → Prop) (hAe : ∀ w, A w → s.heap.size ≤ w) (hA : ∀ w, s.heap.size ≤ w → A w) {b : Nat} {xs : Nat → Int32} (Sx : CallFix p m c code 4 s #[Value.ref b] BW "WhiteElephantsLaw") (hr : meth.sig.returnType = ret) (hlocks : meth.locks = false) (hK : va_K D cls (TY cy) s) (hX : LX A s) (hSc : va_X b 6 xs s s.heap) (hbl : b < s.heap.size) {H : Heap} {locs : List Loc} {ls : Array Slot} (hl : lv_has ls 4 [(3, .int 0), (2, .ref (t 60)), (1, .ref (q 0)), (0, .ref b)]) (hP : va_P D cls (wX cy q ++ wM cy t) H) (hD : va_D A (wX cy q ++ wM cy t)) (hS : va_S A s.heap H locs) : W p l e room_1 s m #[Value.ref b] below meth c H locs 155 19939 (lw_Z below #[Value.ref b] s) (F0 m 1310 ls []) := by
  have hx := Sx.1
  have hb := Sx.2.1
  have hbA : ¬ A b := fun h => absurd (hAe b h) (Nat.not_le.mpr hbl)
  refine lv_aload_n hx hb dd_L_law_1310 rfl (lv_at hl 2 rfl) ?_
  refine lv_aload_n hx hb dd_L_law_1311 rfl (lv_at hl 3 rfl) ?_
  refine lv_iload_n hx hb dd_L_law_1312 rfl (lv_at hl 0 rfl) ?_
  refine lv_iconst (v := 1) hx hb dd_L_law_1313 (by decide) ?_
  refine lv_iadd hx hb dd_L_law_1314 ?_
  refine wk_int (v := 1) (by decide) ?_
  refine va_sld hx hb hSc hbl hbA hS (i := 1) (vi_of (by decide)) dd_L_law_1315 ?_
  refine wk_int (v := xs 1) rfl ?_
  refine hk_i (wr := (wM cy t)) (c1 := 155) (s1 := 19939) [0, 2, 5, 6] [113, 114, 115, 116, 117, 118, 119, 120, 121, 122, 123, 124, 125, 126, 127, 128, 129, 130, 131, 132, 133, 134, 135, 136, 137, 138, 139, 140, 141, 142, 143, 144, 145, 146, 147, 148, 149, 150, 151, 152, 153, 154] (hc_V [.int (xs 1)] [] [0, 2, 5, 6] Sx hl.1 ws_L_148 md_X11_day (c_X_day l D cy q (xs 1)) ⟨Nat.le_of_ble_eq_true rfl, Nat.le_of_ble_eq_true rfl⟩ hP hD rfl (by decide) hK nx_b (nx_w hX.1.1) (va_recv hK hP (ci := 11) (q0 := 0) rfl rfl) rfl rfl (Nat.le_of_ble_eq_true rfl) dd_L_law_1316 ⟨Nat.le_of_ble_eq_true rfl, Nat.le_of_ble_eq_true rfl⟩) hS hA hP hD rfl rfl (by decide) (by decide) rfl rfl (fun r1 u2 H locs hw3 hP hD hS => ?_)
  have hP : va_P D cls (wM cy t) H := hP
  have hD : va_D A (wM cy t) := hD
  refine lv_aload_n hx hb dd_L_law_1319 rfl (lv_at hl 1 rfl) ?_
  refine lv_aload_n hx hb dd_L_law_1320 rfl (lv_at hl 3 rfl) ?_
  refine lv_iload_n hx hb dd_L_law_1321 rfl (lv_at hl 0 rfl) ?_
  refine lv_iconst (v := 1) hx hb dd_L_law_1322 (by decide) ?_
  refine lv_iadd hx hb dd_L_law_1323 ?_
  refine wk_int (v := 1) (by decide) ?_
  refine va_sld hx hb hSc hbl hbA hS (i := 1) (vi_of (by decide)) dd_L_law_1324 ?_
  refine wk_int (v := xs 1) rfl ?_
  refine hk_i (wr := []) (c1 := 155) (s1 := 19939) [0, 28, 29] [] (hc_V [.int (xs 1)] [.int r1] [0, 28, 29] Sx hl.1 ws_L_151 md_X12_day (c_M_pub_day l D cy t (xs 1)) ⟨Nat.le_of_ble_eq_true rfl, Nat.le_of_ble_eq_true rfl⟩ hP hD rfl (by decide) hK nx_b (nx_w hX.1.1) (va_recv hK hP (ci := 12) (q0 := 0) rfl rfl) rfl rfl (Nat.le_of_ble_eq_true rfl) dd_L_law_1325 ⟨Nat.le_of_ble_eq_true rfl, Nat.le_of_ble_eq_true rfl⟩) hS hA hP hD rfl rfl (by decide) (by decide) rfl rfl (fun r4 u5 H locs hw6 hP hD hS => ?_)
  refine lv_icmp_eq (tgt := 1731) hx hb dd_L_law_1328 (by decide) (fun _ => ?_) (fun c => absurd (if2_eq hw3 hw6) c)
  exact law_again l A hAe Sx hr hlocks hSc hbl hS ls (lv_sub hl [0, 3] rfl)
set_option maxHeartbeats 4000000 in
set_option maxRecDepth 100000 in
theorem law_case_32 {p : Program} {e : Env} {s : State} {m : MethodId} {below : List Frame} {meth : Method} {c : Code} (l : Launch) (D : va_G) (cy : Nat → ClassId) (q t : Nat → Nat) (A : Nat → Prop) (hAe : ∀ w, A w → s.heap.size ≤ w) (hA : ∀ w, s.heap.size ≤ w → A w) {b : Nat} {xs : Nat → Int32} (Sx : CallFix p m c code 4 s #[Value.ref b] BW "WhiteElephantsLaw") (hr : meth.sig.returnType = ret) (hlocks : meth.locks = false) (hK : va_K D cls (TY cy) s) (hX : LX A s) (hSc : va_X b 6 xs s s.heap) (hbl : b < s.heap.size) {H : Heap} {locs : List Loc} {ls : Array Slot} (hl : lv_has ls 4 [(3, .int 0), (2, .ref (t 60)), (1, .ref (q 0)), (0, .ref b)]) (hP : va_P D cls (wX cy q ++ wM cy t) H) (hD : va_D A (wX cy q ++ wM cy t)) (hS : va_S A s.heap H locs) : W p l e room_1 s m #[Value.ref b] below meth c H locs 155 19939 (lw_Z below #[Value.ref b] s) (F0 m 1333 ls []) := by
  have hx := Sx.1
  have hb := Sx.2.1
  have hbA : ¬ A b := fun h => absurd (hAe b h) (Nat.not_le.mpr hbl)
  refine lv_aload_n hx hb dd_L_law_1333 rfl (lv_at hl 2 rfl) ?_
  refine hk_i (wr := (wM cy t)) (c1 := 155) (s1 := 19939) [0, 5] [113, 114, 115, 116, 117, 118, 119, 120, 121, 122, 123, 124, 125, 126, 127, 128, 129, 130, 131, 132, 133, 134, 135, 136, 137, 138, 139, 140, 141, 142, 143, 144, 145, 146, 147, 148, 149, 150, 151, 152, 153, 154] (hc_V [] [] [0, 5] Sx hl.1 ws_L_152 md_X11_morning (c_X_morning l D cy q) ⟨Nat.le_of_ble_eq_true rfl, Nat.le_of_ble_eq_true rfl⟩ hP hD rfl (by decide) hK nx_b (nx_w hX.1.1) (va_recv hK hP (ci := 11) (q0 := 0) rfl rfl) rfl rfl (Nat.le_of_ble_eq_true rfl) dd_L_law_1334 ⟨Nat.le_of_ble_eq_true rfl, Nat.le_of_ble_eq_true rfl⟩) hS hA hP hD rfl rfl (by decide) (by decide) rfl rfl (fun r1 u2 H locs hw3 hP hD hS => ?_)
  have hP : va_P D cls (wM cy t) H := hP
  have hD : va_D A (wM cy t) := hD
  refine lv_aload_n hx hb dd_L_law_1337 rfl (lv_at hl 1 rfl) ?_
  refine hk_i (wr := []) (c1 := 155) (s1 := 19939) [0, 28] [] (hc_V [] [.int r1] [0, 28] Sx hl.1 ws_L_155 md_X12_morning (c_M_pub_morning l D cy t) ⟨Nat.le_of_ble_eq_true rfl, Nat.le_of_ble_eq_true rfl⟩ hP hD rfl (by decide) hK nx_b (nx_w hX.1.1) (va_recv hK hP (ci := 12) (q0 := 0) rfl rfl) rfl rfl (Nat.le_of_ble_eq_true rfl) dd_L_law_1338 ⟨Nat.le_of_ble_eq_true rfl, Nat.le_of_ble_eq_true rfl⟩) hS hA hP hD rfl rfl (by decide) (by decide) rfl rfl (fun r4 u5 H locs hw6 hP hD hS => ?_)
  refine lv_icmp_eq (tgt := 1731) hx hb dd_L_law_1341 (by decide) (fun _ => ?_) (fun c => absurd (hw3.trans hw6.symm) c)
  exact law_again l A hAe Sx hr hlocks hSc hbl hS ls (lv_sub hl [0, 3] rfl)
set_option maxHeartbeats 4000000 in
set_option maxRecDepth 100000 in
theorem law_case_33 {p : Program} {e : Env} {s : State} {m : MethodId} {below : List Frame} {meth : Method} {c : Code} (l : Launch) (D : va_G) (cy : Nat → ClassId) (q t : Nat → Nat) (A : Nat → Prop) (hAe : ∀ w, A w → s.heap.size ≤ w) (hA : ∀ w, s.heap.size ≤ w → A w) {b : Nat} {xs : Nat → Int32} (Sx : CallFix p m c code 4 s #[Value.ref b] BW "WhiteElephantsLaw") (hr : meth.sig.returnType = ret) (hlocks : meth.locks = false) (hK : va_K D cls (TY cy) s) (hX : LX A s) (hSc : va_X b 6 xs s s.heap) (hbl : b < s.heap.size) {H : Heap} {locs : List Loc} {ls : Array Slot} (hl : lv_has ls 4 [(3, .int 0), (2, .ref (t 60)), (1, .ref (q 0)), (0, .ref b)]) (hP : va_P D cls (wX cy q ++ wM cy t) H) (hD : va_D A (wX cy q ++ wM cy t)) (hS : va_S A s.heap H locs) : W p l e room_1 s m #[Value.ref b] below meth c H locs 155 19939 (lw_Z below #[Value.ref b] s) (F0 m 1346 ls []) := by
  have hx := Sx.1
  have hb := Sx.2.1
  have hbA : ¬ A b := fun h => absurd (hAe b h) (Nat.not_le.mpr hbl)
  refine lv_aload_n hx hb dd_L_law_1346 rfl (lv_at hl 2 rfl) ?_
  refine lv_aload_n hx hb dd_L_law_1347 rfl (lv_at hl 3 rfl) ?_
  refine lv_iload_n hx hb dd_L_law_1348 rfl (lv_at hl 0 rfl) ?_
  refine lv_iconst (v := 1) hx hb dd_L_law_1349 (by decide) ?_
  refine lv_iadd hx hb dd_L_law_1350 ?_
  refine wk_int (v := 1) (by decide) ?_
  refine va_sld hx hb hSc hbl hbA hS (i := 1) (vi_of (by decide)) dd_L_law_1351 ?_
  refine wk_int (v := xs 1) rfl ?_
  refine hk_i (wr := (wM cy t)) (c1 := 155) (s1 := 19939) [0, 2, 5, 6, 94, 95, 96] [113, 114, 115, 116, 117, 118, 119, 120, 121, 122, 123, 124, 125, 126, 127, 128, 129, 130, 131, 132, 133, 134, 135, 136, 137, 138, 139, 140, 141, 142, 143, 144, 145, 146, 147, 148, 149, 150, 151, 152, 153, 154] (hc_V [.int (xs 1)] [] [0, 2, 5, 6, 94, 95, 96] Sx hl.1 ws_L_156 md_X11_shown (c_X_shown l D cy q (xs 1)) ⟨Nat.le_of_ble_eq_true rfl, Nat.le_of_ble_eq_true rfl⟩ hP hD rfl (by decide) hK nx_b (nx_w hX.1.1) (va_recv hK hP (ci := 11) (q0 := 0) rfl rfl) rfl rfl (Nat.le_of_ble_eq_true rfl) dd_L_law_1352 ⟨Nat.le_of_ble_eq_true rfl, Nat.le_of_ble_eq_true rfl⟩) hS hA hP hD rfl rfl (by decide) (by decide) rfl rfl (fun r1 u2 H locs hw3 hP hD hS => ?_)
  have hP : va_P D cls (wM cy t) H := hP
  have hD : va_D A (wM cy t) := hD
  refine lv_aload_n hx hb dd_L_law_1355 rfl (lv_at hl 1 rfl) ?_
  refine lv_aload_n hx hb dd_L_law_1356 rfl (lv_at hl 3 rfl) ?_
  refine lv_iload_n hx hb dd_L_law_1357 rfl (lv_at hl 0 rfl) ?_
  refine lv_iconst (v := 1) hx hb dd_L_law_1358 (by decide) ?_
  refine lv_iadd hx hb dd_L_law_1359 ?_
  refine wk_int (v := 1) (by decide) ?_
  refine va_sld hx hb hSc hbl hbA hS (i := 1) (vi_of (by decide)) dd_L_law_1360 ?_
  refine wk_int (v := xs 1) rfl ?_
  refine hk_i (wr := []) (c1 := 155) (s1 := 19939) [0, 34, 29] [] (hc_V [.int (xs 1)] [.int r1] [0, 34, 29] Sx hl.1 ws_L_159 md_X12_shown (c_M_pub_shown l D cy t (xs 1)) ⟨Nat.le_of_ble_eq_true rfl, Nat.le_of_ble_eq_true rfl⟩ hP hD rfl (by decide) hK nx_b (nx_w hX.1.1) (va_recv hK hP (ci := 12) (q0 := 0) rfl rfl) rfl rfl (Nat.le_of_ble_eq_true rfl) dd_L_law_1361 ⟨Nat.le_of_ble_eq_true rfl, Nat.le_of_ble_eq_true rfl⟩) hS hA hP hD rfl rfl (by decide) (by decide) rfl rfl (fun r4 u5 H locs hw6 hP hD hS => ?_)
  refine lv_icmp_eq (tgt := 1731) hx hb dd_L_law_1364 (by decide) (fun _ => ?_) (fun c => absurd (if2_eq hw3 hw6) c)
  exact law_again l A hAe Sx hr hlocks hSc hbl hS ls (lv_sub hl [0, 3] rfl)
set_option maxHeartbeats 4000000 in
set_option maxRecDepth 100000 in
theorem law_case_34 {p : Program} {e : Env} {s : State} {m : MethodId} {below : List Frame} {meth : Method} {c : Code} (l : Launch) (D : va_G) (cy : Nat → ClassId) (q t : Nat → Nat) (A : Nat → Prop) (hAe : ∀ w, A w → s.heap.size ≤ w) (hA : ∀ w, s.heap.size ≤ w → A w) {b : Nat} {xs : Nat → Int32} (Sx : CallFix p m c code 4 s #[Value.ref b] BW "WhiteElephantsLaw") (hr : meth.sig.returnType = ret) (hlocks : meth.locks = false) (hK : va_K D cls (TY cy) s) (hX : LX A s) (hSc : va_X b 6 xs s s.heap) (hbl : b < s.heap.size) {H : Heap} {locs : List Loc} {ls : Array Slot} (hl : lv_has ls 4 [(3, .int 0), (2, .ref (t 60)), (1, .ref (q 0)), (0, .ref b)]) (hP : va_P D cls (wX cy q ++ wM cy t) H) (hD : va_D A (wX cy q ++ wM cy t)) (hS : va_S A s.heap H locs) : W p l e room_1 s m #[Value.ref b] below meth c H locs 155 19939 (lw_Z below #[Value.ref b] s) (F0 m 1369 ls []) := by
  have hx := Sx.1
  have hb := Sx.2.1
  have hbA : ¬ A b := fun h => absurd (hAe b h) (Nat.not_le.mpr hbl)
  refine lv_aload_n hx hb dd_L_law_1369 rfl (lv_at hl 2 rfl) ?_
  refine lv_aload_n hx hb dd_L_law_1370 rfl (lv_at hl 3 rfl) ?_
  refine lv_iload_n hx hb dd_L_law_1371 rfl (lv_at hl 0 rfl) ?_
  refine lv_iconst (v := 1) hx hb dd_L_law_1372 (by decide) ?_
  refine lv_iadd hx hb dd_L_law_1373 ?_
  refine wk_int (v := 1) (by decide) ?_
  refine va_sld hx hb hSc hbl hbA hS (i := 1) (vi_of (by decide)) dd_L_law_1374 ?_
  refine wk_int (v := xs 1) rfl ?_
  refine hk_i (wr := (wM cy t)) (c1 := 155) (s1 := 19939) [0, 2, 5, 43] [113, 114, 115, 116, 117, 118, 119, 120, 121, 122, 123, 124, 125, 126, 127, 128, 129, 130, 131, 132, 133, 134, 135, 136, 137, 138, 139, 140, 141, 142, 143, 144, 145, 146, 147, 148, 149, 150, 151, 152, 153, 154] (hc_V [.int (xs 1)] [] [0, 2, 5, 43] Sx hl.1 ws_L_160 md_X11_table (c_X_table l D cy q (xs 1)) ⟨Nat.le_of_ble_eq_true rfl, Nat.le_of_ble_eq_true rfl⟩ hP hD rfl (by decide) hK nx_b (nx_w hX.1.1) (va_recv hK hP (ci := 11) (q0 := 0) rfl rfl) rfl rfl (Nat.le_of_ble_eq_true rfl) dd_L_law_1375 ⟨Nat.le_of_ble_eq_true rfl, Nat.le_of_ble_eq_true rfl⟩) hS hA hP hD rfl rfl (by decide) (by decide) rfl rfl (fun r1 u2 H locs hw3 hP hD hS => ?_)
  have hP : va_P D cls (wM cy t) H := hP
  have hD : va_D A (wM cy t) := hD
  refine lv_aload_n hx hb dd_L_law_1378 rfl (lv_at hl 1 rfl) ?_
  refine lv_aload_n hx hb dd_L_law_1379 rfl (lv_at hl 3 rfl) ?_
  refine lv_iload_n hx hb dd_L_law_1380 rfl (lv_at hl 0 rfl) ?_
  refine lv_iconst (v := 1) hx hb dd_L_law_1381 (by decide) ?_
  refine lv_iadd hx hb dd_L_law_1382 ?_
  refine wk_int (v := 1) (by decide) ?_
  refine va_sld hx hb hSc hbl hbA hS (i := 1) (vi_of (by decide)) dd_L_law_1383 ?_
  refine wk_int (v := xs 1) rfl ?_
  refine hk_i (wr := []) (c1 := 155) (s1 := 19939) [0, 20, 29] [] (hc_V [.int (xs 1)] [.int r1] [0, 20, 29] Sx hl.1 ws_L_163 md_X12_table (c_M_pub_table l D cy t (xs 1)) ⟨Nat.le_of_ble_eq_true rfl, Nat.le_of_ble_eq_true rfl⟩ hP hD rfl (by decide) hK nx_b (nx_w hX.1.1) (va_recv hK hP (ci := 12) (q0 := 0) rfl rfl) rfl rfl (Nat.le_of_ble_eq_true rfl) dd_L_law_1384 ⟨Nat.le_of_ble_eq_true rfl, Nat.le_of_ble_eq_true rfl⟩) hS hA hP hD rfl rfl (by decide) (by decide) rfl rfl (fun r4 u5 H locs hw6 hP hD hS => ?_)
  refine lv_icmp_eq (tgt := 1731) hx hb dd_L_law_1387 (by decide) (fun _ => ?_) (fun c => absurd (if2_eq hw3 hw6) c)
  exact law_again l A hAe Sx hr hlocks hSc hbl hS ls (lv_sub hl [0, 3] rfl)
set_option maxHeartbeats 4000000 in
set_option maxRecDepth 100000 in
theorem law_case_35 {p : Program} {e : Env} {s : State} {m : MethodId} {below : List Frame} {meth : Method} {c : Code} (l : Launch) (D : va_G) (cy : Nat → ClassId) (q t : Nat → Nat) (A : Nat → Prop) (hAe : ∀ w, A w → s.heap.size ≤ w) (hA : ∀ w, s.heap.size ≤ w → A w) {b : Nat} {xs : Nat → Int32} (Sx : CallFix p m c code 4 s #[Value.ref b] BW "WhiteElephantsLaw") (hr : meth.sig.returnType = ret) (hlocks : meth.locks = false) (hK : va_K D cls (TY cy) s) (hX : LX A s) (hSc : va_X b 6 xs s s.heap) (hbl : b < s.heap.size) {H : Heap} {locs : List Loc} {ls : Array Slot} (hl : lv_has ls 4 [(3, .int 0), (2, .ref (t 60)), (1, .ref (q 0)), (0, .ref b)]) (hP : va_P D cls (wX cy q ++ wM cy t) H) (hD : va_D A (wX cy q ++ wM cy t)) (hS : va_S A s.heap H locs) : W p l e room_1 s m #[Value.ref b] below meth c H locs 155 19939 (lw_Z below #[Value.ref b] s) (F0 m 1392 ls []) := by
  have hx := Sx.1
  have hb := Sx.2.1
  have hbA : ¬ A b := fun h => absurd (hAe b h) (Nat.not_le.mpr hbl)
  refine lv_aload_n hx hb dd_L_law_1392 rfl (lv_at hl 2 rfl) ?_
  refine lv_aload_n hx hb dd_L_law_1393 rfl (lv_at hl 3 rfl) ?_
  refine lv_iload_n hx hb dd_L_law_1394 rfl (lv_at hl 0 rfl) ?_
  refine lv_iconst (v := 1) hx hb dd_L_law_1395 (by decide) ?_
  refine lv_iadd hx hb dd_L_law_1396 ?_
  refine wk_int (v := 1) (by decide) ?_
  refine va_sld hx hb hSc hbl hbA hS (i := 1) (vi_of (by decide)) dd_L_law_1397 ?_
  refine wk_int (v := xs 1) rfl ?_
  refine hk_i (wr := (wM cy t)) (c1 := 155) (s1 := 19939) [0, 2, 5, 14, 45] [113, 114, 115, 116, 117, 118, 119, 120, 121, 122, 123, 124, 125, 126, 127, 128, 129, 130, 131, 132, 133, 134, 135, 136, 137, 138, 139, 140, 141, 142, 143, 144, 145, 146, 147, 148, 149, 150, 151, 152, 153, 154] (hc_V [.int (xs 1)] [] [0, 2, 5, 14, 45] Sx hl.1 ws_L_164 md_X11_who (c_X_who l D cy q (xs 1)) ⟨Nat.le_of_ble_eq_true rfl, Nat.le_of_ble_eq_true rfl⟩ hP hD rfl (by decide) hK nx_b (nx_w hX.1.1) (va_recv hK hP (ci := 11) (q0 := 0) rfl rfl) rfl rfl (Nat.le_of_ble_eq_true rfl) dd_L_law_1398 ⟨Nat.le_of_ble_eq_true rfl, Nat.le_of_ble_eq_true rfl⟩) hS hA hP hD rfl rfl (by decide) (by decide) rfl rfl (fun r1 u2 H locs hw3 hP hD hS => ?_)
  have hP : va_P D cls (wM cy t) H := hP
  have hD : va_D A (wM cy t) := hD
  refine lv_aload_n hx hb dd_L_law_1401 rfl (lv_at hl 1 rfl) ?_
  refine lv_aload_n hx hb dd_L_law_1402 rfl (lv_at hl 3 rfl) ?_
  refine lv_iload_n hx hb dd_L_law_1403 rfl (lv_at hl 0 rfl) ?_
  refine lv_iconst (v := 1) hx hb dd_L_law_1404 (by decide) ?_
  refine lv_iadd hx hb dd_L_law_1405 ?_
  refine wk_int (v := 1) (by decide) ?_
  refine va_sld hx hb hSc hbl hbA hS (i := 1) (vi_of (by decide)) dd_L_law_1406 ?_
  refine wk_int (v := xs 1) rfl ?_
  refine hk_i (wr := []) (c1 := 155) (s1 := 19939) [0, 29, 41] [] (hc_V [.int (xs 1)] [.int r1] [0, 29, 41] Sx hl.1 ws_L_167 md_X12_who (c_M_pub_who l D cy t (xs 1)) ⟨Nat.le_of_ble_eq_true rfl, Nat.le_of_ble_eq_true rfl⟩ hP hD rfl (by decide) hK nx_b (nx_w hX.1.1) (va_recv hK hP (ci := 12) (q0 := 0) rfl rfl) rfl rfl (Nat.le_of_ble_eq_true rfl) dd_L_law_1407 ⟨Nat.le_of_ble_eq_true rfl, Nat.le_of_ble_eq_true rfl⟩) hS hA hP hD rfl rfl (by decide) (by decide) rfl rfl (fun r4 u5 H locs hw6 hP hD hS => ?_)
  refine lv_icmp_eq (tgt := 1731) hx hb dd_L_law_1410 (by decide) (fun _ => ?_) (fun c => absurd (if2_eq hw3 hw6) c)
  exact law_again l A hAe Sx hr hlocks hSc hbl hS ls (lv_sub hl [0, 3] rfl)
