/-! the texts: JDK's length and charAt, in the machine's own words -/
theorem jsh0 (x : Int32) : x >>> ((0 : Int32) &&& 31) = x := by
  have : (0 : Int32) &&& 31 = 0 := by decide
  rw [this]
  simp
theorem jb255a : ∀ n : Fin 128, ((Int32.ofInt (n.val : Int) &&& Int32.ofInt 255).toUInt32 % 65536).toInt32 = Int32.ofInt (n.val : Int) := by decide +kernel
theorem jb255 {x : Int} (h0 : 0 ≤ x) (h1 : x ≤ 127) : ((Int32.ofInt x &&& Int32.ofInt 255).toUInt32 % 65536).toInt32 = Int32.ofInt x := by
  have h := jb255a ⟨x.toNat, by omega⟩
  have e : ((x.toNat : Nat) : Int) = x := by omega
  simp only [e] at h
  exact h
theorem jchara : ∀ n : Fin 128, narrow .char (.int (Int32.ofInt (n.val : Int))) = .int (Int32.ofInt (n.val : Int)) := by decide +kernel
theorem jchar {x : Int} (h0 : 0 ≤ x) (h1 : x ≤ 127) : narrow .char (.int (Int32.ofInt x)) = .int (Int32.ofInt x) := by
  have h := jchara ⟨x.toNat, by omega⟩
  have e : ((x.toNat : Nat) : Int) = x := by omega
  simp only [e] at h
  exact h
abbrev FF : Nat → Prop := fun _ => False
def JC (l : Launch) (y : MethodName) (b : ByteArray) (n : Nat) (r : Option FieldType) (d : Nat) (args : List Value) (X : State → Prop) (Qc : Array Value → State → Outcome → State → Prop) : Prop :=
  Met l y (wq y b n r) (rmD d) (va_Pc args X) Qc 0 0 (fun _ => False)
abbrev TV (v n : Nat) (f : Nat → Int) (U : State) : Prop := va_T .byte v n (fun j => .int (Int32.ofInt (f j))) FF U U.heap
abbrev SV (w v n : Nat) (f : Nat → Int) (U : State) : Prop := va_O "java/lang/String" w FF U U.heap ∧ va_OF "java/lang/String" "coder" "B" (.int 0) w FF U U.heap ∧ va_OF "java/lang/String" "value" "[B" (.ref v) w FF U U.heap ∧ TV v n f U
abbrev JX (w v n : Nat) (f : Nat → Int) (U : State) : Prop := CZ FF U ∧ CY FF U ∧ SV w v n f U
abbrev JY (v n : Nat) (f : Nat → Int) (U : State) : Prop := CY FF U ∧ TV v n f U
section JT
variable {p : Program} {l : Launch} {e : Env} {R : Room} {s U : State} {m : MethodId} {args : Array Value} {below : List Frame} {meth : Method} {c : Code} {H : Heap} {locs : List Loc} {cells slots : Nat} {Q : State → Prop}
variable {cc : ByteArray} {pc nL idx n k d w v : Nat} {f : Nat → Int} {ls : Array Slot} {own : String} {y : MethodName} {b : ByteArray} {r : Option FieldType} {o : Nat} {st0 : List Value} {X : State → Prop}
theorem cz_w (h : CZ FF s) : ∀ U : State, U.heap = s.heap → s.WarmedH U.vm → CZ FF U := fun U hU hW => by
  show va_Z _ _ _ _ _ U U.heap
  rw [hU]; exact va_Z.moved hW.alike h
theorem cy_w (h : CY FF s) : ∀ U : State, U.heap = s.heap → s.WarmedH U.vm → CY FF U := fun U hU hW => by
  show va_Zq _ _ _ _ U U.heap
  rw [hU]; exact va_Zq.moved hW.alike h
theorem tv_w (h : TV v n f s) : ∀ U : State, U.heap = s.heap → s.WarmedH U.vm → TV v n f U := fun U hU hW => by
  show va_T _ _ _ _ _ U U.heap
  rw [hU]; exact va_T.moved hW.alike h
theorem sv_w (h : SV w v n f s) : ∀ U : State, U.heap = s.heap → s.WarmedH U.vm → SV w v n f U := fun U hU hW => by
  refine ⟨?_, ?_, ?_, tv_w h.2.2.2 U hU hW⟩
  · show va_O _ _ _ U U.heap
    rw [hU]; exact va_O.moved hW.alike h.1
  · show va_OF _ _ _ _ _ _ U U.heap
    rw [hU]; exact va_OF.moved hW.alike h.2.1
  · show va_OF _ _ _ _ _ _ U U.heap
    rw [hU]; exact va_OF.moved hW.alike h.2.2.1
theorem jx_w (h : JX w v n f s) : ∀ U : State, U.heap = s.heap → s.WarmedH U.vm → JX w v n f U := fun U hU hW => ⟨cz_w h.1 U hU hW, cy_w h.2.1 U hU hW, sv_w h.2.2 U hU hW⟩
theorem jy_w (h : JY v n f s) : ∀ U : State, U.heap = s.heap → s.WarmedH U.vm → JY v n f U := fun U hU hW => ⟨cy_w h.1 U hU hW, tv_w h.2 U hU hW⟩
theorem cz_c (a : Array Value) (U : State) (g : JFrame) (mk : MethodId) (h : CZ FF U) : CZ FF (U.calling g mk a) := va_Z.moved (u := U) (U := U.calling g mk a) (Vm.Alike.refl U.vm) h
theorem cy_c (a : Array Value) (U : State) (g : JFrame) (mk : MethodId) (h : CY FF U) : CY FF (U.calling g mk a) := va_Zq.moved (u := U) (U := U.calling g mk a) (Vm.Alike.refl U.vm) h
theorem tv_c (a : Array Value) (U : State) (g : JFrame) (mk : MethodId) (h : TV v n f U) : TV v n f (U.calling g mk a) := va_T.moved (u := U) (U := U.calling g mk a) (Vm.Alike.refl U.vm) h
theorem jx_c (a : Array Value) (U : State) (g : JFrame) (mk : MethodId) (h : JX w v n f U) : JX w v n f (U.calling g mk a) := ⟨cz_c a U g mk h.1, cy_c a U g mk h.2.1, va_O.moved (u := U) (U := U.calling g mk a) (Vm.Alike.refl U.vm) h.2.2.1, va_OF.moved (u := U) (U := U.calling g mk a) (Vm.Alike.refl U.vm) h.2.2.2.1, va_OF.moved (u := U) (U := U.calling g mk a) (Vm.Alike.refl U.vm) h.2.2.2.2.1, tv_c a U g mk h.2.2.2.2.2⟩
theorem jy_c (a : Array Value) (U : State) (g : JFrame) (mk : MethodId) (h : JY v n f U) : JY v n f (U.calling g mk a) := ⟨cy_c a U g mk h.1, tv_c a U g mk h.2⟩
theorem sv_recv (h : SV w v n f s) : ∃ cell : Cell, s.heap[w]? = some cell ∧ cell.vm.isStatics = false ∧ s.vm.findClass "java/lang/String" = some cell.cls := by
  obtain ⟨cell, h1, h2, h3, -⟩ := h.1
  exact ⟨cell, h1, h2, h3⟩
theorem jc_intro {Qc : Array Value → State → Outcome → State → Prop} {As : List Value} (hy : plainName y.cls = true) (hn : (lg_sl As).length ≤ n)
    (body : ∀ (p : Program) (e : Env) (s : State) (m : MethodId) (below : List Frame) (meth : Method) (c : Code) (ls : Array Slot), CallFix p m c b n s As.toArray BW y.cls → meth.sig.returnType = r → meth.locks = false → lv_has ls n (lv_args 0 As) → X s →
      W p l e (rmD d) s m As.toArray below meth c s.heap [] 0 0 (MQ below Qc As.toArray s 0 0 (fun _ => False)) (F0 m 0 ls [])) : JC l y b n r d As X Qc := by
  refine Met.ofW (cc := b) (maxL := n) (ret := r) hy rfl ?_
  intro p e s m args' below meth c s₁ B hml hv
  obtain ⟨rfl, hX⟩ := hv
  have hts := atoms_spec (ws := wq y b n r) B.pre
  have hl := lv_entry As (n := n) hn
  rw [lg_entry_eq]
  generalize (lg_sl As ++ List.replicate (n - (lg_sl As).length) Slot.unset).toArray = ls at hl ⊢
  exact body p e s m below meth c ls ⟨B.exec, B.bytes, hml, findClass_of_methodNamed B.named, fun w h => hts w (List.mem_cons_of_mem _ h)⟩ B.returns B.notSynchronized hl hX
theorem jc_ret {post : Int32 → Prop} {v : Int32} (Sx : CallFix p m c cc nL s args BW own) {ft : FieldType} (hr : meth.sig.returnType = some ft) (hlocks : meth.locks = false) (hn : narrow ft (.int v) = .int v) (hdg : decode cc pc = .ok (.ireturn, 1)) (hv : post v) : W p l e R s m args below meth c s.heap [] cells slots (MQ below (vp_Si post) args s cells slots (fun _ => False)) (F0 m pc ls [.int v]) :=
  W.zret Sx.1 Sx.2.1 hr hn (fun t ht _ => ⟨v, rfl, hv, ht⟩) (fun q h => absurd h List.not_mem_nil) hdg hlocks
theorem jc_vret {post : Unit → Prop} (Sx : CallFix p m c cc nL s args BW own) (hr : meth.sig.returnType = none) (hlocks : meth.locks = false) (hdg : decode cc pc = .ok (.return_, 1)) (hv : post ()) : W p l e R s m args below meth c s.heap [] cells slots (MQ below (va_Sv post) args s cells slots (fun _ => False)) (F0 m pc ls []) :=
  W.vret Sx.1 Sx.2.1 hr (fun t ht _ => ⟨rfl, hv, ht⟩) (fun q h => absurd h List.not_mem_nil) hdg hlocks
theorem jk_i {post : Int32 → Prop} {a : Array Value} {rest : List Value} (hr : va_Run p l e R s m args below meth c H locs cells slots 0 0 (F0 m pc ls st0) rest (vp_Si post a) (fun _ => False)) (kk : ∀ v : Int32, post v → W p l e R s m args below meth c H locs cells slots Q (F0 m (pc + 3) ls (.int v :: rest))) : W p l e R s m args below meth c H locs cells slots Q (F0 m pc ls st0) := vp_callSi hr.run kk
theorem jk_v {post : Unit → Prop} {a : Array Value} {rest : List Value} (hr : va_Run p l e R s m args below meth c H locs cells slots 0 0 (F0 m pc ls st0) rest (va_Sv post a) (fun _ => False)) (kk : post () → W p l e R s m args below meth c H locs cells slots Q (F0 m (pc + 3) ls rest)) : W p l e R s m args below meth c H locs cells slots Q (F0 m pc ls st0) := va_csv hr.run kk
end JT
set_option maxHeartbeats 4000000 in
set_option maxRecDepth 100000 in
theorem j_coder {l : Launch} {w v n : Nat} {f : Nat → Int} : JC l my_J0_coder_7d493 mb_J0_coder_7d493 1 (some .byte) 1 [.ref w] (JX w v n f) (vp_Si (fun r => r = 0)) := by
  refine jc_intro (by decide) (Nat.le_of_ble_eq_true rfl) (fun p e s m below meth c ls Sx hr hlocks hl hX => ?_)
  have hx := Sx.1
  have hb := Sx.2.1
  have hl : lv_has ls 1 [(0, .ref w)] := hl
  refine va_gets (A := FF) hx hb hX.1 va_S.rf Sx.2.2.2.1 (Sx.2.2.2.2 _ kk_640) (fun _ h => h) dd_J0_coder_7d493_0 ?_
  refine lv_if_eq (tgt := 13) hx hb dd_J0_coder_7d493_3 (by decide) (fun c => absurd c (by decide)) (fun _ => ?_)
  refine lv_aload_n hx hb dd_J0_coder_7d493_6 rfl (lv_at hl 0 rfl) ?_
  refine vk_getf (A := FF) hx hb hX.2.2.2.1 va_S.rf Sx.2.2.2.1 (Sx.2.2.2.2 _ kk_1608) (fun _ h => h) dd_J0_coder_7d493_7 ?_
  refine lv_goto (tgt := 14) hx hb dd_J0_coder_7d493_10 (by decide) ?_
  exact jc_ret Sx hr hlocks rfl dd_J0_coder_7d493_14 rfl
set_option maxHeartbeats 4000000 in
set_option maxRecDepth 100000 in
theorem j_length {l : Launch} {w v n : Nat} {f : Nat → Int} : JC l my_J0_length_8abf5 mb_J0_length_8abf5 1 (some .int) 2 [.ref w] (JX w v n f) (vp_Si (fun r => r = Int32.ofNat n)) := by
  refine jc_intro (by decide) (Nat.le_of_ble_eq_true rfl) (fun p e s m below meth c ls Sx hr hlocks hl hX => ?_)
  have hx := Sx.1
  have hb := Sx.2.1
  have hl : lv_has ls 1 [(0, .ref w)] := hl
  refine lv_aload_n hx hb dd_J0_length_8abf5_0 rfl (lv_at hl 0 rfl) ?_
  refine vk_getf (A := FF) hx hb hX.2.2.2.2.1 va_S.rf Sx.2.2.2.1 (Sx.2.2.2.2 _ kk_1607) (fun _ h => h) dd_J0_length_8abf5_1 ?_
  refine va_tlen (A := FF) (v := Int32.ofNat n) hx hb hX.2.2.2.2.2 va_S.rf rfl dd_J0_length_8abf5_4 ?_
  refine lv_aload_n hx hb dd_J0_length_8abf5_5 rfl (lv_at hl 0 rfl) ?_
  refine jk_i (wk_rV [] [.int (Int32.ofNat n)] Sx hl.1 ws_String_335 md_J0_coder_7d493 (j_coder (w := w) (v := v) (n := n) (f := f)) ⟨rfl, rfl⟩ ⟨Nat.le_of_ble_eq_true rfl, Nat.le_of_ble_eq_true rfl⟩ jx_c (jx_w hX) (sv_recv hX.2.2) rfl rfl (Nat.le_of_ble_eq_true rfl) dd_J0_length_8abf5_6 ⟨Nat.le_of_ble_eq_true rfl, Nat.le_of_ble_eq_true rfl⟩) (fun r1 hw2 => ?_)
  subst hw2
  refine lv_ishr hx hb dd_J0_length_8abf5_9 ?_
  refine wk_int (v := Int32.ofNat n) (jsh0 _) ?_
  exact jc_ret Sx hr hlocks rfl dd_J0_length_8abf5_10 rfl
set_option maxHeartbeats 4000000 in
set_option maxRecDepth 100000 in
theorem j_latin {l : Launch} {w v n : Nat} {f : Nat → Int} : JC l my_J0_isLatin1_aae02 mb_J0_isLatin1_aae02 1 (some .boolean) 1 [.ref w] (JX w v n f) (vp_Si (fun r => r = 1)) := by
  refine jc_intro (by decide) (Nat.le_of_ble_eq_true rfl) (fun p e s m below meth c ls Sx hr hlocks hl hX => ?_)
  have hx := Sx.1
  have hb := Sx.2.1
  have hl : lv_has ls 1 [(0, .ref w)] := hl
  refine va_gets (A := FF) hx hb hX.1 va_S.rf Sx.2.2.2.1 (Sx.2.2.2.2 _ kk_640) (fun _ h => h) dd_J0_isLatin1_aae02_0 ?_
  refine lv_if_eq (tgt := 17) hx hb dd_J0_isLatin1_aae02_3 (by decide) (fun c => absurd c (by decide)) (fun _ => ?_)
  refine lv_aload_n hx hb dd_J0_isLatin1_aae02_6 rfl (lv_at hl 0 rfl) ?_
  refine vk_getf (A := FF) hx hb hX.2.2.2.1 va_S.rf Sx.2.2.2.1 (Sx.2.2.2.2 _ kk_1608) (fun _ h => h) dd_J0_isLatin1_aae02_7 ?_
  refine lv_if_ne (tgt := 17) hx hb dd_J0_isLatin1_aae02_10 (by decide) (fun c => absurd rfl c) (fun _ => ?_)
  refine lv_iconst (v := 1) hx hb dd_J0_isLatin1_aae02_13 (by decide) ?_
  refine lv_goto (tgt := 18) hx hb dd_J0_isLatin1_aae02_14 (by decide) ?_
  exact jc_ret Sx hr hlocks rfl dd_J0_isLatin1_aae02_18 rfl
set_option maxHeartbeats 4000000 in
set_option maxRecDepth 100000 in
theorem j_check3 {l : Launch} {i n : Int32} {a : Value} (ha : a.category = 1) (h0 : ¬ i < 0) (h1 : i < n) : JC l my_J3_checkIndex_8e157 mb_J3_checkIndex_8e157 3 (some .int) 1 [.int i, .int n, a] (fun _ => True) (vp_Si (fun r => r = i)) := by
  refine jc_intro (by decide) (by show (lg_sl [.int i, .int n, a]).length ≤ 3; simp [lg_sl, ha]; exact Nat.le_refl _) (fun p e s m below meth c ls Sx hr hlocks hl hX => ?_)
  have hx := Sx.1
  have hb := Sx.2.1
  have hl : lv_has ls 3 [(0, .int i), (1, .int n), (2, a)] := hl
  refine lv_iload_n hx hb dd_J3_checkIndex_8e157_0 rfl (lv_at hl 0 rfl) ?_
  refine lv_if_lt (tgt := 9) hx hb dd_J3_checkIndex_8e157_1 (by decide) (fun c => absurd c h0) (fun _ => ?_)
  refine lv_iload_n hx hb dd_J3_checkIndex_8e157_4 rfl (lv_at hl 0 rfl) ?_
  refine lv_iload_n hx hb dd_J3_checkIndex_8e157_5 rfl (lv_at hl 1 rfl) ?_
  refine lv_icmp_lt (tgt := 16) hx hb dd_J3_checkIndex_8e157_6 (by decide) (fun _ => ?_) (fun c => absurd h1 c)
  refine lv_iload_n hx hb dd_J3_checkIndex_8e157_16 rfl (lv_at hl 0 rfl) ?_
  exact jc_ret Sx hr hlocks rfl dd_J3_checkIndex_8e157_17 rfl
set_option maxHeartbeats 4000000 in
set_option maxRecDepth 100000 in
theorem j_check {l : Launch} {i n : Int32} (h0 : ¬ i < 0) (h1 : i < n) : JC l my_J0_checkIndex_df160 mb_J0_checkIndex_df160 2 none 2 [.int i, .int n] (CY FF) (va_Sv (fun _ => True)) := by
  refine jc_intro (by decide) (Nat.le_of_ble_eq_true rfl) (fun p e s m below meth c ls Sx hr hlocks hl hX => ?_)
  have hx := Sx.1
  have hb := Sx.2.1
  have hl : lv_has ls 2 [(0, .int i), (1, .int n)] := hl
  refine lv_iload_n hx hb dd_J0_checkIndex_df160_0 rfl (lv_at hl 0 rfl) ?_
  refine lv_iload_n hx hb dd_J0_checkIndex_df160_1 rfl (lv_at hl 1 rfl) ?_
  have go : ∀ a : Value, a.category = 1 → va_Z "jdk/internal/util/Preconditions" "SIOOBE_FORMATTER" "Ljava/util/function/BiFunction;" a FF s s.heap → W p l e (rmD 2) s m #[.int i, .int n] below meth c s.heap [] 0 0 (MQ below (va_Sv (fun _ => True)) #[.int i, .int n] s 0 0 (fun _ => False)) (F0 m 2 ls [.int n, .int i]) := fun a ha hZ => by
    refine va_gets (A := FF) hx hb hZ va_S.rf Sx.2.2.2.1 (Sx.2.2.2.2 _ kk_656) (fun _ h => h) dd_J0_checkIndex_df160_2 ?_
    refine jk_i (wk_rT [.int i, .int n, a] [] Sx hl.1 ws_String_1059 md_J3_checkIndex_8e157 (j_check3 ha h0 h1) ⟨rfl, rfl⟩ ⟨Nat.le_of_ble_eq_true rfl, Nat.le_of_ble_eq_true rfl⟩ (fun _ _ _ _ _ => trivial) (fun _ _ _ => trivial) rfl rfl (Nat.le_of_ble_eq_true rfl) dd_J0_checkIndex_df160_5 ⟨Nat.le_of_ble_eq_true rfl, Nat.le_of_ble_eq_true rfl⟩) (fun r1 hw2 => ?_)
    refine lv_pop hx hb dd_J0_checkIndex_df160_8 rfl ?_
    exact jc_vret Sx hr hlocks dd_J0_checkIndex_df160_9 trivial
  rcases hX with hZ | ⟨t, hZ⟩
  · exact go _ rfl hZ
  · exact go _ rfl hZ
set_option maxHeartbeats 4000000 in
set_option maxRecDepth 100000 in
theorem j_charAt1 {l : Launch} {v n : Nat} {f : Nat → Int} {i : Int} (hn : n ≤ 100) (h0 : 0 ≤ i) (h1 : i < n) (hf : 0 ≤ f i.toNat ∧ f i.toNat ≤ 127) : JC l my_J1_charAt_3b067 mb_J1_charAt_3b067 2 (some .char) 3 [.ref v, .int (Int32.ofInt i)] (JY v n f) (vp_Si (fun r => r = Int32.ofInt (f i.toNat))) := by
  have e1 : ¬ Int32.ofInt i < 0 := by
    have := oi_lt (x := i) (y := 0) ⟨by omega, by omega⟩ ⟨by decide, by decide⟩
    intro z
    have := this.mp z
    omega
  have e2 : Int32.ofInt i < Int32.ofNat n := by
    rw [← Int32.ofInt_eq_ofNat]
    have := oi_lt (x := i) (y := (n : Int)) ⟨by omega, by omega⟩ ⟨by omega, by omega⟩
    exact this.mpr h1
  refine jc_intro (by decide) (Nat.le_of_ble_eq_true rfl) (fun p e s m below meth c ls Sx hr hlocks hl hX => ?_)
  have hx := Sx.1
  have hb := Sx.2.1
  have hl : lv_has ls 2 [(0, .ref v), (1, .int (Int32.ofInt i))] := hl
  refine lv_iload_n hx hb dd_J1_charAt_3b067_0 rfl (lv_at hl 1 rfl) ?_
  refine lv_aload_n hx hb dd_J1_charAt_3b067_1 rfl (lv_at hl 0 rfl) ?_
  refine va_tlen (A := FF) (v := Int32.ofNat n) hx hb hX.2 va_S.rf rfl dd_J1_charAt_3b067_2 ?_
  refine jk_v (wk_rT [.int (Int32.ofInt i), .int (Int32.ofNat n)] [] Sx hl.1 ws_StringLatin1_9 md_J0_checkIndex_df160 (j_check e1 e2) ⟨rfl, rfl⟩ ⟨Nat.le_of_ble_eq_true rfl, Nat.le_of_ble_eq_true rfl⟩ cy_c (cy_w hX.1) rfl rfl (Nat.le_of_ble_eq_true rfl) dd_J1_charAt_3b067_3 ⟨Nat.le_of_ble_eq_true rfl, Nat.le_of_ble_eq_true rfl⟩) (fun _ => ?_)
  refine lv_aload_n hx hb dd_J1_charAt_3b067_6 rfl (lv_at hl 0 rfl) ?_
  refine lv_iload_n hx hb dd_J1_charAt_3b067_7 rfl (lv_at hl 1 rfl) ?_
  refine va_tb (A := FF) hx hb hX.2 va_S.rf (oi_in h0 h1 (by omega)) (v := .int (Int32.ofInt (f i.toNat))) (by rw [oi_nc h0 (by omega)]) dd_J1_charAt_3b067_8 ?_
  refine lv_sipush (v := Int32.ofInt 255) hx hb dd_J1_charAt_3b067_9 (by decide) ?_
  refine lv_iand hx hb dd_J1_charAt_3b067_12 ?_
  refine lv_i2c (v := Int32.ofInt (f i.toNat)) hx hb dd_J1_charAt_3b067_13 (jb255 hf.1 hf.2) ?_
  exact jc_ret Sx hr hlocks (jchar hf.1 hf.2) dd_J1_charAt_3b067_14 rfl
set_option maxHeartbeats 4000000 in
set_option maxRecDepth 100000 in
theorem j_charAt {l : Launch} {w v n : Nat} {f : Nat → Int} {i : Int} (hn : n ≤ 100) (h0 : 0 ≤ i) (h1 : i < n) (hf : 0 ≤ f i.toNat ∧ f i.toNat ≤ 127) : JC l my_J0_charAt_5068e mb_J0_charAt_5068e 2 (some .char) 4 [.ref w, .int (Int32.ofInt i)] (JX w v n f) (vp_Si (fun r => r = Int32.ofInt (f i.toNat))) := by
  refine jc_intro (by decide) (Nat.le_of_ble_eq_true rfl) (fun p e s m below meth c ls Sx hr hlocks hl hX => ?_)
  have hx := Sx.1
  have hb := Sx.2.1
  have hl : lv_has ls 2 [(0, .ref w), (1, .int (Int32.ofInt i))] := hl
  refine lv_aload_n hx hb dd_J0_charAt_5068e_0 rfl (lv_at hl 0 rfl) ?_
  refine jk_i (wk_rV [] [] Sx hl.1 ws_String_492 md_J0_isLatin1_aae02 (j_latin (w := w) (v := v) (n := n) (f := f)) ⟨rfl, rfl⟩ ⟨Nat.le_of_ble_eq_true rfl, Nat.le_of_ble_eq_true rfl⟩ jx_c (jx_w hX) (sv_recv hX.2.2) rfl rfl (Nat.le_of_ble_eq_true rfl) dd_J0_charAt_5068e_1 ⟨Nat.le_of_ble_eq_true rfl, Nat.le_of_ble_eq_true rfl⟩) (fun r1 hw2 => ?_)
  subst hw2
  refine lv_if_eq (tgt := 16) hx hb dd_J0_charAt_5068e_4 (by decide) (fun c => absurd c (by decide)) (fun _ => ?_)
  refine lv_aload_n hx hb dd_J0_charAt_5068e_7 rfl (lv_at hl 0 rfl) ?_
  refine vk_getf (A := FF) hx hb hX.2.2.2.2.1 va_S.rf Sx.2.2.2.1 (Sx.2.2.2.2 _ kk_1607) (fun _ h => h) dd_J0_charAt_5068e_8 ?_
  refine lv_iload_n hx hb dd_J0_charAt_5068e_11 rfl (lv_at hl 1 rfl) ?_
  refine jk_i (wk_rT [.ref v, .int (Int32.ofInt i)] [] Sx hl.1 ws_String_495 md_J1_charAt_3b067 (j_charAt1 hn h0 h1 hf) ⟨rfl, rfl⟩ ⟨Nat.le_of_ble_eq_true rfl, Nat.le_of_ble_eq_true rfl⟩ jy_c (jy_w ⟨hX.2.1, hX.2.2.2.2.2⟩) rfl rfl (Nat.le_of_ble_eq_true rfl) dd_J0_charAt_5068e_12 ⟨Nat.le_of_ble_eq_true rfl, Nat.le_of_ble_eq_true rfl⟩) (fun r3 hw4 => ?_)
  subst hw4
  exact jc_ret Sx hr hlocks (jchar hf.1 hf.2) dd_J0_charAt_5068e_15 rfl
section GJ
variable {p : Program} {l : Launch} {e : Env} {R : Room} {s : State} {m : MethodId} {args : Array Value} {below : List Frame} {meth : Method} {c : Code} {D : va_G} {cy : Nat → ClassId} {q : Nat → Nat} {A : Nat → Prop} {cells slots nL : Nat} {Q : State → Prop} {cc : ByteArray} {own : String}
variable {pc : Nat} {L : List (Nat × gV)} {st : List gV} {M : Mem}
theorem sx_jx {A : Nat → Prop} {s : State} {H : Heap} {locs : List Loc} {q : Nat → Nat} (hS : va_S A s.heap H locs) (i : Nat) {k N pl : Nat} {C n : String} {f : Nat → Int} (he : STw[i]? = some (k, C, pl, n, N, f)) (h : SX q A s) : ∃ v : Nat, ∀ U : State, U.heap = H → s.WarmedH U.vm → JX (q k) v N f U := by
  have g := (sx_tx h i he).2
  obtain ⟨g1, g2, v, g3, g4⟩ := g
  refine ⟨v, fun U hU hW => ?_⟩
  subst hU
  have hq : ∀ a : Nat, a < s.heap.size → ¬ A a → U.heap[a]? = s.heap[a]? := fun a k1 k2 => hS.2.1 a k1 k2
  have hAB : ∀ x, FF x → A x := fun _ z => z.elim
  exact ⟨va_Z.moved hW.alike ((va_Z.kept h.2.1 hq).narrow hAB), va_Zq.moved hW.alike ((va_Zq.kept h.2.2.1 hq).narrow hAB), va_O.moved hW.alike ((va_O.kept g1 hq).narrow hAB), va_OF.moved hW.alike ((va_OF.kept g2 hq).narrow hAB), va_OF.moved hW.alike ((va_OF.kept g3 hq).narrow hAB), va_T.moved hW.alike ((va_T.kept g4 hq).narrow hAB)⟩
theorem sx_rv {A : Nat → Prop} {s : State} {H : Heap} {locs : List Loc} {q : Nat → Nat} (hS : va_S A s.heap H locs) (i : Nat) {k N pl : Nat} {C n : String} {f : Nat → Int} (he : STw[i]? = some (k, C, pl, n, N, f)) (h : SX q A s) : ∃ cell : Cell, H[q k]? = some cell ∧ cell.vm.isStatics = false ∧ s.vm.findClass "java/lang/String" = some cell.cls := by
  have hq : ∀ a : Nat, a < s.heap.size → ¬ A a → H[a]? = s.heap[a]? := fun a k1 k2 => hS.2.1 a k1 k2
  obtain ⟨cell, h1, h2, h3, -⟩ := va_O.kept (sx_tx h i he).2.1 hq
  exact ⟨cell, h1, h2, h3⟩
theorem g_len (i : Nat) {k N pl idx : Nat} {C n : String} {f : Nat → Int} (he : STw[i]? = some (k, C, pl, n, N, f)) (hK : OK p s m args c D cy q A nL cc own) (w : WV own idx my_J0_length_8abf5 mb_J0_length_8abf5 1 (some .int)) (hc : cells ≤ R.cells ∧ slots ≤ R.slots) (hR : 3 ≤ R.frames ∧ 220 ≤ R.locals) (hW : (st.map gw).sum ≤ 8) (dcd : decode cc pc = .ok (.invokevirtual idx, 3)) (hN : N ≤ 100)
    (kk : G p l e R s m args below meth c D cy q A cells slots nL Q (pc + 3) L (gI (N : Int) :: st) M) : G p l e R s m args below meth c D cy q A cells slots nL Q pc L (gR k :: st) M := by
  intro H locs ls hw hP hD hS hl
  obtain ⟨v, hv⟩ := sx_jx hS i he hK.2.2.1
  refine jk_i (wk_rV [] (st.map (cv q)) hK.1 hl.1 w md_J0_length_8abf5 (j_length (w := q k) (v := v) (n := N) (f := f)) ⟨rfl, rfl⟩ ⟨hR.1, hR.2⟩ jx_c hv (sx_rv hS i he hK.2.2.1) rfl rfl (by rw [gcat]; exact hW) dcd ⟨by simpa using hc.1, by simpa using hc.2⟩) (fun r hr => ?_)
  subst hr
  rw [← Int32.ofInt_eq_ofNat]
  exact kk H locs ls hw hP hD hS hl
theorem g_chr (i : Nat) {k N pl idx : Nat} {C n : String} {f : Nat → Int} {x : Int} (he : STw[i]? = some (k, C, pl, n, N, f)) (hK : OK p s m args c D cy q A nL cc own) (w : WV own idx my_J0_charAt_5068e mb_J0_charAt_5068e 2 (some .char)) (hc : cells ≤ R.cells ∧ slots ≤ R.slots) (hR : 5 ≤ R.frames ∧ 421 ≤ R.locals) (hW : (st.map gw).sum ≤ 8) (dcd : decode cc pc = .ok (.invokevirtual idx, 3)) (hN : N ≤ 100) (h0 : 0 ≤ x) (h1 : x < N) (hf : 0 ≤ f x.toNat ∧ f x.toNat ≤ 127)
    (kk : G p l e R s m args below meth c D cy q A cells slots nL Q (pc + 3) L (gI (f x.toNat) :: st) M) : G p l e R s m args below meth c D cy q A cells slots nL Q pc L (gI x :: gR k :: st) M := by
  intro H locs ls hw hP hD hS hl
  obtain ⟨v, hv⟩ := sx_jx hS i he hK.2.2.1
  refine jk_i (wk_rV [.int (Int32.ofInt x)] (st.map (cv q)) hK.1 hl.1 w md_J0_charAt_5068e (j_charAt (w := q k) (v := v) (n := N) (f := f) hN h0 h1 hf) ⟨rfl, rfl⟩ ⟨hR.1, hR.2⟩ jx_c hv (sx_rv hS i he hK.2.2.1) rfl rfl (by rw [gcat]; exact hW) dcd ⟨by simpa using hc.1, by simpa using hc.2⟩) (fun r hr => ?_)
  subst hr
  exact kk H locs ls hw hP hD hS hl
end GJ
