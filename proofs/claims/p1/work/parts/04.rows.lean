/-! contracts of two shapes, and how they are opened, ended and called -/
abbrev TY4 (cy : Nat → ClassId) : List (ClassId × FieldType) := [(cy 0, .int), (cy 1, .byte), (cy 2, .long), (cy 3, .boolean)]
abbrev TY (cy : Nat → ClassId) : List (ClassId × FieldType) := [(cy 0, .int), (cy 1, .byte), (cy 2, .long), (cy 3, .boolean), (cy 4, .object "WhiteElephants$Shelf")]
abbrev rmD (d mc ms : Nat) : Room := { frames := d, cells := mc, slots := ms, locals := 100 * d }
/-- a method that leaves the heap as it is -/
def PC (l : Launch) (y : MethodName) (b : ByteArray) (n : Nat) (r : Option FieldType) (rm : Room) (D : va_G) (ty : List (ClassId × FieldType)) (args : List Value) (X : State → Prop) (WS : va_W) (Qc : Array Value → State → Outcome → State → Prop) : Prop :=
  Met l y (wq y b n r) rm (va_Pc args (fun U => va_P D cls WS U.heap ∧ va_K D cls ty U ∧ X U)) Qc 0 0 (fun _ => False)
/-- a method that writes its cells WS and makes new ones -/
def HC (l : Launch) (y : MethodName) (b : ByteArray) (n : Nat) (r : Option FieldType) (rm : Room) (D : va_G) (ty : List (ClassId × FieldType)) (args : List Value) (X : (Nat → Prop) → State → Prop) (WS : va_W) (Qc : (Nat → Prop) → Array Value → State → Outcome → State → Prop) : Prop :=
  ∀ sz : Nat, Met l y (wq y b n r) rm (va_Pc args (fun U => U.heap.size = sz ∧ va_P D cls WS U.heap ∧ va_K D cls ty U ∧ va_D (fun _ => True) WS ∧ X (va_A WS sz) U)) (Qc (va_A WS sz)) rm.cells rm.slots (va_A WS sz)
abbrev QI {S : Type} (D : va_G) (post : Int32 → S → Prop) (W1 : S → va_W) : (Nat → Prop) → Array Value → State → Outcome → State → Prop := fun A => va_Qi post (fun u t => va_P D cls (W1 u) t.heap ∧ va_D A (W1 u)) A
abbrev QL {S : Type} (D : va_G) (post : Int64 → S → Prop) (W1 : S → va_W) : (Nat → Prop) → Array Value → State → Outcome → State → Prop := fun A => va_Ql post (fun u t => va_P D cls (W1 u) t.heap ∧ va_D A (W1 u)) A
abbrev QV {S : Type} (D : va_G) (post : S → Prop) (W1 : S → va_W) : (Nat → Prop) → Array Value → State → Outcome → State → Prop := fun A => va_Qv post (fun u t => va_P D cls (W1 u) t.heap ∧ va_D A (W1 u)) A
abbrev NS : State → Prop := fun U => NN U
theorem ns_b : ∀ (a : Array Value) (U : State) (g : JFrame) (mk : MethodId), NS U → NS (U.calling g mk a) := fun _ _ _ _ h => NN.call h
theorem nx_b : ∀ (A : Nat → Prop) (a : Array Value) (U : State) (g : JFrame) (mk : MethodId), NX A U → NX A (U.calling g mk a) := fun _ _ _ _ _ h => NN.call h
theorem ns_w {s : State} {H : Heap} (h : NN s) : ∀ U : State, U.heap = H → s.WarmedH U.vm → NS U := fun _ _ hW => NN.warm hW h
theorem nx_w {s : State} {H : Heap} {A : Nat → Prop} (h : NN s) : ∀ U : State, U.heap = H → s.WarmedH U.vm → NX A U := fun _ _ hW => NN.warm hW h
theorem pc_intro {l : Launch} {y : MethodName} {b : ByteArray} {n : Nat} {r : Option FieldType} {rm : Room} {D : va_G} {ty : List (ClassId × FieldType)} {args : List Value} {X : State → Prop} {WS : va_W} {Qc : Array Value → State → Outcome → State → Prop} (hy : plainName y.cls = true) (hn : (lg_sl args).length ≤ n)
    (body : ∀ (p : Program) (e : Env) (s : State) (m : MethodId) (below : List Frame) (meth : Method) (c : Code) (ls : Array Slot), CallFix p m c b n s args.toArray BW y.cls → meth.sig.returnType = r → meth.locks = false → lv_has ls n (lv_args 0 args) → va_P D cls WS s.heap → va_K D cls ty s → X s →
      W p l e rm s m args.toArray below meth c s.heap [] 0 0 (MQ below Qc args.toArray s 0 0 (fun _ => False)) (F0 m 0 ls [])) : PC l y b n r rm D ty args X WS Qc := by
  refine Met.ofW (cc := b) (maxL := n) (ret := r) hy rfl ?_
  intro p e s m args' below meth c s₁ B hml hv
  obtain ⟨rfl, hP, hK, hX⟩ := hv
  have hts := atoms_spec (ws := wq y b n r) B.pre
  have hl := lv_entry args (n := n) hn
  rw [lg_entry_eq]
  generalize (lg_sl args ++ List.replicate (n - (lg_sl args).length) Slot.unset).toArray = ls at hl ⊢
  exact body p e s m below meth c ls ⟨B.exec, B.bytes, hml, findClass_of_methodNamed B.named, fun w h => hts w (List.mem_cons_of_mem _ h)⟩ B.returns B.notSynchronized hl hP hK hX
theorem hc_intro {l : Launch} {y : MethodName} {b : ByteArray} {n : Nat} {r : Option FieldType} {rm : Room} {D : va_G} {ty : List (ClassId × FieldType)} {args : List Value} {X : (Nat → Prop) → State → Prop} {WS : va_W} {Qc : (Nat → Prop) → Array Value → State → Outcome → State → Prop} (hy : plainName y.cls = true) (hn : (lg_sl args).length ≤ n)
    (body : ∀ (p : Program) (e : Env) (s : State) (m : MethodId) (below : List Frame) (meth : Method) (c : Code) (A : Nat → Prop) (ls : Array Slot), CallFix p m c b n s args.toArray BW y.cls → meth.sig.returnType = r → meth.locks = false → meth.name = y.name → lv_has ls n (lv_args 0 args) → va_P D cls WS s.heap → va_D A WS → va_K D cls ty s → va_S A s.heap s.heap [] → (∀ q : Nat, s.heap.size ≤ q → A q) → X A s →
      W p l e rm s m args.toArray below meth c s.heap [] 0 0 (MQ below (Qc A) args.toArray s rm.cells rm.slots A) (F0 m 0 ls [])) : HC l y b n r rm D ty args X WS Qc := by
  intro sz
  refine Met.ofW (cc := b) (maxL := n) (ret := r) hy rfl ?_
  intro p e s m args' below meth c s₁ B hml hv
  obtain ⟨rfl, hsz, hP, hK, hD0, hX⟩ := hv
  have hts := atoms_spec (ws := wq y b n r) B.pre
  have hl := lv_entry args (n := n) hn
  rw [lg_entry_eq]
  generalize (lg_sl args ++ List.replicate (n - (lg_sl args).length) Slot.unset).toArray = ls at hl ⊢
  subst hsz
  exact body p e s m below meth c _ ls ⟨B.exec, B.bytes, hml, findClass_of_methodNamed B.named, fun w h => hts w (List.mem_cons_of_mem _ h)⟩ B.returns B.notSynchronized (name_of_methodNamed B.named B.method).1 hl hP hD0.self hK va_S.rf (fun q h => Or.inr h) hX
theorem ci_lt {x y : Int32} {a b : Int} (hx : x.toInt = a) (hy : y.toInt = b) (h : x < y) : a < b := by subst hx; subst hy; exact Int32.lt_iff_toInt_lt.mp h
theorem ci_nlt {x y : Int32} {a b : Int} (hx : x.toInt = a) (hy : y.toInt = b) (h : ¬ x < y) : b ≤ a := by subst hx; subst hy; exact Int.not_lt.mp (fun q => h (Int32.lt_iff_toInt_lt.mpr q))
theorem ci_le {x y : Int32} {a b : Int} (hx : x.toInt = a) (hy : y.toInt = b) (h : x ≤ y) : a ≤ b := by subst hx; subst hy; exact Int32.le_iff_toInt_le.mp h
theorem ci_nle {x y : Int32} {a b : Int} (hx : x.toInt = a) (hy : y.toInt = b) (h : ¬ x ≤ y) : b < a := by subst hx; subst hy; exact Int.not_le.mp (fun q => h (Int32.le_iff_toInt_le.mpr q))
theorem ci_eq {x y : Int32} {a b : Int} (hx : x.toInt = a) (hy : y.toInt = b) (h : x = y) : a = b := by subst hx; subst hy; rw [h]
theorem ci_ne {x y : Int32} {a b : Int} (hx : x.toInt = a) (hy : y.toInt = b) (h : ¬ x = y) : ¬ a = b := by subst hx; subst hy; exact fun q => h (Int32.toInt_inj.mp q)
theorem ci_of {x y : Int32} {b : Int} (hy : y.toInt = b) (h : x.toInt = b) : x = y := Int32.toInt_inj.mp (h.trans hy.symm)
theorem ti_add {x y : Int32} {a b : Int} (hx : x.toInt = a) (hy : y.toInt = b) (h1 : -2147483648 ≤ a + b) (h2 : a + b ≤ 2147483647) : (x + y).toInt = a + b := by
  subst hx; subst hy
  rw [Int32.toInt_add]
  exact Int.bmod_eq_of_le (by omega) (by omega)
theorem ti_sub {x y : Int32} {a b : Int} (hx : x.toInt = a) (hy : y.toInt = b) (h1 : -2147483648 ≤ a - b) (h2 : a - b ≤ 2147483647) : (x - y).toInt = a - b := by
  subst hx; subst hy
  rw [Int32.toInt_sub]
  exact Int.bmod_eq_of_le (by omega) (by omega)
theorem ti_mul {x y : Int32} {a b : Int} (hx : x.toInt = a) (hy : y.toInt = b) (h1 : -2147483648 ≤ a * b) (h2 : a * b ≤ 2147483647) : (x * y).toInt = a * b := by
  subst hx; subst hy
  rw [Int32.toInt_mul]
  exact Int.bmod_eq_of_le (by omega) (by omega)
theorem mn_at {x y : Int32} {a : Int} (hx : x.toInt = a) (h : y.toInt ≤ a) : (if y < x then y else x) = y := by
  by_cases c : y < x
  · rw [if_pos c]
  · rw [if_neg c]
    have h2 := ci_nlt rfl hx c
    exact ci_of rfl (by omega)
theorem upd_c (k : Nat) (v : Int32) : upd (fun _ => v) k v = fun _ => v := by
  funext j
  simp [upd]
theorem updL_c (k : Nat) (v : Int64) : vp_updL (fun _ => v) k v = fun _ => v := by
  funext j
  simp [vp_updL]
theorem upd_at {f : Nat → Int32} {i : Int32} {x : Int32} {n : Int} (hi : i.toInt = n) (h0 : 0 ≤ n) : ∀ j : Nat, upd f i.toNatClampNeg x j = if (j : Int) = n then x else f j := by
  intro j
  have e : (i.toNatClampNeg : Int) = n := by
    subst hi
    show (i.toInt.toNat : Int) = i.toInt
    omega
  by_cases h : (j : Int) = n
  · rw [if_pos h]; simp [upd, show j = i.toNatClampNeg by omega]
  · rw [if_neg h]; simp [upd, show ¬ j = i.toNatClampNeg by omega]
theorem nc_at {i : Int32} (h0 : 0 ≤ i.toInt) : (i.toNatClampNeg : Int) = i.toInt := by
  show (i.toInt.toNat : Int) = i.toInt
  omega
theorem vi_of {x : Int32} {n : Nat} (h : 0 ≤ x.toInt ∧ x.toInt < (n : Int)) : vp_in x n := vp_in_iff.mpr h
theorem vi_lt {x : Int32} {n : Nat} (h : vp_in x n) : x.toNatClampNeg < n := Nat.lt_of_not_le (fun q => h (Or.inr q))
/-- one of two answers, by a condition -/
abbrev if2 (P : Prop) (a b r : Int32) : Prop := (P ∧ r = a) ∨ (¬ P ∧ r = b)
theorem if2_eq {P : Prop} {a b r t : Int32} (h1 : if2 P a b r) (h2 : if2 P a b t) : r = t := by
  rcases h1 with ⟨p, h⟩ | ⟨p, h⟩ <;> rcases h2 with ⟨q, k⟩ | ⟨q, k⟩
  · rw [h, k]
  · exact absurd p q
  · exact absurd q p
  · rw [h, k]
section WK2
variable {p : Program} {l : Launch} {e : Env} {R : Room} {s : State} {m : MethodId} {args : Array Value} {below : List Frame} {meth : Method} {c : Code} {H : Heap} {locs : List Loc} {cells slots : Nat} {Q : State → Prop}
variable {cc : ByteArray} {pc nL idx n k : Nat} {ls : Array Slot} {own : String} {y : MethodName} {b : ByteArray} {r : Option FieldType} {rm : Room} {o : Nat} {st0 : List Value} {D : va_G} {ty : List (ClassId × FieldType)} {X : State → Prop} {Y : (Nat → Prop) → State → Prop} {ws wc wr : va_W} {A0 : Nat → Prop} {H0 : Heap}
theorem pc_bl {av : List (ClassId × FieldType)} {WS : va_W} (hX : ∀ (a : Array Value) (U : State) (g : JFrame) (mk : MethodId), X U → X (U.calling g mk a)) : ∀ (a : Array Value) (U : State) (g : JFrame) (mk : MethodId), (va_P D cls WS U.heap ∧ va_K D cls av U ∧ X U) → (va_P D cls WS (U.calling g mk a).heap ∧ va_K D cls av (U.calling g mk a) ∧ X (U.calling g mk a)) := fun a U g mk q => ⟨q.1, va_K.moved (u := U) (U := U.calling g mk a) (Vm.Alike.refl U.vm) q.2.1, hX a U g mk q.2.2⟩
theorem hc_bl {av : List (ClassId × FieldType)} {WS : va_W} {sz : Nat} {A : Nat → Prop} (hX : ∀ (A : Nat → Prop) (a : Array Value) (U : State) (g : JFrame) (mk : MethodId), Y A U → Y A (U.calling g mk a)) : ∀ (a : Array Value) (U : State) (g : JFrame) (mk : MethodId), (U.heap.size = sz ∧ va_P D cls WS U.heap ∧ va_K D cls av U ∧ va_D (fun _ => True) WS ∧ Y A U) → ((U.calling g mk a).heap.size = sz ∧ va_P D cls WS (U.calling g mk a).heap ∧ va_K D cls av (U.calling g mk a) ∧ va_D (fun _ => True) WS ∧ Y A (U.calling g mk a)) := fun a U g mk q => ⟨q.1, q.2.1, va_K.moved (u := U) (U := U.calling g mk a) (Vm.Alike.refl U.vm) q.2.2.1, q.2.2.2.1, hX A a U g mk q.2.2.2.2⟩
/-- the ends -/
theorem pc_ret {post : Int32 → Prop} {v : Int32} (Sx : CallFix p m c cc nL s args BW own) {ft : FieldType} (hr : meth.sig.returnType = some ft) (hlocks : meth.locks = false) (hn : narrow ft (.int v) = .int v) (hdg : decode cc pc = .ok (.ireturn, 1)) (hv : post v) : W p l e R s m args below meth c s.heap [] cells slots (MQ below (vp_Si post) args s cells slots (fun _ => False)) (F0 m pc ls [.int v]) :=
  W.zret Sx.1 Sx.2.1 hr hn (fun t ht _ => ⟨v, rfl, hv, ht⟩) (fun q h => absurd h List.not_mem_nil) hdg hlocks
theorem pc_vret {post : Unit → Prop} (Sx : CallFix p m c cc nL s args BW own) (hr : meth.sig.returnType = none) (hlocks : meth.locks = false) (hdg : decode cc pc = .ok (.return_, 1)) (hv : post ()) : W p l e R s m args below meth c s.heap [] cells slots (MQ below (va_Sv post) args s cells slots (fun _ => False)) (F0 m pc ls []) :=
  W.vret Sx.1 Sx.2.1 hr (fun t ht _ => ⟨rfl, hv, ht⟩) (fun q h => absurd h List.not_mem_nil) hdg hlocks
theorem pc_lret {post : Int64 → Prop} {v : Int64} (Sx : CallFix p m c cc nL s args BW own) (hr : meth.sig.returnType = some .long) (hlocks : meth.locks = false) (hdg : decode cc pc = .ok (.lreturn, 1)) (hv : post v) : W p l e R s m args below meth c s.heap [] cells slots (MQ below (vp_Sl post) args s cells slots (fun _ => False)) (F0 m pc ls [.long v]) :=
  W.lret Sx.1 Sx.2.1 hr (fun t ht _ => ⟨v, rfl, hv, ht⟩) (fun q h => absurd h List.not_mem_nil) hdg hlocks
theorem hc_ret {S : Type} {post : Int32 → S → Prop} {W1 : S → va_W} {v : Int32} (Sx : CallFix p m c cc nL s args BW own) (hr : meth.sig.returnType = some .int) (hlocks : meth.locks = false) (hdg : decode cc pc = .ok (.ireturn, 1)) (hS : va_S A0 s.heap H locs) (u : S) (hv : post v u) (hP : va_P D cls (W1 u) H) (hD : va_D A0 (W1 u)) : W p l e R s m args below meth c H locs cells slots (MQ below (QI D post W1 A0) args s cells slots A0) (F0 m pc ls [.int v]) :=
  W.iret Sx.1 Sx.2.1 hr (fun t ht _ => ⟨⟨v, u, rfl, hv, by rw [ht]; exact hP, hD⟩, hS.F ht⟩) hS.2.2 hdg hlocks
theorem hc_vret {S : Type} {post : S → Prop} {W1 : S → va_W} (Sx : CallFix p m c cc nL s args BW own) (hr : meth.sig.returnType = none) (hlocks : meth.locks = false) (hdg : decode cc pc = .ok (.return_, 1)) (hS : va_S A0 s.heap H locs) (u : S) (hv : post u) (hP : va_P D cls (W1 u) H) (hD : va_D A0 (W1 u)) : W p l e R s m args below meth c H locs cells slots (MQ below (QV D post W1 A0) args s cells slots A0) (F0 m pc ls []) :=
  W.vret Sx.1 Sx.2.1 hr (fun t ht _ => ⟨⟨u, rfl, hv, by rw [ht]; exact hP, hD⟩, hS.F ht⟩) hS.2.2 hdg hlocks
theorem hc_lret {S : Type} {post : Int64 → S → Prop} {W1 : S → va_W} {v : Int64} (Sx : CallFix p m c cc nL s args BW own) (hr : meth.sig.returnType = some .long) (hlocks : meth.locks = false) (hdg : decode cc pc = .ok (.lreturn, 1)) (hS : va_S A0 s.heap H locs) (u : S) (hv : post v u) (hP : va_P D cls (W1 u) H) (hD : va_D A0 (W1 u)) : W p l e R s m args below meth c H locs cells slots (MQ below (QL D post W1 A0) args s cells slots A0) (F0 m pc ls [.long v]) :=
  W.lret Sx.1 Sx.2.1 hr (fun t ht _ => ⟨⟨v, u, rfl, hv, by rw [ht]; exact hP, hD⟩, hS.F ht⟩) hS.2.2 hdg hlocks
/-- calls of a method that leaves the heap as it is: what it answers -/
theorem pk_i {post : Int32 → Prop} {a : Array Value} {rest : List Value} (hr : va_Run p l e R s m args below meth c H locs cells slots 0 0 (F0 m pc ls st0) rest (vp_Si post a) (fun _ => False)) (kk : ∀ v : Int32, post v → W p l e R s m args below meth c H locs cells slots Q (F0 m (pc + 3) ls (.int v :: rest))) : W p l e R s m args below meth c H locs cells slots Q (F0 m pc ls st0) := vp_callSi hr.run kk
theorem pk_l {post : Int64 → Prop} {a : Array Value} {rest : List Value} (hr : va_Run p l e R s m args below meth c H locs cells slots 0 0 (F0 m pc ls st0) rest (vp_Sl post a) (fun _ => False)) (kk : ∀ v : Int64, post v → W p l e R s m args below meth c H locs cells slots Q (F0 m (pc + 3) ls (.long v :: rest))) : W p l e R s m args below meth c H locs cells slots Q (F0 m pc ls st0) := vp_callSl hr.run kk
theorem pk_v {post : Unit → Prop} {a : Array Value} {rest : List Value} (hr : va_Run p l e R s m args below meth c H locs cells slots 0 0 (F0 m pc ls st0) rest (va_Sv post a) (fun _ => False)) (kk : post () → W p l e R s m args below meth c H locs cells slots Q (F0 m (pc + 3) ls rest)) : W p l e R s m args below meth c H locs cells slots Q (F0 m pc ls st0) := va_csv hr.run kk
theorem pc_V {Qc : Array Value → State → Outcome → State → Prop} (As rest : List Value) (Sx : CallFix p m c cc nL s args BW own) (hls : ls.size = nL) (w : WV own idx y b n r) (md : MD y k) (hM : PC l y b n r rm D ty (.ref o :: As) X wc Qc) (hrm : rm.cells = 0 ∧ rm.slots = 0) (hR : rm.frames + 1 ≤ R.frames ∧ 8 + (n + 11) + rm.locals ≤ R.locals) (hP : va_P D cls wc H) (hK : va_K D cls ty s) (hXb : ∀ (a : Array Value) (U : State) (g : JFrame) (mk : MethodId), X U → X (U.calling g mk a)) (hX : ∀ U : State, U.heap = H → s.WarmedH U.vm → X U)
    (hrv : ∃ cell : Cell, H[o]? = some cell ∧ cell.vm.isStatics = false ∧ s.vm.findClass y.cls = some cell.cls) (hn : As.length = k) (hst : st0 = As.reverse ++ .ref o :: rest) (hW : (rest.map fun v => v.category).sum ≤ 8) (hdg : decode cc pc = .ok (.invokevirtual idx, 3)) (hf : cells + 0 ≤ R.cells ∧ slots + 0 ≤ R.slots) :
    va_Run p l e R s m args below meth c H locs cells slots 0 0 (F0 m pc ls st0) rest (Qc (Value.ref o :: As).toArray) (fun _ => False) :=
  wk_rV As rest Sx hls w md hM hrm hR (pc_bl hXb) (fun U hU hW => ⟨by rw [hU]; exact hP, va_K.moved hW.alike hK, hX U hU hW⟩) hrv hn hst hW hdg hf
theorem pc_T {Qc : Array Value → State → Outcome → State → Prop} (As rest : List Value) (Sx : CallFix p m c cc nL s args BW own) (hls : ls.size = nL) (w : WT own idx y b n r) (md : MD y k) (hM : PC l y b n r rm D ty As X wc Qc) (hrm : rm.cells = 0 ∧ rm.slots = 0) (hR : rm.frames + 1 ≤ R.frames ∧ 8 + (n + 11) + rm.locals ≤ R.locals) (hP : va_P D cls wc H) (hK : va_K D cls ty s) (hXb : ∀ (a : Array Value) (U : State) (g : JFrame) (mk : MethodId), X U → X (U.calling g mk a)) (hX : ∀ U : State, U.heap = H → s.WarmedH U.vm → X U)
    (hn : As.length = k) (hst : st0 = As.reverse ++ rest) (hW : (rest.map fun v => v.category).sum ≤ 8) (hdg : decode cc pc = .ok (.invokestatic idx, 3)) (hf : cells + 0 ≤ R.cells ∧ slots + 0 ≤ R.slots) :
    va_Run p l e R s m args below meth c H locs cells slots 0 0 (F0 m pc ls st0) rest (Qc As.toArray) (fun _ => False) :=
  wk_rT As rest Sx hls w md hM hrm hR (pc_bl hXb) (fun U hU hW => ⟨by rw [hU]; exact hP, va_K.moved hW.alike hK, hX U hU hW⟩) hn hst hW hdg hf
theorem pc_TN {Qc : Array Value → State → Outcome → State → Prop} (As rest : List Value) (Sx : CallFix p m c cc nL s args BW own) (hNN : NN s) (hls : ls.size = nL) (w : WTN own idx y b n r) (md : MD y k) (hM : PC l y b n r rm D ty As X wc Qc) (hrm : rm.cells = 0 ∧ rm.slots = 0) (hR : rm.frames + 1 ≤ R.frames ∧ 8 + (n + 11) + rm.locals ≤ R.locals) (hP : va_P D cls wc H) (hK : va_K D cls ty s) (hXb : ∀ (a : Array Value) (U : State) (g : JFrame) (mk : MethodId), X U → X (U.calling g mk a)) (hX : ∀ U : State, U.heap = H → s.WarmedH U.vm → X U)
    (hn : As.length = k) (hst : st0 = As.reverse ++ rest) (hW : (rest.map fun v => v.category).sum ≤ 8) (hdg : decode cc pc = .ok (.invokestatic idx, 3)) (hf : cells + 0 ≤ R.cells ∧ slots + 0 ≤ R.slots) :
    va_Run p l e R s m args below meth c H locs cells slots 0 0 (F0 m pc ls st0) rest (Qc As.toArray) (fun _ => False) :=
  wk_rTN As rest Sx hNN hls w md hM hrm hR (pc_bl hXb) (fun U hU hW => ⟨by rw [hU]; exact hP, va_K.moved hW.alike hK, hX U hU hW⟩) hn hst hW hdg hf
/-- calls of a method that writes -/
theorem hc_V {Qc : (Nat → Prop) → Array Value → State → Outcome → State → Prop} (As rest : List Value) (isC : List Nat) (Sx : CallFix p m c cc nL s args BW own) (hls : ls.size = nL) (w : WV own idx y b n r) (md : MD y k) (hM : HC l y b n r rm D ty (.ref o :: As) Y wc Qc) (hR : rm.frames + 1 ≤ R.frames ∧ 8 + (n + 11) + rm.locals ≤ R.locals) (hP : va_P D cls ws H) (hD : va_D A0 ws) (hC : isC.map (fun i => ws[i]?) = wc.map some) (hnC : va_nd isC = true) (hK : va_K D cls ty s) (hXb : ∀ (A : Nat → Prop) (a : Array Value) (U : State) (g : JFrame) (mk : MethodId), Y A U → Y A (U.calling g mk a)) (hX : ∀ U : State, U.heap = H → s.WarmedH U.vm → Y (va_A wc H.size) U)
    (hrv : ∃ cell : Cell, H[o]? = some cell ∧ cell.vm.isStatics = false ∧ s.vm.findClass y.cls = some cell.cls) (hn : As.length = k) (hst : st0 = As.reverse ++ .ref o :: rest) (hW : (rest.map fun v => v.category).sum ≤ 8) (hdg : decode cc pc = .ok (.invokevirtual idx, 3)) (hf : cells + rm.cells ≤ R.cells ∧ slots + rm.slots ≤ R.slots) :
    va_Run p l e R s m args below meth c H locs cells slots rm.cells rm.slots (F0 m pc ls st0) rest (Qc (va_A wc H.size) (Value.ref o :: As).toArray) (va_A wc H.size) :=
  wk_rV As rest Sx hls w md (hM H.size) ⟨rfl, rfl⟩ hR (hc_bl hXb) (fun U hU hW => ⟨by rw [hU], by rw [hU]; exact wk_subC hP hC, va_K.moved hW.alike hK, (hD.sub isC hnC hC).weaken (fun _ _ _ _ => trivial), hX U hU hW⟩) hrv hn hst hW hdg hf
theorem hc_T {Qc : (Nat → Prop) → Array Value → State → Outcome → State → Prop} (As rest : List Value) (isC : List Nat) (Sx : CallFix p m c cc nL s args BW own) (hls : ls.size = nL) (w : WT own idx y b n r) (md : MD y k) (hM : HC l y b n r rm D ty As Y wc Qc) (hR : rm.frames + 1 ≤ R.frames ∧ 8 + (n + 11) + rm.locals ≤ R.locals) (hP : va_P D cls ws H) (hD : va_D A0 ws) (hC : isC.map (fun i => ws[i]?) = wc.map some) (hnC : va_nd isC = true) (hK : va_K D cls ty s) (hXb : ∀ (A : Nat → Prop) (a : Array Value) (U : State) (g : JFrame) (mk : MethodId), Y A U → Y A (U.calling g mk a)) (hX : ∀ U : State, U.heap = H → s.WarmedH U.vm → Y (va_A wc H.size) U)
    (hn : As.length = k) (hst : st0 = As.reverse ++ rest) (hW : (rest.map fun v => v.category).sum ≤ 8) (hdg : decode cc pc = .ok (.invokestatic idx, 3)) (hf : cells + rm.cells ≤ R.cells ∧ slots + rm.slots ≤ R.slots) :
    va_Run p l e R s m args below meth c H locs cells slots rm.cells rm.slots (F0 m pc ls st0) rest (Qc (va_A wc H.size) As.toArray) (va_A wc H.size) :=
  wk_rT As rest Sx hls w md (hM H.size) ⟨rfl, rfl⟩ hR (hc_bl hXb) (fun U hU hW => ⟨by rw [hU], by rw [hU]; exact wk_subC hP hC, va_K.moved hW.alike hK, (hD.sub isC hnC hC).weaken (fun _ _ _ _ => trivial), hX U hU hW⟩) hn hst hW hdg hf
theorem hc_I {Qc : (Nat → Prop) → Array Value → State → Outcome → State → Prop} (As rest : List Value) (isC : List Nat) (Sx : CallFix p m c cc nL s args BW own) (hls : ls.size = nL) (w : WI own idx y b n) (md : MD y k) (hi : y.name = "<init>") (hM : HC l y b n none rm D ty (.ref o :: As) Y wc Qc) (hR : rm.frames + 1 ≤ R.frames ∧ 8 + (n + 11) + rm.locals ≤ R.locals) (hP : va_P D cls ws H) (hD : va_D A0 ws) (hC : isC.map (fun i => ws[i]?) = wc.map some) (hnC : va_nd isC = true) (hK : va_K D cls ty s) (hXb : ∀ (A : Nat → Prop) (a : Array Value) (U : State) (g : JFrame) (mk : MethodId), Y A U → Y A (U.calling g mk a)) (hX : ∀ U : State, U.heap = H → s.WarmedH U.vm → Y (va_A wc H.size) U)
    (hn : As.length = k) (hst : st0 = As.reverse ++ .ref o :: rest) (hW : (rest.map fun v => v.category).sum ≤ 8) (hdg : decode cc pc = .ok (.invokespecial idx, 3)) (hf : cells + rm.cells ≤ R.cells ∧ slots + rm.slots ≤ R.slots) :
    va_Run p l e R s m args below meth c H locs cells slots rm.cells rm.slots (F0 m pc ls st0) rest (Qc (va_A wc H.size) (Value.ref o :: As).toArray) (va_A wc H.size) :=
  wk_rI As rest Sx hls w md hi (hM H.size) ⟨rfl, rfl⟩ hR (hc_bl hXb) (fun U hU hW => ⟨by rw [hU], by rw [hU]; exact wk_subC hP hC, va_K.moved hW.alike hK, (hD.sub isC hnC hC).weaken (fun _ _ _ _ => trivial), hX U hU hW⟩) hn hst hW hdg hf
theorem hc_IN {Qc : (Nat → Prop) → Array Value → State → Outcome → State → Prop} (As rest : List Value) (isC : List Nat) (Sx : CallFix p m c cc nL s args BW own) (hNN : NN s) (hls : ls.size = nL) (w : WIN own idx y b n) (md : MD y k) (hi : y.name = "<init>") (hM : HC l y b n none rm D ty (.ref o :: As) Y wc Qc) (hR : rm.frames + 1 ≤ R.frames ∧ 8 + (n + 11) + rm.locals ≤ R.locals) (hP : va_P D cls ws H) (hD : va_D A0 ws) (hC : isC.map (fun i => ws[i]?) = wc.map some) (hnC : va_nd isC = true) (hK : va_K D cls ty s) (hXb : ∀ (A : Nat → Prop) (a : Array Value) (U : State) (g : JFrame) (mk : MethodId), Y A U → Y A (U.calling g mk a)) (hX : ∀ U : State, U.heap = H → s.WarmedH U.vm → Y (va_A wc H.size) U)
    (hn : As.length = k) (hst : st0 = As.reverse ++ .ref o :: rest) (hW : (rest.map fun v => v.category).sum ≤ 8) (hdg : decode cc pc = .ok (.invokespecial idx, 3)) (hf : cells + rm.cells ≤ R.cells ∧ slots + rm.slots ≤ R.slots) :
    va_Run p l e R s m args below meth c H locs cells slots rm.cells rm.slots (F0 m pc ls st0) rest (Qc (va_A wc H.size) (Value.ref o :: As).toArray) (va_A wc H.size) :=
  wk_rIN As rest Sx hNN hls w md hi (hM H.size) ⟨rfl, rfl⟩ hR (hc_bl hXb) (fun U hU hW => ⟨by rw [hU], by rw [hU]; exact wk_subC hP hC, va_K.moved hW.alike hK, (hD.sub isC hnC hC).weaken (fun _ _ _ _ => trivial), hX U hU hW⟩) hn hst hW hdg hf
/-- behind such a call: what it left, beside the rest -/
theorem hk_i {S : Type} {post : Int32 → S → Prop} {W1 : S → va_W} {a : Array Value} {rest : List Value} {mc ms c1 s1 : Nat} (isC isR : List Nat) (hr : va_Run p l e R s m args below meth c H locs cells slots mc ms (F0 m pc ls st0) rest (QI D post W1 (va_A wc H.size) a) (va_A wc H.size)) (hS : va_S A0 H0 H locs) (hA : ∀ q : Nat, H0.size ≤ q → A0 q) (hP : va_P D cls ws H) (hD : va_D A0 ws) (hC : isC.map (fun i => ws[i]?) = wc.map some) (hRr : isR.map (fun i => ws[i]?) = wr.map some) (hn : va_nd isR = true) (hdis : ∀ i ∈ isR, i ∉ isC) (h1 : cells + mc = c1) (h2 : slots + ms = s1)
    (kk : ∀ (v : Int32) (u : S) (H1 : Heap) (locs1 : List Loc), post v u → va_P D cls (wr ++ W1 u) H1 → va_D A0 (wr ++ W1 u) → va_S A0 H0 H1 locs1 → W p l e R s m args below meth c H1 locs1 c1 s1 Q (F0 m (pc + 3) ls (.int v :: rest))) : W p l e R s m args below meth c H locs cells slots Q (F0 m pc ls st0) := by
  subst h1; subst h2
  have hFc := va_free hD hS hA isC hC
  refine va_calli hr hS (fun q _ h => hFc q h) hFc (fun v u t H1 locs1 ht hvm hw hB hz hk hS1 => ?_)
  obtain ⟨hP1, hD1⟩ := hB
  rw [ht] at hP1
  obtain ⟨hP2, hD2⟩ := va_join hP hD isC isR hC hRr hn hdis hk hFc hP1 hD1
  exact kk v u H1 locs1 hw hP2 hD2 hS1
theorem hk_l {S : Type} {post : Int64 → S → Prop} {W1 : S → va_W} {a : Array Value} {rest : List Value} {mc ms c1 s1 : Nat} (isC isR : List Nat) (hr : va_Run p l e R s m args below meth c H locs cells slots mc ms (F0 m pc ls st0) rest (QL D post W1 (va_A wc H.size) a) (va_A wc H.size)) (hS : va_S A0 H0 H locs) (hA : ∀ q : Nat, H0.size ≤ q → A0 q) (hP : va_P D cls ws H) (hD : va_D A0 ws) (hC : isC.map (fun i => ws[i]?) = wc.map some) (hRr : isR.map (fun i => ws[i]?) = wr.map some) (hn : va_nd isR = true) (hdis : ∀ i ∈ isR, i ∉ isC) (h1 : cells + mc = c1) (h2 : slots + ms = s1)
    (kk : ∀ (v : Int64) (u : S) (H1 : Heap) (locs1 : List Loc), post v u → va_P D cls (wr ++ W1 u) H1 → va_D A0 (wr ++ W1 u) → va_S A0 H0 H1 locs1 → W p l e R s m args below meth c H1 locs1 c1 s1 Q (F0 m (pc + 3) ls (.long v :: rest))) : W p l e R s m args below meth c H locs cells slots Q (F0 m pc ls st0) := by
  subst h1; subst h2
  have hFc := va_free hD hS hA isC hC
  refine va_calll hr hS (fun q _ h => hFc q h) hFc (fun v u t H1 locs1 ht hvm hw hB hz hk hS1 => ?_)
  obtain ⟨hP1, hD1⟩ := hB
  rw [ht] at hP1
  obtain ⟨hP2, hD2⟩ := va_join hP hD isC isR hC hRr hn hdis hk hFc hP1 hD1
  exact kk v u H1 locs1 hw hP2 hD2 hS1
theorem hk_v {S : Type} {post : S → Prop} {W1 : S → va_W} {a : Array Value} {rest : List Value} {mc ms c1 s1 : Nat} (isC isR : List Nat) (hr : va_Run p l e R s m args below meth c H locs cells slots mc ms (F0 m pc ls st0) rest (QV D post W1 (va_A wc H.size) a) (va_A wc H.size)) (hS : va_S A0 H0 H locs) (hA : ∀ q : Nat, H0.size ≤ q → A0 q) (hP : va_P D cls ws H) (hD : va_D A0 ws) (hC : isC.map (fun i => ws[i]?) = wc.map some) (hRr : isR.map (fun i => ws[i]?) = wr.map some) (hn : va_nd isR = true) (hdis : ∀ i ∈ isR, i ∉ isC) (h1 : cells + mc = c1) (h2 : slots + ms = s1)
    (kk : ∀ (u : S) (H1 : Heap) (locs1 : List Loc), post u → va_P D cls (wr ++ W1 u) H1 → va_D A0 (wr ++ W1 u) → va_S A0 H0 H1 locs1 → W p l e R s m args below meth c H1 locs1 c1 s1 Q (F0 m (pc + 3) ls rest)) : W p l e R s m args below meth c H locs cells slots Q (F0 m pc ls st0) := by
  subst h1; subst h2
  have hFc := va_free hD hS hA isC hC
  refine va_callv hr hS (fun q _ h => hFc q h) hFc (fun u t H1 locs1 ht hvm hw hB hz hk hS1 => ?_)
  obtain ⟨hP1, hD1⟩ := hB
  rw [ht] at hP1
  obtain ⟨hP2, hD2⟩ := va_join hP hD isC isR hC hRr hn hdis hk hFc hP1 hD1
  exact kk u H1 locs1 hw hP2 hD2 hS1
/-- loops: a measure that falls -/
theorem pl1 (head nL : Nat) {α : Type} (lvf : α → List (Nat × Value)) (I : α → Prop) (μ : α → Nat) (step : ∀ (x : α) (ls : Array Slot), I x → lv_has ls nL (lvf x) → (∀ (x' : α) (ls' : Array Slot), I x' → μ x' < μ x → lv_has ls' nL (lvf x') → W p l e R s m args below meth c H locs cells slots Q (F0 m head ls' [])) → W p l e R s m args below meth c H locs cells slots Q (F0 m head ls [])) (x : α) (h : I x) (hl : lv_has ls nL (lvf x)) : W p l e R s m args below meth c H locs cells slots Q (F0 m head ls []) := by
  have key : ∀ (n : Nat) (x : α) (ls : Array Slot), μ x < n → I x → lv_has ls nL (lvf x) → W p l e R s m args below meth c H locs cells slots Q (F0 m head ls []) := by
    intro n
    induction n with
    | zero => intro x ls h; exact absurd h (Nat.not_lt_zero _)
    | succ n ih => intro x ls h hI hl; exact step x ls hI hl (fun x' ls' hI' hm hl' => ih x' ls' (Nat.lt_of_lt_of_le hm (Nat.le_of_lt_succ h)) hI' hl')
  exact key _ x ls (Nat.lt_succ_self _) h hl
theorem gl1 (head nL : Nat) {α : Type} (wsf : α → va_W) (lvf : α → List (Nat × Value)) (I : α → Prop) (μ : α → Nat) (step : ∀ (x : α) (H : Heap) (locs : List Loc) (ls : Array Slot), I x → lv_has ls nL (lvf x) → va_P D cls (wsf x) H → va_D A0 (wsf x) → va_S A0 H0 H locs → (∀ (x' : α) (H' : Heap) (locs' : List Loc) (ls' : Array Slot), I x' → μ x' < μ x → lv_has ls' nL (lvf x') → va_P D cls (wsf x') H' → va_D A0 (wsf x') → va_S A0 H0 H' locs' → W p l e R s m args below meth c H' locs' cells slots Q (F0 m head ls' [])) → W p l e R s m args below meth c H locs cells slots Q (F0 m head ls [])) (x : α) (h : I x) (hl : lv_has ls nL (lvf x)) (hP : va_P D cls (wsf x) H) (hD : va_D A0 (wsf x)) (hS : va_S A0 H0 H locs) : W p l e R s m args below meth c H locs cells slots Q (F0 m head ls []) := by
  have key : ∀ (n : Nat) (x : α) (H : Heap) (locs : List Loc) (ls : Array Slot), μ x < n → I x → lv_has ls nL (lvf x) → va_P D cls (wsf x) H → va_D A0 (wsf x) → va_S A0 H0 H locs → W p l e R s m args below meth c H locs cells slots Q (F0 m head ls []) := by
    intro n
    induction n with
    | zero => intro x H locs ls h; exact absurd h (Nat.not_lt_zero _)
    | succ n ih => intro x H locs ls h hI hl hP hD hS; exact step x H locs ls hI hl hP hD hS (fun x' H' locs' ls' hI' hm hl' hP' hD' hS' => ih x' H' locs' ls' (Nat.lt_of_lt_of_le hm (Nat.le_of_lt_succ h)) hI' hl' hP' hD' hS')
  exact key _ x H locs ls (Nat.lt_succ_self _) h hl hP hD hS
/-- fields and elements, with the world behind them named -/
def EF (C : String) (T : u_T) (N : Nat) (t : Nat → FieldType) : Prop := (∀ w ∈ u_ws C T N, w ∈ BW) ∧ (∀ k, k < N → parseFieldDescriptor (T k).2.2.1 = some (t k)) ∧ (∀ a, a < N → ∀ b, b < N → a ≠ b → (T a).2.1 ≠ (T b).2.1)
theorem wk_get {C : String} {T : u_T} {N ci a : Nat} {t : Nat → FieldType} {rest : List Value} (Sx : CallFix p m c cc nL s args BW own) (ef : EF C T N t) (hK : va_K D cls ty s) (hP : va_P D cls ws H) (q0 : Nat) {fs : List Value} (he : ws[q0]? = some (a, .inr (ci, fs))) (hc : cls[ci]? = some (C, T, N)) (k : Nat) (hk : k < N) (hlink : Cond.fieldLink own idx (T k).1 (T k).2.1 (T k).2.2.1 ∈ BW) {v : Value} (hv : fs[k]? = some v) (hdg : decode cc pc = .ok (.getfield idx, 3)) (kk : W p l e R s m args below meth c H locs cells slots Q (F0 m (pc + 3) ls (v :: rest))) : W p l e R s m args below meth c H locs cells slots Q (F0 m pc ls (.ref a :: rest)) :=
  va_get Sx.1 Sx.2.1 Sx.2.2.2.2 ef.1 Sx.2.2.2.1 hK hP q0 he hc k hk (Sx.2.2.2.2 _ hlink) (fun _ h => h) hv hdg kk
theorem wk_put {C : String} {T : u_T} {N ci a : Nat} {t : Nat → FieldType} {rest : List Value} {ws' : va_W} (Sx : CallFix p m c cc nL s args BW own) (ef : EF C T N t) (hK : va_K D cls ty s) (hP : va_P D cls ws H) (hD : va_D A0 ws) (hS : va_S A0 H0 H locs) (q0 : Nat) {fs : List Value} (he : ws[q0]? = some (a, .inr (ci, fs))) (hc : cls[ci]? = some (C, T, N)) (k : Nat) (hk : k < N) (hlink : Cond.fieldLink own idx (T k).1 (T k).2.1 (T k).2.2.1 ∈ BW) (hfin : (T k).2.2.2 = false) {v : Value} (hn : narrow (t k) v = v) (hfit : fits (t k) v = true) (hl : k < fs.length) (hdg : decode cc pc = .ok (.putfield idx, 3)) (hw : ws.set q0 (a, .inr (ci, fs.set k v)) = ws')
    (kk : ∀ (H1 : Heap) (locs1 : List Loc), va_P D cls ws' H1 → va_D A0 ws' → va_S A0 H0 H1 locs1 → W p l e R s m args below meth c H1 locs1 cells slots Q (F0 m (pc + 3) ls rest)) : W p l e R s m args below meth c H locs cells slots Q (F0 m pc ls (v :: .ref a :: rest)) := by
  subst hw
  exact va_put Sx.1 Sx.2.1 Sx.2.2.2.2 ef.1 t ef.2.1 ef.2.2 Sx.2.2.2.1 hK hP hD hS q0 he hc k hk (Sx.2.2.2.2 _ hlink) (fun _ h => h) hfin (ef.2.1 k hk) hn hfit hl hdg kk
theorem wk_putF {C : String} {T : u_T} {N ci a : Nat} {t : Nat → FieldType} {rest : List Value} {ws' : va_W} (Sx : CallFix p m c cc nL s args BW own) (ef : EF C T N t) (hK : va_K D cls ty s) (hP : va_P D cls ws H) (hD : va_D A0 ws) (hS : va_S A0 H0 H locs) (q0 : Nat) {fs : List Value} (he : ws[q0]? = some (a, .inr (ci, fs))) (hc : cls[ci]? = some (C, T, N)) (k : Nat) (hk : k < N) (hlink : Cond.fieldLink own idx (T k).1 (T k).2.1 (T k).2.2.1 ∈ BW) (hfin : (T k).2.2.2 = true) (hin : meth.name = "<init>") (hdecl : (T k).1 = own) {v : Value} (hn : narrow (t k) v = v) (hfit : fits (t k) v = true) (hl : k < fs.length) (hdg : decode cc pc = .ok (.putfield idx, 3)) (hw : ws.set q0 (a, .inr (ci, fs.set k v)) = ws')
    (kk : ∀ (H1 : Heap) (locs1 : List Loc), va_P D cls ws' H1 → va_D A0 ws' → va_S A0 H0 H1 locs1 → W p l e R s m args below meth c H1 locs1 cells slots Q (F0 m (pc + 3) ls rest)) : W p l e R s m args below meth c H locs cells slots Q (F0 m pc ls (v :: .ref a :: rest)) := by
  subst hw
  exact va_putF Sx.1 Sx.2.1 Sx.2.2.2.2 ef.1 t ef.2.1 ef.2.2 Sx.2.2.2.1 hK hP hD hS q0 he hc k hk (Sx.2.2.2.2 _ hlink) (fun _ h => h) hfin hin hdecl (ef.2.1 k hk) hn hfit hl hdg kk
theorem wk_new {C : String} {T : u_T} {N ci : Nat} {t : Nat → FieldType} {rest : List Value} {fs : List Value} {c1 s1 : Nat} (Sx : CallFix p m c cc nL s args BW own) (ef : EF C T N t) (hK : va_K D cls ty s) (hP : va_P D cls ws H) (hD : va_D A0 ws) (hS : va_S A0 H0 H locs) (hA : ∀ q : Nat, H0.size ≤ q → A0 q) (hc : cls[ci]? = some (C, T, N)) (hcl : Cond.classLink own idx C ∈ BW) (hinst : Cond.instantiable C N ∈ BW) (hini : Cond.initialized C ∈ BW) (hfs : ∀ j, j < N → defaultValue (t j) = vp_V fs j) (hcells : cells + 1 ≤ R.cells) (hslots : slots + N ≤ R.slots) (h1 : cells + 1 = c1) (h2 : slots + N = s1) (hdg : decode cc pc = .ok (.new idx, 3))
    (kk : ∀ (q : Nat) (H1 : Heap), va_P D cls (ws ++ [(q, .inr (ci, fs))]) H1 → va_D A0 (ws ++ [(q, .inr (ci, fs))]) → va_S A0 H0 H1 locs → W p l e R s m args below meth c H1 locs c1 s1 Q (F0 m (pc + 3) ls (.ref q :: rest))) : W p l e R s m args below meth c H locs cells slots Q (F0 m pc ls rest) := by
  subst h1; subst h2
  exact va_new Sx.1 Sx.2.1 Sx.2.2.2.2 ef.1 t ef.2.1 Sx.2.2.2.1 (Sx.2.2.2.2 _ hcl) (Sx.2.2.2.2 _ hinst) (Sx.2.2.2.2 _ hini) hK hP hD hS hA hc hfs hcells hslots hdg kk
theorem wk_newa {at_ : ArrayType} {ft : FieldType} {rest : List Value} {c1 s1 : Nat} {cI : ClassId} (Sx : CallFix p m c cc nL s args BW own) (harr : Cond.arrayClass (newarray.typeOf at_) ∈ BW) (hty : newarray.typeOf at_ = ft) (hK : va_K D cls ty s) (t0 : Nat) (ht : ty[t0]? = some (cI, ft)) (hprim : ∀ c1 : ClassId, va_RA s c1 ft → s.vm.findClass ("[" ++ ft.toString) = some c1) (hP : va_P D cls ws H) (hD : va_D A0 ws) (hS : va_S A0 H0 H locs) (hA : ∀ q : Nat, H0.size ≤ q → A0 q) {n' : Int32} (N' : Nat) {a0 : vp_A} (ha : ∀ cA : ClassId, vp_cell cA a0 = arrV cA N' (fun _ => defaultValue ft)) (hn : ¬ n' < 0) (hN : n'.toNatClampNeg = N') (hbytes : N' * componentBytes ft ≤ 536870912) (hcells : cells + 1 ≤ R.cells) (hslots : slots + N' ≤ R.slots) (h1 : cells + 1 = c1) (h2 : slots + N' = s1) (hdg : decode cc pc = .ok (.newarray at_, 2))
    (kk : ∀ (q : Nat) (H1 : Heap), va_P D cls (ws ++ [(q, .inl (cI, a0))]) H1 → va_D A0 (ws ++ [(q, .inl (cI, a0))]) → va_S A0 H0 H1 locs → W p l e R s m args below meth c H1 locs c1 s1 Q (F0 m (pc + 2) ls (.ref q :: rest))) : W p l e R s m args below meth c H locs cells slots Q (F0 m pc ls (.int n' :: rest)) := by
  subst h1; subst h2
  refine va_newa Sx.1 Sx.2.1 (atype := at_) (Sx.2.2.2.2 _ harr) hty hK hP hD hS hA ha hn hN hbytes hcells hslots hdg (fun q cA H1 hK1 hP1 hD1 hS1 => ?_)
  have e1 := hprim cA ((hK1.2 ty.length (cA, ft) (by rw [List.getElem?_append_right (Nat.le_refl _), Nat.sub_self]; rfl)).2)
  have e2 := hprim cI ((hK.2 t0 (cI, ft) ht).2)
  have e3 : cA = cI := Option.some.inj (e1.symm.trans e2)
  subst e3
  exact kk q H1 hP1 hD1 hS1
theorem wk_iast {a : Nat} {cA : ClassId} {n' : Nat} {f : Nat → Int32} {rest : List Value} {ws' : va_W} (Sx : CallFix p m c cc nL s args BW own) (hK : va_K D cls ty s) (hP : va_P D cls ws H) (hD : va_D A0 ws) (hS : va_S A0 H0 H locs) (q0 t0 : Nat) (ha : ws[q0]? = some (a, .inl (cA, n', .inl f))) (ht : ty[t0]? = some (cA, .int)) {i x : Int32} (hin : vp_in i n') (hdg : decode cc pc = .ok (.iastore, 1)) (hw : ws.set q0 (a, .inl (cA, n', .inl (upd f i.toNatClampNeg x))) = ws')
    (kk : ∀ (H1 : Heap) (locs1 : List Loc), va_P D cls ws' H1 → va_D A0 ws' → va_S A0 H0 H1 locs1 → W p l e R s m args below meth c H1 locs1 cells slots Q (F0 m (pc + 1) ls rest)) : W p l e R s m args below meth c H locs cells slots Q (F0 m pc ls (.int x :: .int i :: .ref a :: rest)) := by
  subst hw
  exact va_iast Sx.1 Sx.2.1 hK hP hD hS q0 t0 ha ht hin hdg kk
theorem wk_bast {a : Nat} {cA : ClassId} {n' : Nat} {f : Nat → Int32} {rest : List Value} {ws' : va_W} (Sx : CallFix p m c cc nL s args BW own) (hK : va_K D cls ty s) (hP : va_P D cls ws H) (hD : va_D A0 ws) (hS : va_S A0 H0 H locs) (q0 t0 : Nat) (ha : ws[q0]? = some (a, .inl (cA, n', .inl f))) (ht : ty[t0]? = some (cA, .byte)) {i x : Int32} (hin : vp_in i n') (hdg : decode cc pc = .ok (.bastore, 1)) (hw : ws.set q0 (a, .inl (cA, n', .inl (upd f i.toNatClampNeg (vp_nar .byte x)))) = ws')
    (kk : ∀ (H1 : Heap) (locs1 : List Loc), va_P D cls ws' H1 → va_D A0 ws' → va_S A0 H0 H1 locs1 → W p l e R s m args below meth c H1 locs1 cells slots Q (F0 m (pc + 1) ls rest)) : W p l e R s m args below meth c H locs cells slots Q (F0 m pc ls (.int x :: .int i :: .ref a :: rest)) := by
  subst hw
  exact va_bast Sx.1 Sx.2.1 hK hP hD hS q0 t0 ha ht hin hdg kk
theorem wk_last {a : Nat} {cA : ClassId} {n' : Nat} {f : Nat → Int64} {rest : List Value} {ws' : va_W} (Sx : CallFix p m c cc nL s args BW own) (hK : va_K D cls ty s) (hP : va_P D cls ws H) (hD : va_D A0 ws) (hS : va_S A0 H0 H locs) (q0 t0 : Nat) (ha : ws[q0]? = some (a, .inl (cA, n', .inr (.inl f)))) (ht : ty[t0]? = some (cA, .long)) {i : Int32} {x : Int64} (hin : vp_in i n') (hdg : decode cc pc = .ok (.lastore, 1)) (hw : ws.set q0 (a, .inl (cA, n', .inr (.inl (vp_updL f i.toNatClampNeg x)))) = ws')
    (kk : ∀ (H1 : Heap) (locs1 : List Loc), va_P D cls ws' H1 → va_D A0 ws' → va_S A0 H0 H1 locs1 → W p l e R s m args below meth c H1 locs1 cells slots Q (F0 m (pc + 1) ls rest)) : W p l e R s m args below meth c H locs cells slots Q (F0 m pc ls (.long x :: .int i :: .ref a :: rest)) := by
  subst hw
  exact va_last Sx.1 Sx.2.1 hK hP hD hS q0 t0 ha ht hin hdg kk
end WK2

theorem ef_0 : EF "WhiteElephants$Buyers" ET0 6 EY0 := ⟨bw_ps _ [237, 239, 241, 243, 245, 247] (by decide +kernel) (by decide +kernel), by decide +kernel, by decide +kernel⟩
theorem nd_0 : ∀ j, j < 6 → defaultValue (EY0 j) = vp_V [.null, .null, .null, .null, .null, .int 0] j := by
  intro j hj
  rcases (show j = 0 ∨ j = 1 ∨ j = 2 ∨ j = 3 ∨ j = 4 ∨ j = 5 by omega) with rfl | rfl | rfl | rfl | rfl | rfl <;> rfl
theorem ef_1 : EF "WhiteElephants$Hall" ET1 14 EY1 := ⟨bw_ps _ [347, 349, 351, 353, 355, 357, 359, 361, 363, 365, 367, 369, 371, 373] (by decide +kernel) (by decide +kernel), by decide +kernel, by decide +kernel⟩
theorem nd_1 : ∀ j, j < 14 → defaultValue (EY1 j) = vp_V [.null, .null, .null, .null, .null, .null, .null, .int 0, .int 0, .int 0, .int 0, .int 0, .null, .null] j := by
  intro j hj
  rcases (show j = 0 ∨ j = 1 ∨ j = 2 ∨ j = 3 ∨ j = 4 ∨ j = 5 ∨ j = 6 ∨ j = 7 ∨ j = 8 ∨ j = 9 ∨ j = 10 ∨ j = 11 ∨ j = 12 ∨ j = 13 by omega) with rfl | rfl | rfl | rfl | rfl | rfl | rfl | rfl | rfl | rfl | rfl | rfl | rfl | rfl <;> rfl
theorem ef_2 : EF "WhiteElephants$Ladies" ET2 4 EY2 := ⟨bw_ps _ [186, 188, 190, 192] (by decide +kernel) (by decide +kernel), by decide +kernel, by decide +kernel⟩
theorem nd_2 : ∀ j, j < 4 → defaultValue (EY2 j) = vp_V [.null, .null, .null, .int 0] j := by
  intro j hj
  rcases (show j = 0 ∨ j = 1 ∨ j = 2 ∨ j = 3 by omega) with rfl | rfl | rfl | rfl <;> rfl
theorem ef_3 : EF "WhiteElephants$Laws" ET3 3 EY3 := ⟨bw_ps _ [206, 208, 210] (by decide +kernel) (by decide +kernel), by decide +kernel, by decide +kernel⟩
theorem nd_3 : ∀ j, j < 3 → defaultValue (EY3 j) = vp_V [.null, .null, .int 0] j := by
  intro j hj
  rcases (show j = 0 ∨ j = 1 ∨ j = 2 by omega) with rfl | rfl | rfl <;> rfl
theorem ef_4 : EF "WhiteElephants$Picks" ET4 2 EY4 := ⟨bw_ps _ [418, 420] (by decide +kernel) (by decide +kernel), by decide +kernel, by decide +kernel⟩
theorem nd_4 : ∀ j, j < 2 → defaultValue (EY4 j) = vp_V [.null, .null] j := by
  intro j hj
  rcases (show j = 0 ∨ j = 1 by omega) with rfl | rfl <;> rfl
theorem ef_5 : EF "WhiteElephants$Sale" ET5 9 EY5 := ⟨bw_ps _ [391, 393, 395, 397, 399, 401, 403, 405, 407] (by decide +kernel) (by decide +kernel), by decide +kernel, by decide +kernel⟩
theorem nd_5 : ∀ j, j < 9 → defaultValue (EY5 j) = vp_V [.int 0, .int 0, .null, .int 0, .null, .null, .null, .null, .null] j := by
  intro j hj
  rcases (show j = 0 ∨ j = 1 ∨ j = 2 ∨ j = 3 ∨ j = 4 ∨ j = 5 ∨ j = 6 ∨ j = 7 ∨ j = 8 by omega) with rfl | rfl | rfl | rfl | rfl | rfl | rfl | rfl | rfl <;> rfl
theorem ef_6 : EF "WhiteElephants$Secrets" ET6 9 EY6 := ⟨bw_ps _ [299, 301, 303, 305, 307, 309, 311, 313, 315] (by decide +kernel) (by decide +kernel), by decide +kernel, by decide +kernel⟩
theorem nd_6 : ∀ j, j < 9 → defaultValue (EY6 j) = vp_V [.null, .null, .int 0, .null, .null, .null, .null, .int 0, .null] j := by
  intro j hj
  rcases (show j = 0 ∨ j = 1 ∨ j = 2 ∨ j = 3 ∨ j = 4 ∨ j = 5 ∨ j = 6 ∨ j = 7 ∨ j = 8 by omega) with rfl | rfl | rfl | rfl | rfl | rfl | rfl | rfl | rfl <;> rfl
theorem ef_7 : EF "WhiteElephants$Shelf" ET7 3 EY7 := ⟨bw_ps _ [434, 436, 438] (by decide +kernel) (by decide +kernel), by decide +kernel, by decide +kernel⟩
theorem nd_7 : ∀ j, j < 3 → defaultValue (EY7 j) = vp_V [.null, .int 0, .int 0] j := by
  intro j hj
  rcases (show j = 0 ∨ j = 1 ∨ j = 2 by omega) with rfl | rfl | rfl <;> rfl
theorem ef_8 : EF "WhiteElephants$Sightings" ET8 8 EY8 := ⟨bw_ps _ [265, 267, 269, 271, 273, 275, 277, 279] (by decide +kernel) (by decide +kernel), by decide +kernel, by decide +kernel⟩
theorem nd_8 : ∀ j, j < 8 → defaultValue (EY8 j) = vp_V [.null, .null, .null, .null, .int 0, .null, .null, .null] j := by
  intro j hj
  rcases (show j = 0 ∨ j = 1 ∨ j = 2 ∨ j = 3 ∨ j = 4 ∨ j = 5 ∨ j = 6 ∨ j = 7 by omega) with rfl | rfl | rfl | rfl | rfl | rfl | rfl | rfl <;> rfl
theorem ef_9 : EF "WhiteElephants$Tape" ET9 4 EY9 := ⟨bw_ps _ [103, 105, 107, 109] (by decide +kernel) (by decide +kernel), by decide +kernel, by decide +kernel⟩
theorem nd_9 : ∀ j, j < 4 → defaultValue (EY9 j) = vp_V [.null, .int 0, .int 0, .int 0] j := by
  intro j hj
  rcases (show j = 0 ∨ j = 1 ∨ j = 2 ∨ j = 3 by omega) with rfl | rfl | rfl | rfl <;> rfl
theorem ef_10 : EF "WhiteElephants$Things" ET10 8 EY10 := ⟨bw_ps _ [153, 155, 157, 159, 161, 163, 165, 167] (by decide +kernel) (by decide +kernel), by decide +kernel, by decide +kernel⟩
theorem nd_10 : ∀ j, j < 8 → defaultValue (EY10 j) = vp_V [.null, .null, .null, .null, .null, .null, .int 0, .null] j := by
  intro j hj
  rcases (show j = 0 ∨ j = 1 ∨ j = 2 ∨ j = 3 ∨ j = 4 ∨ j = 5 ∨ j = 6 ∨ j = 7 by omega) with rfl | rfl | rfl | rfl | rfl | rfl | rfl | rfl <;> rfl
theorem ef_11 : EF "WhiteElephants" ET11 8 EY11 := ⟨bw_ps _ [450, 452, 454, 456, 458, 460, 462, 464] (by decide +kernel) (by decide +kernel), by decide +kernel, by decide +kernel⟩
theorem nd_11 : ∀ j, j < 8 → defaultValue (EY11 j) = vp_V [.null, .null, .null, .null, .null, .null, .null, .int 0] j := by
  intro j hj
  rcases (show j = 0 ∨ j = 1 ∨ j = 2 ∨ j = 3 ∨ j = 4 ∨ j = 5 ∨ j = 6 ∨ j = 7 by omega) with rfl | rfl | rfl | rfl | rfl | rfl | rfl | rfl <;> rfl
theorem ef_12 : EF "WhiteElephantsModel" ET12 51 EY12 := ⟨bw_ps _ [1212, 1214, 1216, 1218, 1220, 1222, 1224, 1226, 1228, 1230, 1232, 1234, 1236, 1238, 1240, 1242, 1244, 1246, 1248, 1250, 1252, 1254, 1256, 1258, 1260, 1262, 1264, 1266, 1268, 1270, 1272, 1274, 1276, 1278, 1280, 1282, 1284, 1286, 1288, 1290, 1292, 1294, 1296, 1298, 1300, 1302, 1304, 1306, 1308, 1310, 1312] (by decide +kernel) (by decide +kernel), by decide +kernel, by decide +kernel⟩
theorem nd_12 : ∀ j, j < 51 → defaultValue (EY12 j) = vp_V [.null, .null, .null, .int 0, .null, .null, .null, .null, .null, .null, .int 0, .null, .null, .null, .int 0, .null, .int 0, .null, .int 0, .null, .null, .null, .null, .null, .int 0, .null, .int 0, .null, .null, .null, .null, .int 0, .null, .null, .null, .null, .null, .int 0, .null, .null, .null, .null, .null, .null, .null, .null, .null, .null, .null, .null, .null] j := by
  intro j hj
  rcases (show j = 0 ∨ j = 1 ∨ j = 2 ∨ j = 3 ∨ j = 4 ∨ j = 5 ∨ j = 6 ∨ j = 7 ∨ j = 8 ∨ j = 9 ∨ j = 10 ∨ j = 11 ∨ j = 12 ∨ j = 13 ∨ j = 14 ∨ j = 15 ∨ j = 16 ∨ j = 17 ∨ j = 18 ∨ j = 19 ∨ j = 20 ∨ j = 21 ∨ j = 22 ∨ j = 23 ∨ j = 24 ∨ j = 25 ∨ j = 26 ∨ j = 27 ∨ j = 28 ∨ j = 29 ∨ j = 30 ∨ j = 31 ∨ j = 32 ∨ j = 33 ∨ j = 34 ∨ j = 35 ∨ j = 36 ∨ j = 37 ∨ j = 38 ∨ j = 39 ∨ j = 40 ∨ j = 41 ∨ j = 42 ∨ j = 43 ∨ j = 44 ∨ j = 45 ∨ j = 46 ∨ j = 47 ∨ j = 48 ∨ j = 49 ∨ j = 50 by omega) with rfl | rfl | rfl | rfl | rfl | rfl | rfl | rfl | rfl | rfl | rfl | rfl | rfl | rfl | rfl | rfl | rfl | rfl | rfl | rfl | rfl | rfl | rfl | rfl | rfl | rfl | rfl | rfl | rfl | rfl | rfl | rfl | rfl | rfl | rfl | rfl | rfl | rfl | rfl | rfl | rfl | rfl | rfl | rfl | rfl | rfl | rfl | rfl | rfl | rfl | rfl <;> rfl
theorem ws_X_55 : WT "WhiteElephants" 55 my_X11_isShelf mb_X11_isShelf 1 ((some .boolean)) := ⟨kk_411, kk_412, kk_1, kk_413⟩
theorem ws_X_59 : WT "WhiteElephants" 59 my_X11_within mb_X11_within 3 ((some .boolean)) := ⟨kk_414, kk_415, kk_1, kk_416⟩
theorem ws_X_63 : WV "WhiteElephants" 63 my_X11_refuse mb_X11_refuse 3 ((some .int)) := ⟨kk_417, kk_419, (bw_at 0 (by decide +kernel) rfl), kk_1, kk_420⟩
theorem ws_X_67 : WV "WhiteElephants" 67 my_X7_takeRow mb_X7_takeRow 3 ((none : Option Jvm.ClassFile.FieldType)) := ⟨kk_421, kk_422, kk_423, kk_12, kk_424⟩
theorem ws_X_71 : WV "WhiteElephants" 71 my_X11_refusalOfRow mb_X11_refusalOfRow 2 ((some .int)) := ⟨kk_432, kk_434, (bw_at 1 (by decide +kernel) rfl), kk_1, kk_435⟩
theorem ws_X_82 : WV "WhiteElephants" 82 my_X7_hasThing mb_X7_hasThing 1 ((some .boolean)) := ⟨kk_436, kk_437, kk_438, kk_12, kk_439⟩
theorem ws_X_86 : WV "WhiteElephants" 86 my_X7_hasRow mb_X7_hasRow 1 ((some .boolean)) := ⟨kk_461, kk_449, kk_450, kk_12, kk_451⟩
theorem ws_X_92 : WV "WhiteElephants" 92 my_X7_isEmpty mb_X7_isEmpty 1 ((some .boolean)) := ⟨kk_440, kk_441, kk_442, kk_12, kk_443⟩
theorem ws_X_109 : WV "WhiteElephants" 109 my_X7_at mb_X7_at 2 ((some .long)) := ⟨kk_473, kk_474, kk_475, kk_12, kk_476⟩
theorem ws_X_117 : WV "WhiteElephants" 117 my_X10_has mb_X10_has 2 ((some .boolean)) := ⟨kk_485, kk_486, kk_487, kk_4, kk_488⟩
theorem ws_X_122 : WT "WhiteElephants" 122 my_X11_isKind mb_X11_isKind 1 ((some .boolean)) := ⟨kk_494, kk_495, kk_1, kk_496⟩
theorem ws_X_135 : WV "WhiteElephants" 135 my_X10_add mb_X10_add 4 ((some .int)) := ⟨kk_542, kk_543, kk_544, kk_4, kk_545⟩
theorem ws_X_165 : WT "WhiteElephants" 165 my_X11_isKinds mb_X11_isKinds 1 ((some .boolean)) := ⟨kk_565, kk_566, kk_1, kk_567⟩
theorem ws_X_175 : WV "WhiteElephants" 175 my_X2_add mb_X2_add 3 ((some .int)) := ⟨kk_568, kk_569, kk_570, kk_5, kk_571⟩
theorem ws_X_177 : WV "WhiteElephants" 177 my_X2_has mb_X2_has 2 ((some .boolean)) := ⟨kk_576, kk_577, kk_578, kk_5, kk_579⟩
theorem ws_X_182 : WV "WhiteElephants" 182 my_X3_has mb_X3_has 2 ((some .boolean)) := ⟨kk_581, kk_582, kk_583, kk_6, kk_584⟩
theorem ws_X_189 : WV "WhiteElephants" 189 my_X9_append mb_X9_append 4 ((none : Option Jvm.ClassFile.FieldType)) := ⟨kk_590, kk_591, kk_592, kk_2, kk_593⟩
theorem ws_X_216 : WT "WhiteElephants" 216 my_X11_isHour mb_X11_isHour 1 ((some .boolean)) := ⟨kk_754, kk_755, kk_1, kk_756⟩
theorem ws_X_226 : WV "WhiteElephants" 226 my_X0_add mb_X0_add 5 ((some .int)) := ⟨kk_757, kk_758, kk_759, kk_7, kk_760⟩
theorem ws_X_229 : WV "WhiteElephants" 229 my_X0_has mb_X0_has 2 ((some .boolean)) := ⟨kk_765, kk_766, kk_767, kk_7, kk_768⟩
theorem ws_X_257 : WV "WhiteElephants" 257 my_X5_open mb_X5_open 6 ((none : Option Jvm.ClassFile.FieldType)) := ⟨kk_788, kk_789, kk_790, kk_10, kk_791⟩
theorem ws_X_265 : WV "WhiteElephants" 265 my_X5_wholeDay mb_X5_wholeDay 6 ((some .int)) := ⟨kk_813, kk_814, kk_815, kk_10, kk_816⟩
theorem ws_X_268 : WV "WhiteElephants" 268 my_X5_bestTurns mb_X5_bestTurns 7 ((some .int)) := ⟨kk_831, kk_832, kk_833, kk_10, kk_834⟩
theorem ws_X_272 : WV "WhiteElephants" 272 my_X5_playHour mb_X5_playHour 7 ((some .int)) := ⟨kk_840, kk_819, kk_820, kk_10, kk_821⟩
theorem ws_X_276 : WV "WhiteElephants" 276 my_X10_worthLeft mb_X10_worthLeft 4 ((some .int)) := ⟨kk_845, kk_846, kk_847, kk_4, kk_848⟩
theorem ws_X_289 : WV "WhiteElephants" 289 my_X5_settle mb_X5_settle 6 ((none : Option Jvm.ClassFile.FieldType)) := ⟨kk_864, kk_865, kk_866, kk_10, kk_867⟩
theorem ws_X_296 : WV "WhiteElephants" 296 my_X10_countLeft mb_X10_countLeft 3 ((some .int)) := ⟨kk_873, kk_874, kk_875, kk_4, kk_876⟩
theorem ws_X_299 : WV "WhiteElephants" 299 my_X4_bargains mb_X4_bargains 4 ((some .int)) := ⟨kk_885, kk_886, kk_887, kk_11, kk_888⟩
theorem ws_X_309 : WV "WhiteElephants" 309 my_X1_planTables mb_X1_planTables 4 ((none : Option Jvm.ClassFile.FieldType)) := ⟨kk_903, kk_904, kk_905, kk_3, kk_906⟩
theorem ws_X_318 : WT "WhiteElephants" 318 my_X11_isPersonOrNone mb_X11_isPersonOrNone 1 ((some .boolean)) := ⟨kk_925, kk_926, kk_1, kk_927⟩
theorem ws_X_328 : WV "WhiteElephants" 328 my_X8_add mb_X8_add 5 ((some .int)) := ⟨kk_931, kk_932, kk_933, kk_8, kk_934⟩
theorem ws_X_329 : WV "WhiteElephants" 329 my_X8_has mb_X8_has 2 ((some .boolean)) := ⟨kk_939, kk_940, kk_941, kk_8, kk_942⟩
theorem ws_X_333 : WV "WhiteElephants" 333 my_X8_fewestVases mb_X8_fewestVases 3 ((some .int)) := ⟨kk_952, kk_953, kk_954, kk_8, kk_955⟩
theorem ws_X_336 : WV "WhiteElephants" 336 my_X8_longestRow mb_X8_longestRow 4 ((some .int)) := ⟨kk_967, kk_968, kk_969, kk_8, kk_970⟩
theorem ws_X_339 : WT "WhiteElephants" 339 my_X11_isPerson mb_X11_isPerson 1 ((some .boolean)) := ⟨kk_928, kk_929, kk_1, kk_930⟩
theorem ws_X_359 : WV "WhiteElephants" 359 my_X4_fewestPaid mb_X4_fewestPaid 5 ((some .int)) := ⟨kk_1018, kk_1019, kk_1020, kk_11, kk_1021⟩
theorem ws_X_369 : WV "WhiteElephants" 369 my_X1_become mb_X1_become 2 ((none : Option Jvm.ClassFile.FieldType)) := ⟨kk_1049, kk_1050, kk_1051, kk_3, kk_1052⟩
theorem ws_X_372 : WV "WhiteElephants" 372 my_X11_shelvesInUse mb_X11_shelvesInUse 3 ((some .int)) := ⟨kk_1091, kk_1093, (bw_at 22 (by decide +kernel) rfl), kk_1, kk_1094⟩
theorem ws_Buyers_31 : WTN "WhiteElephants$Buyers" 31 my_X11_within mb_X11_within 3 ((some .boolean)) := ⟨by decide +kernel, kk_415, kk_1, kk_416⟩
theorem ws_Hall_134 : WT "WhiteElephants$Hall" 134 my_J6_bitCount_0f7a4 mb_J6_bitCount_0f7a4 1 ((some .int)) := ⟨kk_908, kk_508, kk_16, kk_509⟩
theorem ws_Hall_139 : WV "WhiteElephants$Hall" 139 my_X1_bestLady mb_X1_bestLady 7 ((some .int)) := ⟨kk_909, kk_911, (bw_at 14 (by decide +kernel) rfl), kk_3, kk_912⟩
theorem ws_Hall_145 : WV "WhiteElephants$Hall" 145 my_X10_become mb_X10_become 2 ((none : Option Jvm.ClassFile.FieldType)) := ⟨kk_1053, kk_1054, kk_1055, kk_4, kk_1056⟩
theorem ws_Hall_149 : WV "WhiteElephants$Hall" 149 my_X2_become mb_X2_become 2 ((none : Option Jvm.ClassFile.FieldType)) := ⟨kk_1058, kk_1059, kk_1060, kk_5, kk_1061⟩
theorem ws_Hall_152 : WV "WhiteElephants$Hall" 152 my_X3_become mb_X3_become 2 ((none : Option Jvm.ClassFile.FieldType)) := ⟨kk_1063, kk_1064, kk_1065, kk_6, kk_1066⟩
theorem ws_Hall_155 : WV "WhiteElephants$Hall" 155 my_X0_become mb_X0_become 2 ((none : Option Jvm.ClassFile.FieldType)) := ⟨kk_1067, kk_1068, kk_1069, kk_7, kk_1070⟩
theorem ws_Hall_158 : WV "WhiteElephants$Hall" 158 my_X8_become mb_X8_become 2 ((none : Option Jvm.ClassFile.FieldType)) := ⟨kk_1072, kk_1073, kk_1074, kk_8, kk_1075⟩
theorem ws_Hall_161 : WV "WhiteElephants$Hall" 161 my_X6_become mb_X6_become 2 ((none : Option Jvm.ClassFile.FieldType)) := ⟨kk_1077, kk_1078, kk_1079, kk_9, kk_1080⟩
theorem ws_Ladies_25 : WTN "WhiteElephants$Ladies" 25 my_X11_within mb_X11_within 3 ((some .boolean)) := ⟨by decide +kernel, kk_415, kk_1, kk_416⟩
theorem ws_Laws_28 : WTN "WhiteElephants$Laws" 28 my_X11_within mb_X11_within 3 ((some .boolean)) := ⟨by decide +kernel, kk_415, kk_1, kk_416⟩
theorem ws_Sale_70 : WT "WhiteElephants$Sale" 70 my_X5_stage mb_X5_stage 3 ((some .int)) := ⟨kk_802, kk_779, kk_10, kk_780⟩
theorem ws_Sale_104 : WV "WhiteElephants$Sale" 104 my_X5_open mb_X5_open 6 ((none : Option Jvm.ClassFile.FieldType)) := ⟨kk_817, kk_789, kk_790, kk_10, kk_791⟩
theorem ws_Sale_108 : WV "WhiteElephants$Sale" 108 my_X5_playHour mb_X5_playHour 7 ((some .int)) := ⟨kk_818, kk_819, kk_820, kk_10, kk_821⟩
theorem ws_Sale_112 : WV "WhiteElephants$Sale" 112 my_X5_wholeDay mb_X5_wholeDay 6 ((some .int)) := ⟨kk_835, kk_814, kk_815, kk_10, kk_816⟩
theorem ws_Shelf_22 : WTN "WhiteElephants$Shelf" 22 my_X11_within mb_X11_within 3 ((some .boolean)) := ⟨by decide +kernel, kk_415, kk_1, kk_416⟩
theorem ws_Shelf_26 : WT "WhiteElephants$Shelf" 26 my_J7_fill_d0a16 mb_J7_fill_d0a16 5 ((none : Option Jvm.ClassFile.FieldType)) := ⟨kk_425, kk_426, kk_14, kk_427⟩
theorem ws_Shelf_32 : WV "WhiteElephants$Shelf" 32 my_X7_hasRow mb_X7_hasRow 1 ((some .boolean)) := ⟨kk_448, kk_449, kk_450, kk_12, kk_451⟩
theorem ws_Sightings_37 : WTN "WhiteElephants$Sightings" 37 my_X11_within mb_X11_within 3 ((some .boolean)) := ⟨by decide +kernel, kk_415, kk_1, kk_416⟩
theorem ws_Sightings_41 : WT "WhiteElephants$Sightings" 41 my_J7_fill_53178 mb_J7_fill_53178 4 ((none : Option Jvm.ClassFile.FieldType)) := ⟨kk_956, kk_957, kk_14, kk_958⟩
theorem ws_Things_37 : WTN "WhiteElephants$Things" 37 my_X11_within mb_X11_within 3 ((some .boolean)) := ⟨by decide +kernel, kk_415, kk_1, kk_416⟩
theorem ws_M_148 : WV "WhiteElephantsModel" 148 my_X12_isShelf mb_X12_isShelf 2 ((some .boolean)) := ⟨kk_1260, kk_1262, (bw_at 23 (by decide +kernel) rfl), kk_13, kk_1263⟩
theorem ws_M_152 : WV "WhiteElephantsModel" 152 my_X12_no mb_X12_no 2 ((some .int)) := ⟨kk_1264, kk_1266, (bw_at 24 (by decide +kernel) rfl), kk_13, kk_1267⟩
theorem ws_M_156 : WV "WhiteElephantsModel" 156 my_X12_holdsThing mb_X12_holdsThing 2 ((some .boolean)) := ⟨kk_1276, kk_1278, (bw_at 26 (by decide +kernel) rfl), kk_13, kk_1279⟩
theorem ws_M_159 : WV "WhiteElephantsModel" 159 my_X12_noRow mb_X12_noRow 2 ((some .int)) := ⟨kk_1272, kk_1274, (bw_at 25 (by decide +kernel) rfl), kk_13, kk_1275⟩
theorem ws_M_162 : WV "WhiteElephantsModel" 162 my_X12_isRow mb_X12_isRow 2 ((some .boolean)) := ⟨kk_1284, kk_1286, (bw_at 27 (by decide +kernel) rfl), kk_13, kk_1287⟩
theorem ws_M_165 : WV "WhiteElephantsModel" 165 my_X12_isThing mb_X12_isThing 2 ((some .boolean)) := ⟨kk_1300, kk_1302, (bw_at 28 (by decide +kernel) rfl), kk_13, kk_1303⟩
theorem ws_M_168 : WV "WhiteElephantsModel" 168 my_X12_isKind mb_X12_isKind 2 ((some .boolean)) := ⟨kk_1308, kk_1310, (bw_at 29 (by decide +kernel) rfl), kk_13, kk_1311⟩
theorem ws_M_190 : WV "WhiteElephantsModel" 190 my_X12_areKinds mb_X12_areKinds 2 ((some .boolean)) := ⟨kk_1350, kk_1352, (bw_at 34 (by decide +kernel) rfl), kk_13, kk_1353⟩
theorem ws_M_193 : WV "WhiteElephantsModel" 193 my_X12_isLady mb_X12_isLady 2 ((some .boolean)) := ⟨kk_1358, kk_1360, (bw_at 35 (by decide +kernel) rfl), kk_13, kk_1361⟩
theorem ws_M_196 : WV "WhiteElephantsModel" 196 my_X12_isLaw mb_X12_isLaw 2 ((some .boolean)) := ⟨kk_1362, kk_1364, (bw_at 36 (by decide +kernel) rfl), kk_13, kk_1365⟩
theorem ws_M_248 : WV "WhiteElephantsModel" 248 my_X12_isHour mb_X12_isHour 2 ((some .boolean)) := ⟨kk_1437, kk_1439, (bw_at 45 (by decide +kernel) rfl), kk_13, kk_1440⟩
theorem ws_M_251 : WV "WhiteElephantsModel" 251 my_X12_isBuyer mb_X12_isBuyer 2 ((some .boolean)) := ⟨kk_1445, kk_1447, (bw_at 46 (by decide +kernel) rfl), kk_13, kk_1448⟩
theorem ws_M_258 : WV "WhiteElephantsModel" 258 my_X12_asNow mb_X12_asNow 2 ((none : Option Jvm.ClassFile.FieldType)) := ⟨kk_1465, kk_1467, (bw_at 48 (by decide +kernel) rfl), kk_13, kk_1468⟩
theorem ws_M_264 : WV "WhiteElephantsModel" 264 my_X12_wholeDay mb_X12_wholeDay 8 ((some .int)) := ⟨kk_1477, kk_1479, (bw_at 50 (by decide +kernel) rfl), kk_13, kk_1480⟩
theorem ws_M_270 : WV "WhiteElephantsModel" 270 my_X12_sold mb_X12_sold 3 ((some .int)) := ⟨kk_1509, kk_1511, (bw_at 52 (by decide +kernel) rfl), kk_13, kk_1512⟩
theorem ws_M_276 : WV "WhiteElephantsModel" 276 my_X12_isPerson mb_X12_isPerson 2 ((some .boolean)) := ⟨kk_1533, kk_1535, (bw_at 53 (by decide +kernel) rfl), kk_13, kk_1536⟩
theorem ws_M_302 : WV "WhiteElephantsModel" 302 my_X12_move mb_X12_move 5 ((some .int)) := ⟨kk_1594, kk_1596, (bw_at 59 (by decide +kernel) rfl), kk_13, kk_1597⟩
theorem ws_M_306 : WV "WhiteElephantsModel" 306 my_X12_moveAll mb_X12_moveAll 3 ((none : Option Jvm.ClassFile.FieldType)) := ⟨kk_1590, kk_1592, (bw_at 58 (by decide +kernel) rfl), kk_13, kk_1593⟩
abbrev fThings (q : Nat → Nat) : List Value := [.ref (q 1), .ref (q 2), .ref (q 3), .ref (q 4), .ref (q 5), .ref (q 6), .int 0, .ref (q 7)]
abbrev fLadies (q : Nat → Nat) : List Value := [.ref (q 1), .ref (q 2), .ref (q 3), .int 0]
abbrev fLaws (q : Nat → Nat) : List Value := [.ref (q 1), .ref (q 2), .int 0]
abbrev fBuyers (q : Nat → Nat) : List Value := [.ref (q 1), .ref (q 2), .ref (q 3), .ref (q 4), .ref (q 5), .int 0]
abbrev fSightings (q : Nat → Nat) : List Value := [.ref (q 1), .ref (q 2), .ref (q 3), .ref (q 4), .int 0, .ref (q 5), .ref (q 6), .ref (q 7)]
abbrev fSecrets (q : Nat → Nat) : List Value := [.ref (q 1), .ref (q 2), .int 0, .ref (q 3), .ref (q 4), .ref (q 5), .ref (q 6), .int 0, .ref (q 7)]
abbrev fHall (q : Nat → Nat) : List Value := [.ref (q 1), .ref (q 9), .ref (q 13), .ref (q 16), .ref (q 22), .ref (q 30), .ref (q 38), .int 0, .int 12, .int 12, .int 0, .int 0, .ref (q 39), .ref (q 40)]
abbrev fTape (q : Nat → Nat) : List Value := [.ref (q 1), .int 0, .int 0, .int 0]
abbrev fShelf (q : Nat → Nat) : List Value := [.ref (q 1), .int (-1), .int 0]
abbrev fSale (q : Nat → Nat) : List Value := [.int 12, .int 12, .ref (q 1), .int 0, .ref (q 2), .ref (q 3), .ref (q 4), .ref (q 5), .ref (q 6)]
abbrev fPicks (q : Nat → Nat) : List Value := [.ref (q 1), .ref (q 2)]
abbrev fX (q : Nat → Nat) : List Value := [.ref (q 1), .ref (q 2), .ref (q 3), .ref (q 5), .ref (q 46), .ref (q 87), .ref (q 94), .int 0]
abbrev fM (q : Nat → Nat) : List Value := [.ref (q 0), .ref (q 1), .ref (q 2), .int 0, .ref (q 4), .ref (q 5), .ref (q 6), .ref (q 7), .ref (q 8), .ref (q 9), .int 0, .ref (q 11), .ref (q 12), .ref (q 13), .int 0, .ref (q 15), .int 0, .ref (q 17), .int 0, .ref (q 19), .ref (q 20), .ref (q 21), .ref (q 22), .ref (q 23), .int 0, .ref (q 25), .int 0, .ref (q 27), .ref (q 28), .ref (q 29), .ref (q 30), .int 0, .ref (q 32), .ref (q 33), .ref (q 34), .ref (q 35), .ref (q 36), .int 0, .ref (q 38), .ref (q 39), .ref (q 40), .ref (q 41), .ref (q 42), .ref (q 43), .ref (q 44), .ref (q 45), .ref (q 46), .ref (q 47), .ref (q 48), .ref (q 49), .null]
abbrev shv (q : Nat → Nat) : Nat → Option Nat := (va_up (va_up (va_up (va_up (va_up (va_up (va_up (va_up (fun _ => none) 0 (some (q 97))) 1 (some (q 99))) 2 (some (q 101))) 3 (some (q 103))) 4 (some (q 105))) 5 (some (q 107))) 6 (some (q 109))) 7 (some (q 111)))
abbrev hold0 : Nat → Int32 := (upd (upd (upd (upd (upd (upd (upd (upd (fun _ => 0) 0 (-1)) 1 (-1)) 2 (-1)) 3 (-1)) 4 (-1)) 5 (-1)) 6 (-1)) 7 (-1))
abbrev hours0 : Nat → Int32 := upd (upd (fun _ => 0) 0 12) 1 12
theorem hold0_at : ∀ j, j < 8 → hold0 j = -1 := by
  intro j hj
  rcases (show j = 0 ∨ j = 1 ∨ j = 2 ∨ j = 3 ∨ j = 4 ∨ j = 5 ∨ j = 6 ∨ j = 7 by omega) with rfl | rfl | rfl | rfl | rfl | rfl | rfl | rfl <;> rfl
theorem shv_at (q : Nat → Nat) : ∀ j, j < 8 → shv q j = some (q (97 + 2 * j)) := by
  intro j hj
  rcases (show j = 0 ∨ j = 1 ∨ j = 2 ∨ j = 3 ∨ j = 4 ∨ j = 5 ∨ j = 6 ∨ j = 7 by omega) with rfl | rfl | rfl | rfl | rfl | rfl | rfl | rfl <;> rfl
theorem p_nil {D : va_G} {cl : List vw_C} {H : Heap} : va_P D cl [] H := fun k q h => by simp at h
theorem d_nil {A : Nat → Prop} : va_D A [] := ⟨fun i j p q h => by simp at h, fun k q h => by simp at h⟩
theorem hours0_lo {i : Int32} (h : 0 ≤ i.toInt ∧ i.toInt ≤ 1) : hours0 i.toNatClampNeg = 12 := by
  have e := nc_at h.1
  rcases (show i.toNatClampNeg = 0 ∨ i.toNatClampNeg = 1 by omega) with k | k <;> rw [k] <;> rfl
theorem hours0_hi {i : Int32} (h : 2 ≤ i.toInt) : hours0 i.toNatClampNeg = 0 := by
  have e := nc_at (show 0 ≤ i.toInt by omega)
  simp [hours0, upd, show ¬ i.toNatClampNeg = 0 by omega, show ¬ i.toNatClampNeg = 1 by omega]
theorem inv_read {f : Nat → Int32} {lo X : Int} {v : Int32} (h : ∀ j : Nat, lo ≤ (j : Int) → (j : Int) < X → f j = v) (i : Int32) (h1 : lo ≤ i.toInt ∧ 0 ≤ i.toInt) (h2 : i.toInt < X) : f i.toNatClampNeg = v := by
  have e := nc_at h1.2
  exact h _ (by omega) (by omega)
theorem inv_upd {f : Nat → Int32} {lo X Y : Int} {v : Int32} (h : ∀ j : Nat, lo ≤ (j : Int) → (j : Int) < X → f j = v) (i : Int32) (h1 : 0 ≤ i.toInt ∧ i.toInt = X) (h2 : Y = X + 1) : ∀ j : Nat, lo ≤ (j : Int) → (j : Int) < Y → upd f i.toNatClampNeg v j = v := by
  intro j k1 k2
  rw [upd_at h1.2 (by omega)]
  by_cases c : (j : Int) = X
  · rw [if_pos c]
  · rw [if_neg c]; exact h j k1 (by omega)
abbrev wShelves (cy : Nat → ClassId) (q : Nat → Nat) : va_W := [(q 97, .inr (7, fShelf (fun k => q (97 + k)))), (q 98, .inl (cy 2, 40, .inr (.inl (fun _ => 0)))), (q 99, .inr (7, fShelf (fun k => q (99 + k)))), (q 100, .inl (cy 2, 40, .inr (.inl (fun _ => 0)))), (q 101, .inr (7, fShelf (fun k => q (101 + k)))), (q 102, .inl (cy 2, 40, .inr (.inl (fun _ => 0)))), (q 103, .inr (7, fShelf (fun k => q (103 + k)))), (q 104, .inl (cy 2, 40, .inr (.inl (fun _ => 0)))), (q 105, .inr (7, fShelf (fun k => q (105 + k)))), (q 106, .inl (cy 2, 40, .inr (.inl (fun _ => 0)))), (q 107, .inr (7, fShelf (fun k => q (107 + k)))), (q 108, .inl (cy 2, 40, .inr (.inl (fun _ => 0)))), (q 109, .inr (7, fShelf (fun k => q (109 + k)))), (q 110, .inl (cy 2, 40, .inr (.inl (fun _ => 0)))), (q 111, .inr (7, fShelf (fun k => q (111 + k)))), (q 112, .inl (cy 2, 40, .inr (.inl (fun _ => 0))))]
abbrev wShelf (cy : Nat → ClassId) (q : Nat → Nat) : va_W := [(q 0, .inr (7, fShelf q)), (q 1, .inl (cy 2, 40, .inr (.inl (fun _ => 0))))]
theorem sh_p {D : va_G} {cl : List vw_C} {H : Heap} {cy : Nat → ClassId} {q : Nat → Nat} (h : va_P D cl (wShelves cy q) H) : ∀ j, j < 8 → va_P D cl (wShelf cy (fun k => q (97 + 2 * j + k))) H := by
  intro j hj
  rcases (show j = 0 ∨ j = 1 ∨ j = 2 ∨ j = 3 ∨ j = 4 ∨ j = 5 ∨ j = 6 ∨ j = 7 by omega) with rfl | rfl | rfl | rfl | rfl | rfl | rfl | rfl
  · exact h.sub [0, 1] rfl
  · exact h.sub [2, 3] rfl
  · exact h.sub [4, 5] rfl
  · exact h.sub [6, 7] rfl
  · exact h.sub [8, 9] rfl
  · exact h.sub [10, 11] rfl
  · exact h.sub [12, 13] rfl
  · exact h.sub [14, 15] rfl
theorem sh_d {A : Nat → Prop} {cy : Nat → ClassId} {q : Nat → Nat} (h : va_D A (wShelves cy q)) : ∀ j, j < 8 → va_D A (wShelf cy (fun k => q (97 + 2 * j + k))) := by
  intro j hj
  rcases (show j = 0 ∨ j = 1 ∨ j = 2 ∨ j = 3 ∨ j = 4 ∨ j = 5 ∨ j = 6 ∨ j = 7 by omega) with rfl | rfl | rfl | rfl | rfl | rfl | rfl | rfl
  · exact h.sub [0, 1] (by decide) rfl
  · exact h.sub [2, 3] (by decide) rfl
  · exact h.sub [4, 5] (by decide) rfl
  · exact h.sub [6, 7] (by decide) rfl
  · exact h.sub [8, 9] (by decide) rfl
  · exact h.sub [10, 11] (by decide) rfl
  · exact h.sub [12, 13] (by decide) rfl
  · exact h.sub [14, 15] (by decide) rfl
