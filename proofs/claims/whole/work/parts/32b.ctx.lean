/-! contracts of two shapes, and how they are opened, ended and called -/
abbrev TY4 (cy : Nat → ClassId) : List (ClassId × FieldType) := [(cy 0, .int), (cy 1, .byte), (cy 2, .long), (cy 3, .boolean)]
abbrev rmC (d mc ms : Nat) : Room := { frames := d, cells := mc, slots := ms, locals := 100 * d }
/-- a method that leaves the heap as it is -/
def PC (l : Launch) (y : MethodName) (b : ByteArray) (n : Nat) (r : Option FieldType) (rm : Room) (D : va_G) (ty : List (ClassId × FieldType)) (args : List Value) (X : State → Prop) (WS : va_W) (Qc : Array Value → State → Outcome → State → Prop) : Prop :=
  Met l y (wq y b n r) rm (va_Pc args (fun U => va_P D cls WS U.heap ∧ va_K D cls ty U ∧ X U)) Qc 0 0 (fun _ => False)
/-- a method that writes its cells WS and makes new ones -/
def HC (l : Launch) (y : MethodName) (b : ByteArray) (n : Nat) (r : Option FieldType) (rm : Room) (D : va_G) (ty : List (ClassId × FieldType)) (args : List Value) (X : (Nat → Prop) → State → Prop) (WS : va_W) (Qc : (Nat → Prop) → Array Value → State → Outcome → State → Prop) : Prop :=
  ∀ sz : Nat, Met l y (wq y b n r) rm (va_Pc args (fun U => U.heap.size = sz ∧ va_P D cls WS U.heap ∧ va_K D cls ty U ∧ va_D (fun _ => True) WS ∧ X (va_A WS sz) U)) (Qc (va_A WS sz)) rm.cells rm.slots (va_A WS sz)
abbrev QI {S : Type} (D : va_G) (post : Int32 → S → Prop) (W1 : S → va_W) : (Nat → Prop) → Array Value → State → Outcome → State → Prop := fun A => va_Qi post (fun u t => va_P D cls (W1 u) t.heap ∧ va_D A (W1 u)) A
abbrev QL {S : Type} (D : va_G) (post : Int64 → S → Prop) (W1 : S → va_W) : (Nat → Prop) → Array Value → State → Outcome → State → Prop := fun A => va_Ql post (fun u t => va_P D cls (W1 u) t.heap ∧ va_D A (W1 u)) A
abbrev QV {S : Type} (D : va_G) (post : S → Prop) (W1 : S → va_W) : (Nat → Prop) → Array Value → State → Outcome → State → Prop := fun A => va_Qv post (fun u t => va_P D cls (W1 u) t.heap ∧ va_D A (W1 u)) A
abbrev NS : State → Prop := fun U => NN U
theorem ns_b : ∀ (a : Array Value) (U : State) (g : JFrame) (mk : MethodId), NS U → NS (U.calling g mk a) := fun _ _ _ _ h => NN.call h
theorem nx_b : ∀ (A : Nat → Prop) (a : Array Value) (U : State) (g : JFrame) (mk : MethodId), NX A U → NX A (U.calling g mk a) := fun _ _ _ _ _ h => NN.call h
theorem ns_w {s : State} {H : Heap} (h : NN s) : ∀ U : State, U.heap = H → s.WarmedH U.vm → NS U := fun _ _ hW => NN.warm hW h
theorem nx_w {s : State} {H : Heap} {A : Nat → Prop} (h : NN s) : ∀ U : State, U.heap = H → s.WarmedH U.vm → NX A U := fun _ _ hW => NN.warm hW h
theorem pc_intro {l : Launch} {y : MethodName} {b : ByteArray} {n : Nat} {r : Option FieldType} {rm : Room} {D : va_G} {ty : List (ClassId × FieldType)} {args : List Value} {X : State → Prop} {WS : va_W} {Qc : Array Value → State → Outcome → State → Prop} (hy : plainName y.cls = true) (hn : (lg_sl args).length ≤ n)
    (body : ∀ (p : Program) (e : Env) (s : State) (m : MethodId) (below : List Frame) (meth : Method) (c : Code) (ls : Array Slot), CallFix p m c b n s args.toArray BW y.cls → meth.sig.returnType = r → meth.locks = false → lv_has ls n (lv_args 0 args) → va_P D cls WS s.heap → va_K D cls ty s → X s →
      W p l e rm s m args.toArray below meth c s.heap [] 0 0 (MQ below Qc args.toArray s 0 0 (fun _ => False)) (F0 m 0 ls [])) : PC l y b n r rm D ty args X WS Qc := by
  refine Met.ofW (cc := b) (maxL := n) (ret := r) hy rfl ?_
  intro p e s m args' below meth c s₁ B hml hv
  obtain ⟨rfl, hP, hK, hX⟩ := hv
  have hts := atoms_spec (ws := wq y b n r) B.pre
  have hl := lv_entry args (n := n) hn
  rw [lg_entry_eq]
  generalize (lg_sl args ++ List.replicate (n - (lg_sl args).length) Slot.unset).toArray = ls at hl ⊢
  exact body p e s m below meth c ls ⟨B.exec, B.bytes, hml, findClass_of_methodNamed B.named, fun w h => hts w (List.mem_cons_of_mem _ h)⟩ B.returns B.notSynchronized hl hP hK hX
theorem hc_intro {l : Launch} {y : MethodName} {b : ByteArray} {n : Nat} {r : Option FieldType} {rm : Room} {D : va_G} {ty : List (ClassId × FieldType)} {args : List Value} {X : (Nat → Prop) → State → Prop} {WS : va_W} {Qc : (Nat → Prop) → Array Value → State → Outcome → State → Prop} (hy : plainName y.cls = true) (hn : (lg_sl args).length ≤ n)
    (body : ∀ (p : Program) (e : Env) (s : State) (m : MethodId) (below : List Frame) (meth : Method) (c : Code) (A : Nat → Prop) (ls : Array Slot), CallFix p m c b n s args.toArray BW y.cls → meth.sig.returnType = r → meth.locks = false → meth.name = y.name → lv_has ls n (lv_args 0 args) → va_P D cls WS s.heap → va_D A WS → va_K D cls ty s → va_S A s.heap s.heap [] → (∀ q : Nat, s.heap.size ≤ q → A q) → X A s →
      W p l e rm s m args.toArray below meth c s.heap [] 0 0 (MQ below (Qc A) args.toArray s rm.cells rm.slots A) (F0 m 0 ls [])) : HC l y b n r rm D ty args X WS Qc := by
  intro sz
  refine Met.ofW (cc := b) (maxL := n) (ret := r) hy rfl ?_
  intro p e s m args' below meth c s₁ B hml hv
  obtain ⟨rfl, hsz, hP, hK, hD0, hX⟩ := hv
  have hts := atoms_spec (ws := wq y b n r) B.pre
  have hl := lv_entry args (n := n) hn
  rw [lg_entry_eq]
  generalize (lg_sl args ++ List.replicate (n - (lg_sl args).length) Slot.unset).toArray = ls at hl ⊢
  subst hsz
  exact body p e s m below meth c _ ls ⟨B.exec, B.bytes, hml, findClass_of_methodNamed B.named, fun w h => hts w (List.mem_cons_of_mem _ h)⟩ B.returns B.notSynchronized (name_of_methodNamed B.named B.method).1 hl hP hD0.self hK va_S.rf (fun q h => Or.inr h) hX
theorem ci_lt {x y : Int32} {a b : Int} (hx : x.toInt = a) (hy : y.toInt = b) (h : x < y) : a < b := by subst hx; subst hy; exact Int32.lt_iff_toInt_lt.mp h
theorem ci_nlt {x y : Int32} {a b : Int} (hx : x.toInt = a) (hy : y.toInt = b) (h : ¬ x < y) : b ≤ a := by subst hx; subst hy; exact Int.not_lt.mp (fun q => h (Int32.lt_iff_toInt_lt.mpr q))
theorem ci_le {x y : Int32} {a b : Int} (hx : x.toInt = a) (hy : y.toInt = b) (h : x ≤ y) : a ≤ b := by subst hx; subst hy; exact Int32.le_iff_toInt_le.mp h
theorem ci_nle {x y : Int32} {a b : Int} (hx : x.toInt = a) (hy : y.toInt = b) (h : ¬ x ≤ y) : b < a := by subst hx; subst hy; exact Int.not_le.mp (fun q => h (Int32.le_iff_toInt_le.mpr q))
theorem ci_eq {x y : Int32} {a b : Int} (hx : x.toInt = a) (hy : y.toInt = b) (h : x = y) : a = b := by subst hx; subst hy; rw [h]
theorem ci_ne {x y : Int32} {a b : Int} (hx : x.toInt = a) (hy : y.toInt = b) (h : ¬ x = y) : ¬ a = b := by subst hx; subst hy; exact fun q => h (Int32.toInt_inj.mp q)
theorem ci_of {x y : Int32} {b : Int} (hy : y.toInt = b) (h : x.toInt = b) : x = y := Int32.toInt_inj.mp (h.trans hy.symm)
theorem ti_add {x y : Int32} {a b : Int} (hx : x.toInt = a) (hy : y.toInt = b) (h1 : -2147483648 ≤ a + b) (h2 : a + b ≤ 2147483647) : (x + y).toInt = a + b := by
  subst hx; subst hy
  rw [Int32.toInt_add]
  exact Int.bmod_eq_of_le (by omega) (by omega)
theorem ti_sub {x y : Int32} {a b : Int} (hx : x.toInt = a) (hy : y.toInt = b) (h1 : -2147483648 ≤ a - b) (h2 : a - b ≤ 2147483647) : (x - y).toInt = a - b := by
  subst hx; subst hy
  rw [Int32.toInt_sub]
  exact Int.bmod_eq_of_le (by omega) (by omega)
theorem ti_mul {x y : Int32} {a b : Int} (hx : x.toInt = a) (hy : y.toInt = b) (h1 : -2147483648 ≤ a * b) (h2 : a * b ≤ 2147483647) : (x * y).toInt = a * b := by
  subst hx; subst hy
  rw [Int32.toInt_mul]
  exact Int.bmod_eq_of_le (by omega) (by omega)
theorem mn_at {x y : Int32} {a : Int} (hx : x.toInt = a) (h : y.toInt ≤ a) : (if y < x then y else x) = y := by
  by_cases c : y < x
  · rw [if_pos c]
  · rw [if_neg c]
    have h2 := ci_nlt rfl hx c
    exact ci_of rfl (by omega)
theorem upd_c (k : Nat) (v : Int32) : upd (fun _ => v) k v = fun _ => v := by
  funext j
  simp [upd]
theorem updL_c (k : Nat) (v : Int64) : vp_updL (fun _ => v) k v = fun _ => v := by
  funext j
  simp [vp_updL]
theorem upd_at {f : Nat → Int32} {i : Int32} {x : Int32} {n : Int} (hi : i.toInt = n) (h0 : 0 ≤ n) : ∀ j : Nat, upd f i.toNatClampNeg x j = if (j : Int) = n then x else f j := by
  intro j
  have e : (i.toNatClampNeg : Int) = n := by
    subst hi
    show (i.toInt.toNat : Int) = i.toInt
    omega
  by_cases h : (j : Int) = n
  · rw [if_pos h]; simp [upd, show j = i.toNatClampNeg by omega]
  · rw [if_neg h]; simp [upd, show ¬ j = i.toNatClampNeg by omega]
theorem nc_at {i : Int32} (h0 : 0 ≤ i.toInt) : (i.toNatClampNeg : Int) = i.toInt := by
  show (i.toInt.toNat : Int) = i.toInt
  omega
theorem vi_of {x : Int32} {n : Nat} (h : 0 ≤ x.toInt ∧ x.toInt < (n : Int)) : vp_in x n := vp_in_iff.mpr h
theorem vi_lt {x : Int32} {n : Nat} (h : vp_in x n) : x.toNatClampNeg < n := Nat.lt_of_not_le (fun q => h (Or.inr q))
/-- one of two answers, by a condition -/
abbrev if2 (P : Prop) (a b r : Int32) : Prop := (P ∧ r = a) ∨ (¬ P ∧ r = b)
theorem if2_eq {P : Prop} {a b r t : Int32} (h1 : if2 P a b r) (h2 : if2 P a b t) : r = t := by
  rcases h1 with ⟨p, h⟩ | ⟨p, h⟩ <;> rcases h2 with ⟨q, k⟩ | ⟨q, k⟩
  · rw [h, k]
  · exact absurd p q
  · exact absurd q p
  · rw [h, k]
section WK2
variable {p : Program} {l : Launch} {e : Env} {R : Room} {s : State} {m : MethodId} {args : Array Value} {below : List Frame} {meth : Method} {c : Code} {H : Heap} {locs : List Loc} {cells slots : Nat} {Q : State → Prop}
variable {cc : ByteArray} {pc nL idx n k : Nat} {ls : Array Slot} {own : String} {y : MethodName} {b : ByteArray} {r : Option FieldType} {rm : Room} {o : Nat} {st0 : List Value} {D : va_G} {ty : List (ClassId × FieldType)} {X : State → Prop} {Y : (Nat → Prop) → State → Prop} {ws wc wr : va_W} {A0 : Nat → Prop} {H0 : Heap}
theorem pc_bl {av : List (ClassId × FieldType)} {WS : va_W} (hX : ∀ (a : Array Value) (U : State) (g : JFrame) (mk : MethodId), X U → X (U.calling g mk a)) : ∀ (a : Array Value) (U : State) (g : JFrame) (mk : MethodId), (va_P D cls WS U.heap ∧ va_K D cls av U ∧ X U) → (va_P D cls WS (U.calling g mk a).heap ∧ va_K D cls av (U.calling g mk a) ∧ X (U.calling g mk a)) := fun a U g mk q => ⟨q.1, va_K.moved (u := U) (U := U.calling g mk a) (Vm.Alike.refl U.vm) q.2.1, hX a U g mk q.2.2⟩
theorem hc_bl {av : List (ClassId × FieldType)} {WS : va_W} {sz : Nat} {A : Nat → Prop} (hX : ∀ (A : Nat → Prop) (a : Array Value) (U : State) (g : JFrame) (mk : MethodId), Y A U → Y A (U.calling g mk a)) : ∀ (a : Array Value) (U : State) (g : JFrame) (mk : MethodId), (U.heap.size = sz ∧ va_P D cls WS U.heap ∧ va_K D cls av U ∧ va_D (fun _ => True) WS ∧ Y A U) → ((U.calling g mk a).heap.size = sz ∧ va_P D cls WS (U.calling g mk a).heap ∧ va_K D cls av (U.calling g mk a) ∧ va_D (fun _ => True) WS ∧ Y A (U.calling g mk a)) := fun a U g mk q => ⟨q.1, q.2.1, va_K.moved (u := U) (U := U.calling g mk a) (Vm.Alike.refl U.vm) q.2.2.1, q.2.2.2.1, hX A a U g mk q.2.2.2.2⟩
/-- the ends -/
theorem pc_ret {post : Int32 → Prop} {v : Int32} (Sx : CallFix p m c cc nL s args BW own) {ft : FieldType} (hr : meth.sig.returnType = some ft) (hlocks : meth.locks = false) (hn : narrow ft (.int v) = .int v) (hdg : decode cc pc = .ok (.ireturn, 1)) (hv : post v) : W p l e R s m args below meth c s.heap [] cells slots (MQ below (vp_Si post) args s cells slots (fun _ => False)) (F0 m pc ls [.int v]) :=
  W.zret Sx.1 Sx.2.1 hr hn (fun t ht _ => ⟨v, rfl, hv, ht⟩) (fun q h => absurd h List.not_mem_nil) hdg hlocks
theorem pc_vret {post : Unit → Prop} (Sx : CallFix p m c cc nL s args BW own) (hr : meth.sig.returnType = none) (hlocks : meth.locks = false) (hdg : decode cc pc = .ok (.return_, 1)) (hv : post ()) : W p l e R s m args below meth c s.heap [] cells slots (MQ below (va_Sv post) args s cells slots (fun _ => False)) (F0 m pc ls []) :=
  W.vret Sx.1 Sx.2.1 hr (fun t ht _ => ⟨rfl, hv, ht⟩) (fun q h => absurd h List.not_mem_nil) hdg hlocks
theorem pc_lret {post : Int64 → Prop} {v : Int64} (Sx : CallFix p m c cc nL s args BW own) (hr : meth.sig.returnType = some .long) (hlocks : meth.locks = false) (hdg : decode cc pc = .ok (.lreturn, 1)) (hv : post v) : W p l e R s m args below meth c s.heap [] cells slots (MQ below (vp_Sl post) args s cells slots (fun _ => False)) (F0 m pc ls [.long v]) :=
  W.lret Sx.1 Sx.2.1 hr (fun t ht _ => ⟨v, rfl, hv, ht⟩) (fun q h => absurd h List.not_mem_nil) hdg hlocks
theorem hc_ret {S : Type} {post : Int32 → S → Prop} {W1 : S → va_W} {v : Int32} (Sx : CallFix p m c cc nL s args BW own) (hr : meth.sig.returnType = some .int) (hlocks : meth.locks = false) (hdg : decode cc pc = .ok (.ireturn, 1)) (hS : va_S A0 s.heap H locs) (u : S) (hv : post v u) (hP : va_P D cls (W1 u) H) (hD : va_D A0 (W1 u)) : W p l e R s m args below meth c H locs cells slots (MQ below (QI D post W1 A0) args s cells slots A0) (F0 m pc ls [.int v]) :=
  W.iret Sx.1 Sx.2.1 hr (fun t ht _ => ⟨⟨v, u, rfl, hv, by rw [ht]; exact hP, hD⟩, hS.F ht⟩) hS.2.2 hdg hlocks
theorem hc_vret {S : Type} {post : S → Prop} {W1 : S → va_W} (Sx : CallFix p m c cc nL s args BW own) (hr : meth.sig.returnType = none) (hlocks : meth.locks = false) (hdg : decode cc pc = .ok (.return_, 1)) (hS : va_S A0 s.heap H locs) (u : S) (hv : post u) (hP : va_P D cls (W1 u) H) (hD : va_D A0 (W1 u)) : W p l e R s m args below meth c H locs cells slots (MQ below (QV D post W1 A0) args s cells slots A0) (F0 m pc ls []) :=
  W.vret Sx.1 Sx.2.1 hr (fun t ht _ => ⟨⟨u, rfl, hv, by rw [ht]; exact hP, hD⟩, hS.F ht⟩) hS.2.2 hdg hlocks
theorem hc_lret {S : Type} {post : Int64 → S → Prop} {W1 : S → va_W} {v : Int64} (Sx : CallFix p m c cc nL s args BW own) (hr : meth.sig.returnType = some .long) (hlocks : meth.locks = false) (hdg : decode cc pc = .ok (.lreturn, 1)) (hS : va_S A0 s.heap H locs) (u : S) (hv : post v u) (hP : va_P D cls (W1 u) H) (hD : va_D A0 (W1 u)) : W p l e R s m args below meth c H locs cells slots (MQ below (QL D post W1 A0) args s cells slots A0) (F0 m pc ls [.long v]) :=
  W.lret Sx.1 Sx.2.1 hr (fun t ht _ => ⟨⟨v, u, rfl, hv, by rw [ht]; exact hP, hD⟩, hS.F ht⟩) hS.2.2 hdg hlocks
/-- calls of a method that leaves the heap as it is: what it answers -/
theorem pk_i {post : Int32 → Prop} {a : Array Value} {rest : List Value} (hr : va_Run p l e R s m args below meth c H locs cells slots 0 0 (F0 m pc ls st0) rest (vp_Si post a) (fun _ => False)) (kk : ∀ v : Int32, post v → W p l e R s m args below meth c H locs cells slots Q (F0 m (pc + 3) ls (.int v :: rest))) : W p l e R s m args below meth c H locs cells slots Q (F0 m pc ls st0) := vp_callSi hr.run kk
theorem pk_l {post : Int64 → Prop} {a : Array Value} {rest : List Value} (hr : va_Run p l e R s m args below meth c H locs cells slots 0 0 (F0 m pc ls st0) rest (vp_Sl post a) (fun _ => False)) (kk : ∀ v : Int64, post v → W p l e R s m args below meth c H locs cells slots Q (F0 m (pc + 3) ls (.long v :: rest))) : W p l e R s m args below meth c H locs cells slots Q (F0 m pc ls st0) := vp_callSl hr.run kk
theorem pk_v {post : Unit → Prop} {a : Array Value} {rest : List Value} (hr : va_Run p l e R s m args below meth c H locs cells slots 0 0 (F0 m pc ls st0) rest (va_Sv post a) (fun _ => False)) (kk : post () → W p l e R s m args below meth c H locs cells slots Q (F0 m (pc + 3) ls rest)) : W p l e R s m args below meth c H locs cells slots Q (F0 m pc ls st0) := va_csv hr.run kk
theorem pc_V {Qc : Array Value → State → Outcome → State → Prop} (As rest : List Value) (Sx : CallFix p m c cc nL s args BW own) (hls : ls.size = nL) (w : WV own idx y b n r) (md : MD y k) (hM : PC l y b n r rm D ty (.ref o :: As) X wc Qc) (hrm : rm.cells = 0 ∧ rm.slots = 0) (hR : rm.frames + 1 ≤ R.frames ∧ 8 + (n + 11) + rm.locals ≤ R.locals) (hP : va_P D cls wc H) (hK : va_K D cls ty s) (hXb : ∀ (a : Array Value) (U : State) (g : JFrame) (mk : MethodId), X U → X (U.calling g mk a)) (hX : ∀ U : State, U.heap = H → s.WarmedH U.vm → X U)
    (hrv : ∃ cell : Cell, H[o]? = some cell ∧ cell.vm.isStatics = false ∧ s.vm.findClass y.cls = some cell.cls) (hn : As.length = k) (hst : st0 = As.reverse ++ .ref o :: rest) (hW : (rest.map fun v => v.category).sum ≤ 8) (hdg : decode cc pc = .ok (.invokevirtual idx, 3)) (hf : cells + 0 ≤ R.cells ∧ slots + 0 ≤ R.slots) :
    va_Run p l e R s m args below meth c H locs cells slots 0 0 (F0 m pc ls st0) rest (Qc (Value.ref o :: As).toArray) (fun _ => False) :=
  wk_rV As rest Sx hls w md hM hrm hR (pc_bl hXb) (fun U hU hW => ⟨by rw [hU]; exact hP, va_K.moved hW.alike hK, hX U hU hW⟩) hrv hn hst hW hdg hf
theorem pc_T {Qc : Array Value → State → Outcome → State → Prop} (As rest : List Value) (Sx : CallFix p m c cc nL s args BW own) (hls : ls.size = nL) (w : WT own idx y b n r) (md : MD y k) (hM : PC l y b n r rm D ty As X wc Qc) (hrm : rm.cells = 0 ∧ rm.slots = 0) (hR : rm.frames + 1 ≤ R.frames ∧ 8 + (n + 11) + rm.locals ≤ R.locals) (hP : va_P D cls wc H) (hK : va_K D cls ty s) (hXb : ∀ (a : Array Value) (U : State) (g : JFrame) (mk : MethodId), X U → X (U.calling g mk a)) (hX : ∀ U : State, U.heap = H → s.WarmedH U.vm → X U)
    (hn : As.length = k) (hst : st0 = As.reverse ++ rest) (hW : (rest.map fun v => v.category).sum ≤ 8) (hdg : decode cc pc = .ok (.invokestatic idx, 3)) (hf : cells + 0 ≤ R.cells ∧ slots + 0 ≤ R.slots) :
    va_Run p l e R s m args below meth c H locs cells slots 0 0 (F0 m pc ls st0) rest (Qc As.toArray) (fun _ => False) :=
  wk_rT As rest Sx hls w md hM hrm hR (pc_bl hXb) (fun U hU hW => ⟨by rw [hU]; exact hP, va_K.moved hW.alike hK, hX U hU hW⟩) hn hst hW hdg hf
theorem pc_TN {Qc : Array Value → State → Outcome → State → Prop} (As rest : List Value) (Sx : CallFix p m c cc nL s args BW own) (hNN : NN s) (hls : ls.size = nL) (w : WTN own idx y b n r) (md : MD y k) (hM : PC l y b n r rm D ty As X wc Qc) (hrm : rm.cells = 0 ∧ rm.slots = 0) (hR : rm.frames + 1 ≤ R.frames ∧ 8 + (n + 11) + rm.locals ≤ R.locals) (hP : va_P D cls wc H) (hK : va_K D cls ty s) (hXb : ∀ (a : Array Value) (U : State) (g : JFrame) (mk : MethodId), X U → X (U.calling g mk a)) (hX : ∀ U : State, U.heap = H → s.WarmedH U.vm → X U)
    (hn : As.length = k) (hst : st0 = As.reverse ++ rest) (hW : (rest.map fun v => v.category).sum ≤ 8) (hdg : decode cc pc = .ok (.invokestatic idx, 3)) (hf : cells + 0 ≤ R.cells ∧ slots + 0 ≤ R.slots) :
    va_Run p l e R s m args below meth c H locs cells slots 0 0 (F0 m pc ls st0) rest (Qc As.toArray) (fun _ => False) :=
  wk_rTN As rest Sx hNN hls w md hM hrm hR (pc_bl hXb) (fun U hU hW => ⟨by rw [hU]; exact hP, va_K.moved hW.alike hK, hX U hU hW⟩) hn hst hW hdg hf
/-- calls of a method that writes -/
theorem hc_V {Qc : (Nat → Prop) → Array Value → State → Outcome → State → Prop} (As rest : List Value) (isC : List Nat) (Sx : CallFix p m c cc nL s args BW own) (hls : ls.size = nL) (w : WV own idx y b n r) (md : MD y k) (hM : HC l y b n r rm D ty (.ref o :: As) Y wc Qc) (hR : rm.frames + 1 ≤ R.frames ∧ 8 + (n + 11) + rm.locals ≤ R.locals) (hP : va_P D cls ws H) (hD : va_D A0 ws) (hC : isC.map (fun i => ws[i]?) = wc.map some) (hnC : va_nd isC = true) (hK : va_K D cls ty s) (hXb : ∀ (A : Nat → Prop) (a : Array Value) (U : State) (g : JFrame) (mk : MethodId), Y A U → Y A (U.calling g mk a)) (hX : ∀ U : State, U.heap = H → s.WarmedH U.vm → Y (va_A wc H.size) U)
    (hrv : ∃ cell : Cell, H[o]? = some cell ∧ cell.vm.isStatics = false ∧ s.vm.findClass y.cls = some cell.cls) (hn : As.length = k) (hst : st0 = As.reverse ++ .ref o :: rest) (hW : (rest.map fun v => v.category).sum ≤ 8) (hdg : decode cc pc = .ok (.invokevirtual idx, 3)) (hf : cells + rm.cells ≤ R.cells ∧ slots + rm.slots ≤ R.slots) :
    va_Run p l e R s m args below meth c H locs cells slots rm.cells rm.slots (F0 m pc ls st0) rest (Qc (va_A wc H.size) (Value.ref o :: As).toArray) (va_A wc H.size) :=
  wk_rV As rest Sx hls w md (hM H.size) ⟨rfl, rfl⟩ hR (hc_bl hXb) (fun U hU hW => ⟨by rw [hU], by rw [hU]; exact wk_subC hP hC, va_K.moved hW.alike hK, (hD.sub isC hnC hC).weaken (fun _ _ _ _ => trivial), hX U hU hW⟩) hrv hn hst hW hdg hf
theorem hc_T {Qc : (Nat → Prop) → Array Value → State → Outcome → State → Prop} (As rest : List Value) (isC : List Nat) (Sx : CallFix p m c cc nL s args BW own) (hls : ls.size = nL) (w : WT own idx y b n r) (md : MD y k) (hM : HC l y b n r rm D ty As Y wc Qc) (hR : rm.frames + 1 ≤ R.frames ∧ 8 + (n + 11) + rm.locals ≤ R.locals) (hP : va_P D cls ws H) (hD : va_D A0 ws) (hC : isC.map (fun i => ws[i]?) = wc.map some) (hnC : va_nd isC = true) (hK : va_K D cls ty s) (hXb : ∀ (A : Nat → Prop) (a : Array Value) (U : State) (g : JFrame) (mk : MethodId), Y A U → Y A (U.calling g mk a)) (hX : ∀ U : State, U.heap = H → s.WarmedH U.vm → Y (va_A wc H.size) U)
    (hn : As.length = k) (hst : st0 = As.reverse ++ rest) (hW : (rest.map fun v => v.category).sum ≤ 8) (hdg : decode cc pc = .ok (.invokestatic idx, 3)) (hf : cells + rm.cells ≤ R.cells ∧ slots + rm.slots ≤ R.slots) :
    va_Run p l e R s m args below meth c H locs cells slots rm.cells rm.slots (F0 m pc ls st0) rest (Qc (va_A wc H.size) As.toArray) (va_A wc H.size) :=
  wk_rT As rest Sx hls w md (hM H.size) ⟨rfl, rfl⟩ hR (hc_bl hXb) (fun U hU hW => ⟨by rw [hU], by rw [hU]; exact wk_subC hP hC, va_K.moved hW.alike hK, (hD.sub isC hnC hC).weaken (fun _ _ _ _ => trivial), hX U hU hW⟩) hn hst hW hdg hf
theorem hc_I {Qc : (Nat → Prop) → Array Value → State → Outcome → State → Prop} (As rest : List Value) (isC : List Nat) (Sx : CallFix p m c cc nL s args BW own) (hls : ls.size = nL) (w : WI own idx y b n) (md : MD y k) (hi : y.name = "<init>") (hM : HC l y b n none rm D ty (.ref o :: As) Y wc Qc) (hR : rm.frames + 1 ≤ R.frames ∧ 8 + (n + 11) + rm.locals ≤ R.locals) (hP : va_P D cls ws H) (hD : va_D A0 ws) (hC : isC.map (fun i => ws[i]?) = wc.map some) (hnC : va_nd isC = true) (hK : va_K D cls ty s) (hXb : ∀ (A : Nat → Prop) (a : Array Value) (U : State) (g : JFrame) (mk : MethodId), Y A U → Y A (U.calling g mk a)) (hX : ∀ U : State, U.heap = H → s.WarmedH U.vm → Y (va_A wc H.size) U)
    (hn : As.length = k) (hst : st0 = As.reverse ++ .ref o :: rest) (hW : (rest.map fun v => v.category).sum ≤ 8) (hdg : decode cc pc = .ok (.invokespecial idx, 3)) (hf : cells + rm.cells ≤ R.cells ∧ slots + rm.slots ≤ R.slots) :
    va_Run p l e R s m args below meth c H locs cells slots rm.cells rm.slots (F0 m pc ls st0) rest (Qc (va_A wc H.size) (Value.ref o :: As).toArray) (va_A wc H.size) :=
  wk_rI As rest Sx hls w md hi (hM H.size) ⟨rfl, rfl⟩ hR (hc_bl hXb) (fun U hU hW => ⟨by rw [hU], by rw [hU]; exact wk_subC hP hC, va_K.moved hW.alike hK, (hD.sub isC hnC hC).weaken (fun _ _ _ _ => trivial), hX U hU hW⟩) hn hst hW hdg hf
theorem hc_IN {Qc : (Nat → Prop) → Array Value → State → Outcome → State → Prop} (As rest : List Value) (isC : List Nat) (Sx : CallFix p m c cc nL s args BW own) (hNN : NN s) (hls : ls.size = nL) (w : WIN own idx y b n) (md : MD y k) (hi : y.name = "<init>") (hM : HC l y b n none rm D ty (.ref o :: As) Y wc Qc) (hR : rm.frames + 1 ≤ R.frames ∧ 8 + (n + 11) + rm.locals ≤ R.locals) (hP : va_P D cls ws H) (hD : va_D A0 ws) (hC : isC.map (fun i => ws[i]?) = wc.map some) (hnC : va_nd isC = true) (hK : va_K D cls ty s) (hXb : ∀ (A : Nat → Prop) (a : Array Value) (U : State) (g : JFrame) (mk : MethodId), Y A U → Y A (U.calling g mk a)) (hX : ∀ U : State, U.heap = H → s.WarmedH U.vm → Y (va_A wc H.size) U)
    (hn : As.length = k) (hst : st0 = As.reverse ++ .ref o :: rest) (hW : (rest.map fun v => v.category).sum ≤ 8) (hdg : decode cc pc = .ok (.invokespecial idx, 3)) (hf : cells + rm.cells ≤ R.cells ∧ slots + rm.slots ≤ R.slots) :
    va_Run p l e R s m args below meth c H locs cells slots rm.cells rm.slots (F0 m pc ls st0) rest (Qc (va_A wc H.size) (Value.ref o :: As).toArray) (va_A wc H.size) :=
  wk_rIN As rest Sx hNN hls w md hi (hM H.size) ⟨rfl, rfl⟩ hR (hc_bl hXb) (fun U hU hW => ⟨by rw [hU], by rw [hU]; exact wk_subC hP hC, va_K.moved hW.alike hK, (hD.sub isC hnC hC).weaken (fun _ _ _ _ => trivial), hX U hU hW⟩) hn hst hW hdg hf
/-- behind such a call: what it left, beside the rest -/
theorem hk_i {S : Type} {post : Int32 → S → Prop} {W1 : S → va_W} {a : Array Value} {rest : List Value} {mc ms c1 s1 : Nat} (isC isR : List Nat) (hr : va_Run p l e R s m args below meth c H locs cells slots mc ms (F0 m pc ls st0) rest (QI D post W1 (va_A wc H.size) a) (va_A wc H.size)) (hS : va_S A0 H0 H locs) (hA : ∀ q : Nat, H0.size ≤ q → A0 q) (hP : va_P D cls ws H) (hD : va_D A0 ws) (hC : isC.map (fun i => ws[i]?) = wc.map some) (hRr : isR.map (fun i => ws[i]?) = wr.map some) (hn : va_nd isR = true) (hdis : ∀ i ∈ isR, i ∉ isC) (h1 : cells + mc = c1) (h2 : slots + ms = s1)
    (kk : ∀ (v : Int32) (u : S) (H1 : Heap) (locs1 : List Loc), post v u → va_P D cls (wr ++ W1 u) H1 → va_D A0 (wr ++ W1 u) → va_S A0 H0 H1 locs1 → W p l e R s m args below meth c H1 locs1 c1 s1 Q (F0 m (pc + 3) ls (.int v :: rest))) : W p l e R s m args below meth c H locs cells slots Q (F0 m pc ls st0) := by
  subst h1; subst h2
  have hFc := va_free hD hS hA isC hC
  refine va_calli hr hS (fun q _ h => hFc q h) hFc (fun v u t H1 locs1 ht hvm hw hB hz hk hS1 => ?_)
  obtain ⟨hP1, hD1⟩ := hB
  rw [ht] at hP1
  obtain ⟨hP2, hD2⟩ := va_join hP hD isC isR hC hRr hn hdis hk hFc hP1 hD1
  exact kk v u H1 locs1 hw hP2 hD2 hS1
theorem hk_l {S : Type} {post : Int64 → S → Prop} {W1 : S → va_W} {a : Array Value} {rest : List Value} {mc ms c1 s1 : Nat} (isC isR : List Nat) (hr : va_Run p l e R s m args below meth c H locs cells slots mc ms (F0 m pc ls st0) rest (QL D post W1 (va_A wc H.size) a) (va_A wc H.size)) (hS : va_S A0 H0 H locs) (hA : ∀ q : Nat, H0.size ≤ q → A0 q) (hP : va_P D cls ws H) (hD : va_D A0 ws) (hC : isC.map (fun i => ws[i]?) = wc.map some) (hRr : isR.map (fun i => ws[i]?) = wr.map some) (hn : va_nd isR = true) (hdis : ∀ i ∈ isR, i ∉ isC) (h1 : cells + mc = c1) (h2 : slots + ms = s1)
    (kk : ∀ (v : Int64) (u : S) (H1 : Heap) (locs1 : List Loc), post v u → va_P D cls (wr ++ W1 u) H1 → va_D A0 (wr ++ W1 u) → va_S A0 H0 H1 locs1 → W p l e R s m args below meth c H1 locs1 c1 s1 Q (F0 m (pc + 3) ls (.long v :: rest))) : W p l e R s m args below meth c H locs cells slots Q (F0 m pc ls st0) := by
  subst h1; subst h2
  have hFc := va_free hD hS hA isC hC
  refine va_calll hr hS (fun q _ h => hFc q h) hFc (fun v u t H1 locs1 ht hvm hw hB hz hk hS1 => ?_)
  obtain ⟨hP1, hD1⟩ := hB
  rw [ht] at hP1
  obtain ⟨hP2, hD2⟩ := va_join hP hD isC isR hC hRr hn hdis hk hFc hP1 hD1
  exact kk v u H1 locs1 hw hP2 hD2 hS1
theorem hk_v {S : Type} {post : S → Prop} {W1 : S → va_W} {a : Array Value} {rest : List Value} {mc ms c1 s1 : Nat} (isC isR : List Nat) (hr : va_Run p l e R s m args below meth c H locs cells slots mc ms (F0 m pc ls st0) rest (QV D post W1 (va_A wc H.size) a) (va_A wc H.size)) (hS : va_S A0 H0 H locs) (hA : ∀ q : Nat, H0.size ≤ q → A0 q) (hP : va_P D cls ws H) (hD : va_D A0 ws) (hC : isC.map (fun i => ws[i]?) = wc.map some) (hRr : isR.map (fun i => ws[i]?) = wr.map some) (hn : va_nd isR = true) (hdis : ∀ i ∈ isR, i ∉ isC) (h1 : cells + mc = c1) (h2 : slots + ms = s1)
    (kk : ∀ (u : S) (H1 : Heap) (locs1 : List Loc), post u → va_P D cls (wr ++ W1 u) H1 → va_D A0 (wr ++ W1 u) → va_S A0 H0 H1 locs1 → W p l e R s m args below meth c H1 locs1 c1 s1 Q (F0 m (pc + 3) ls rest)) : W p l e R s m args below meth c H locs cells slots Q (F0 m pc ls st0) := by
  subst h1; subst h2
  have hFc := va_free hD hS hA isC hC
  refine va_callv hr hS (fun q _ h => hFc q h) hFc (fun u t H1 locs1 ht hvm hw hB hz hk hS1 => ?_)
  obtain ⟨hP1, hD1⟩ := hB
  rw [ht] at hP1
  obtain ⟨hP2, hD2⟩ := va_join hP hD isC isR hC hRr hn hdis hk hFc hP1 hD1
  exact kk u H1 locs1 hw hP2 hD2 hS1
/-- loops: a measure that falls -/
theorem pl1 (head nL : Nat) {α : Type} (lvf : α → List (Nat × Value)) (I : α → Prop) (μ : α → Nat) (step : ∀ (x : α) (ls : Array Slot), I x → lv_has ls nL (lvf x) → (∀ (x' : α) (ls' : Array Slot), I x' → μ x' < μ x → lv_has ls' nL (lvf x') → W p l e R s m args below meth c H locs cells slots Q (F0 m head ls' [])) → W p l e R s m args below meth c H locs cells slots Q (F0 m head ls [])) (x : α) (h : I x) (hl : lv_has ls nL (lvf x)) : W p l e R s m args below meth c H locs cells slots Q (F0 m head ls []) := by
  have key : ∀ (n : Nat) (x : α) (ls : Array Slot), μ x < n → I x → lv_has ls nL (lvf x) → W p l e R s m args below meth c H locs cells slots Q (F0 m head ls []) := by
    intro n
    induction n with
    | zero => intro x ls h; exact absurd h (Nat.not_lt_zero _)
    | succ n ih => intro x ls h hI hl; exact step x ls hI hl (fun x' ls' hI' hm hl' => ih x' ls' (Nat.lt_of_lt_of_le hm (Nat.le_of_lt_succ h)) hI' hl')
  exact key _ x ls (Nat.lt_succ_self _) h hl
theorem gl1 (head nL : Nat) {α : Type} (wsf : α → va_W) (lvf : α → List (Nat × Value)) (I : α → Prop) (μ : α → Nat) (step : ∀ (x : α) (H : Heap) (locs : List Loc) (ls : Array Slot), I x → lv_has ls nL (lvf x) → va_P D cls (wsf x) H → va_D A0 (wsf x) → va_S A0 H0 H locs → (∀ (x' : α) (H' : Heap) (locs' : List Loc) (ls' : Array Slot), I x' → μ x' < μ x → lv_has ls' nL (lvf x') → va_P D cls (wsf x') H' → va_D A0 (wsf x') → va_S A0 H0 H' locs' → W p l e R s m args below meth c H' locs' cells slots Q (F0 m head ls' [])) → W p l e R s m args below meth c H locs cells slots Q (F0 m head ls [])) (x : α) (h : I x) (hl : lv_has ls nL (lvf x)) (hP : va_P D cls (wsf x) H) (hD : va_D A0 (wsf x)) (hS : va_S A0 H0 H locs) : W p l e R s m args below meth c H locs cells slots Q (F0 m head ls []) := by
  have key : ∀ (n : Nat) (x : α) (H : Heap) (locs : List Loc) (ls : Array Slot), μ x < n → I x → lv_has ls nL (lvf x) → va_P D cls (wsf x) H → va_D A0 (wsf x) → va_S A0 H0 H locs → W p l e R s m args below meth c H locs cells slots Q (F0 m head ls []) := by
    intro n
    induction n with
    | zero => intro x H locs ls h; exact absurd h (Nat.not_lt_zero _)
    | succ n ih => intro x H locs ls h hI hl hP hD hS; exact step x H locs ls hI hl hP hD hS (fun x' H' locs' ls' hI' hm hl' hP' hD' hS' => ih x' H' locs' ls' (Nat.lt_of_lt_of_le hm (Nat.le_of_lt_succ h)) hI' hl' hP' hD' hS')
  exact key _ x H locs ls (Nat.lt_succ_self _) h hl hP hD hS
theorem wk_put1 {C : String} {T : u_T} {N ci a : Nat} {t : Nat → FieldType} {rest : List Value} {ws' : va_W} (Sx : CallFix p m c cc nL s args BW own) (ef : EF C T N t) (hK : va_K D cls ty s) (hP : va_P D cls ws H) (hD : va_D A0 ws) (hS : va_S A0 H0 H locs) (q0 : Nat) {fs : List Value} (he : ws[q0]? = some (a, .inr (ci, fs))) (hc : cls[ci]? = some (C, T, N)) (k : Nat) (hk : k < N) (hlink : Cond.fieldLink own idx (T k).1 (T k).2.1 (T k).2.2.1 ∈ BW) (hfin : (T k).2.2.2 = false) {v : Value} (hn : narrow (t k) v = v) (hfit : fits (t k) v = true) (hl : k < fs.length) (hdg : decode cc pc = .ok (.putfield idx, 3)) (hw : ws.set q0 (a, .inr (ci, fs.set k v)) = ws')
    (kk : ∀ (H1 : Heap) (locs1 : List Loc), va_P D cls ws' H1 → va_D A0 ws' → va_S A0 H0 H1 locs1 → W p l e R s m args below meth c H1 locs1 cells slots Q (F0 m (pc + 3) ls rest)) : W p l e R s m args below meth c H locs cells slots Q (F0 m pc ls (v :: .ref a :: rest)) := by
  subst hw
  exact va_put Sx.1 Sx.2.1 Sx.2.2.2.2 ef.1 t ef.2.1 ef.2.2 Sx.2.2.2.1 hK hP hD hS q0 he hc k hk (Sx.2.2.2.2 _ hlink) (fun _ h => h) hfin (ef.2.1 k hk) hn hfit hl hdg kk
theorem wk_putF {C : String} {T : u_T} {N ci a : Nat} {t : Nat → FieldType} {rest : List Value} {ws' : va_W} (Sx : CallFix p m c cc nL s args BW own) (ef : EF C T N t) (hK : va_K D cls ty s) (hP : va_P D cls ws H) (hD : va_D A0 ws) (hS : va_S A0 H0 H locs) (q0 : Nat) {fs : List Value} (he : ws[q0]? = some (a, .inr (ci, fs))) (hc : cls[ci]? = some (C, T, N)) (k : Nat) (hk : k < N) (hlink : Cond.fieldLink own idx (T k).1 (T k).2.1 (T k).2.2.1 ∈ BW) (hfin : (T k).2.2.2 = true) (hin : meth.name = "<init>") (hdecl : (T k).1 = own) {v : Value} (hn : narrow (t k) v = v) (hfit : fits (t k) v = true) (hl : k < fs.length) (hdg : decode cc pc = .ok (.putfield idx, 3)) (hw : ws.set q0 (a, .inr (ci, fs.set k v)) = ws')
    (kk : ∀ (H1 : Heap) (locs1 : List Loc), va_P D cls ws' H1 → va_D A0 ws' → va_S A0 H0 H1 locs1 → W p l e R s m args below meth c H1 locs1 cells slots Q (F0 m (pc + 3) ls rest)) : W p l e R s m args below meth c H locs cells slots Q (F0 m pc ls (v :: .ref a :: rest)) := by
  subst hw
  exact va_putF Sx.1 Sx.2.1 Sx.2.2.2.2 ef.1 t ef.2.1 ef.2.2 Sx.2.2.2.1 hK hP hD hS q0 he hc k hk (Sx.2.2.2.2 _ hlink) (fun _ h => h) hfin hin hdecl (ef.2.1 k hk) hn hfit hl hdg kk
theorem wk_new {C : String} {T : u_T} {N ci : Nat} {t : Nat → FieldType} {rest : List Value} {fs : List Value} {c1 s1 : Nat} (Sx : CallFix p m c cc nL s args BW own) (ef : EF C T N t) (hK : va_K D cls ty s) (hP : va_P D cls ws H) (hD : va_D A0 ws) (hS : va_S A0 H0 H locs) (hA : ∀ q : Nat, H0.size ≤ q → A0 q) (hc : cls[ci]? = some (C, T, N)) (hcl : Cond.classLink own idx C ∈ BW) (hinst : Cond.instantiable C N ∈ BW) (hini : Cond.initialized C ∈ BW) (hfs : ∀ j, j < N → defaultValue (t j) = vp_V fs j) (hcells : cells + 1 ≤ R.cells) (hslots : slots + N ≤ R.slots) (h1 : cells + 1 = c1) (h2 : slots + N = s1) (hdg : decode cc pc = .ok (.new idx, 3))
    (kk : ∀ (q : Nat) (H1 : Heap), va_P D cls (ws ++ [(q, .inr (ci, fs))]) H1 → va_D A0 (ws ++ [(q, .inr (ci, fs))]) → va_S A0 H0 H1 locs → W p l e R s m args below meth c H1 locs c1 s1 Q (F0 m (pc + 3) ls (.ref q :: rest))) : W p l e R s m args below meth c H locs cells slots Q (F0 m pc ls rest) := by
  subst h1; subst h2
  exact va_new Sx.1 Sx.2.1 Sx.2.2.2.2 ef.1 t ef.2.1 Sx.2.2.2.1 (Sx.2.2.2.2 _ hcl) (Sx.2.2.2.2 _ hinst) (Sx.2.2.2.2 _ hini) hK hP hD hS hA hc hfs hcells hslots hdg kk
theorem wk_newa1 {at_ : ArrayType} {ft : FieldType} {rest : List Value} {c1 s1 : Nat} {cI : ClassId} (Sx : CallFix p m c cc nL s args BW own) (harr : Cond.arrayClass (newarray.typeOf at_) ∈ BW) (hty : newarray.typeOf at_ = ft) (hK : va_K D cls ty s) (t0 : Nat) (ht : ty[t0]? = some (cI, ft)) (hprim : ∀ c1 : ClassId, va_RA s c1 ft → s.vm.findClass ("[" ++ ft.toString) = some c1) (hP : va_P D cls ws H) (hD : va_D A0 ws) (hS : va_S A0 H0 H locs) (hA : ∀ q : Nat, H0.size ≤ q → A0 q) {n' : Int32} (N' : Nat) {a0 : vp_A} (ha : ∀ cA : ClassId, vp_cell cA a0 = arrV cA N' (fun _ => defaultValue ft)) (hn : ¬ n' < 0) (hN : n'.toNatClampNeg = N') (hbytes : N' * componentBytes ft ≤ 536870912) (hcells : cells + 1 ≤ R.cells) (hslots : slots + N' ≤ R.slots) (h1 : cells + 1 = c1) (h2 : slots + N' = s1) (hdg : decode cc pc = .ok (.newarray at_, 2))
    (kk : ∀ (q : Nat) (H1 : Heap), va_P D cls (ws ++ [(q, .inl (cI, a0))]) H1 → va_D A0 (ws ++ [(q, .inl (cI, a0))]) → va_S A0 H0 H1 locs → W p l e R s m args below meth c H1 locs c1 s1 Q (F0 m (pc + 2) ls (.ref q :: rest))) : W p l e R s m args below meth c H locs cells slots Q (F0 m pc ls (.int n' :: rest)) := by
  subst h1; subst h2
  refine va_newa Sx.1 Sx.2.1 (atype := at_) (Sx.2.2.2.2 _ harr) hty hK hP hD hS hA ha hn hN hbytes hcells hslots hdg (fun q cA H1 hK1 hP1 hD1 hS1 => ?_)
  have e1 := hprim cA ((hK1.2 ty.length (cA, ft) (by rw [List.getElem?_append_right (Nat.le_refl _), Nat.sub_self]; rfl)).2)
  have e2 := hprim cI ((hK.2 t0 (cI, ft) ht).2)
  have e3 : cA = cI := Option.some.inj (e1.symm.trans e2)
  subst e3
  exact kk q H1 hP1 hD1 hS1
theorem wk_iast {a : Nat} {cA : ClassId} {n' : Nat} {f : Nat → Int32} {rest : List Value} {ws' : va_W} (Sx : CallFix p m c cc nL s args BW own) (hK : va_K D cls ty s) (hP : va_P D cls ws H) (hD : va_D A0 ws) (hS : va_S A0 H0 H locs) (q0 t0 : Nat) (ha : ws[q0]? = some (a, .inl (cA, n', .inl f))) (ht : ty[t0]? = some (cA, .int)) {i x : Int32} (hin : vp_in i n') (hdg : decode cc pc = .ok (.iastore, 1)) (hw : ws.set q0 (a, .inl (cA, n', .inl (upd f i.toNatClampNeg x))) = ws')
    (kk : ∀ (H1 : Heap) (locs1 : List Loc), va_P D cls ws' H1 → va_D A0 ws' → va_S A0 H0 H1 locs1 → W p l e R s m args below meth c H1 locs1 cells slots Q (F0 m (pc + 1) ls rest)) : W p l e R s m args below meth c H locs cells slots Q (F0 m pc ls (.int x :: .int i :: .ref a :: rest)) := by
  subst hw
  exact va_iast Sx.1 Sx.2.1 hK hP hD hS q0 t0 ha ht hin hdg kk
theorem wk_bast {a : Nat} {cA : ClassId} {n' : Nat} {f : Nat → Int32} {rest : List Value} {ws' : va_W} (Sx : CallFix p m c cc nL s args BW own) (hK : va_K D cls ty s) (hP : va_P D cls ws H) (hD : va_D A0 ws) (hS : va_S A0 H0 H locs) (q0 t0 : Nat) (ha : ws[q0]? = some (a, .inl (cA, n', .inl f))) (ht : ty[t0]? = some (cA, .byte)) {i x : Int32} (hin : vp_in i n') (hdg : decode cc pc = .ok (.bastore, 1)) (hw : ws.set q0 (a, .inl (cA, n', .inl (upd f i.toNatClampNeg (vp_nar .byte x)))) = ws')
    (kk : ∀ (H1 : Heap) (locs1 : List Loc), va_P D cls ws' H1 → va_D A0 ws' → va_S A0 H0 H1 locs1 → W p l e R s m args below meth c H1 locs1 cells slots Q (F0 m (pc + 1) ls rest)) : W p l e R s m args below meth c H locs cells slots Q (F0 m pc ls (.int x :: .int i :: .ref a :: rest)) := by
  subst hw
  exact va_bast Sx.1 Sx.2.1 hK hP hD hS q0 t0 ha ht hin hdg kk
theorem wk_last {a : Nat} {cA : ClassId} {n' : Nat} {f : Nat → Int64} {rest : List Value} {ws' : va_W} (Sx : CallFix p m c cc nL s args BW own) (hK : va_K D cls ty s) (hP : va_P D cls ws H) (hD : va_D A0 ws) (hS : va_S A0 H0 H locs) (q0 t0 : Nat) (ha : ws[q0]? = some (a, .inl (cA, n', .inr (.inl f)))) (ht : ty[t0]? = some (cA, .long)) {i : Int32} {x : Int64} (hin : vp_in i n') (hdg : decode cc pc = .ok (.lastore, 1)) (hw : ws.set q0 (a, .inl (cA, n', .inr (.inl (vp_updL f i.toNatClampNeg x)))) = ws')
    (kk : ∀ (H1 : Heap) (locs1 : List Loc), va_P D cls ws' H1 → va_D A0 ws' → va_S A0 H0 H1 locs1 → W p l e R s m args below meth c H1 locs1 cells slots Q (F0 m (pc + 1) ls rest)) : W p l e R s m args below meth c H locs cells slots Q (F0 m pc ls (.long x :: .int i :: .ref a :: rest)) := by
  subst hw
  exact va_last Sx.1 Sx.2.1 hK hP hD hS q0 t0 ha ht hin hdg kk
end WK2

abbrev fThings (q : Nat → Nat) : List Value := [.ref (q 1), .ref (q 2), .ref (q 3), .ref (q 4), .ref (q 5), .ref (q 6), .int 0, .ref (q 7)]
abbrev fLadies (q : Nat → Nat) : List Value := [.ref (q 1), .ref (q 2), .ref (q 3), .int 0]
abbrev fLaws (q : Nat → Nat) : List Value := [.ref (q 1), .ref (q 2), .int 0]
abbrev fBuyers (q : Nat → Nat) : List Value := [.ref (q 1), .ref (q 2), .ref (q 3), .ref (q 4), .ref (q 5), .int 0]
abbrev fSightings (q : Nat → Nat) : List Value := [.ref (q 1), .ref (q 2), .ref (q 3), .ref (q 4), .int 0, .ref (q 5), .ref (q 6), .ref (q 7)]
abbrev fSecrets (q : Nat → Nat) : List Value := [.ref (q 1), .ref (q 2), .int 0, .ref (q 3), .ref (q 4), .ref (q 5), .ref (q 6), .int 0, .ref (q 7)]
abbrev fHall (q : Nat → Nat) : List Value := [.ref (q 1), .ref (q 9), .ref (q 13), .ref (q 16), .ref (q 22), .ref (q 30), .ref (q 38), .int 0, .int 12, .int 12, .int 0, .int 0, .ref (q 39), .ref (q 40)]
abbrev fTape (q : Nat → Nat) : List Value := [.ref (q 1), .int 0, .int 0, .int 0]
abbrev fShelf (q : Nat → Nat) : List Value := [.ref (q 1), .int (-1), .int 0]
abbrev fSale (q : Nat → Nat) : List Value := [.int 12, .int 12, .ref (q 1), .int 0, .ref (q 2), .ref (q 3), .ref (q 4), .ref (q 5), .ref (q 6)]
abbrev fPicks (q : Nat → Nat) : List Value := [.ref (q 1), .ref (q 2)]
abbrev fX (q : Nat → Nat) : List Value := [.ref (q 1), .ref (q 2), .ref (q 3), .ref (q 5), .ref (q 46), .ref (q 87), .ref (q 94), .int 0]
abbrev fM (q : Nat → Nat) : List Value := [.ref (q 0), .ref (q 1), .ref (q 2), .int 0, .ref (q 4), .ref (q 5), .ref (q 6), .ref (q 7), .ref (q 8), .ref (q 9), .int 0, .ref (q 11), .ref (q 12), .ref (q 13), .int 0, .ref (q 15), .int 0, .ref (q 17), .int 0, .ref (q 19), .ref (q 20), .ref (q 21), .ref (q 22), .ref (q 23), .int 0, .ref (q 25), .int 0, .ref (q 27), .ref (q 28), .ref (q 29), .ref (q 30), .int 0, .ref (q 32), .ref (q 33), .ref (q 34), .ref (q 35), .ref (q 36), .int 0, .ref (q 38), .ref (q 39), .ref (q 40), .ref (q 41), .ref (q 42), .ref (q 43), .ref (q 44), .ref (q 45), .ref (q 46), .ref (q 47), .ref (q 48), .ref (q 49), .null]
abbrev shv (q : Nat → Nat) : Nat → Option Nat := (va_up (va_up (va_up (va_up (va_up (va_up (va_up (va_up (fun _ => none) 0 (some (q 97))) 1 (some (q 99))) 2 (some (q 101))) 3 (some (q 103))) 4 (some (q 105))) 5 (some (q 107))) 6 (some (q 109))) 7 (some (q 111)))
abbrev hold0 : Nat → Int32 := (upd (upd (upd (upd (upd (upd (upd (upd (fun _ => 0) 0 (-1)) 1 (-1)) 2 (-1)) 3 (-1)) 4 (-1)) 5 (-1)) 6 (-1)) 7 (-1))
abbrev hours0 : Nat → Int32 := upd (upd (fun _ => 0) 0 12) 1 12
theorem hold0_at : ∀ j, j < 8 → hold0 j = -1 := by
  intro j hj
  rcases (show j = 0 ∨ j = 1 ∨ j = 2 ∨ j = 3 ∨ j = 4 ∨ j = 5 ∨ j = 6 ∨ j = 7 by omega) with rfl | rfl | rfl | rfl | rfl | rfl | rfl | rfl <;> rfl
theorem shv_at (q : Nat → Nat) : ∀ j, j < 8 → shv q j = some (q (97 + 2 * j)) := by
  intro j hj
  rcases (show j = 0 ∨ j = 1 ∨ j = 2 ∨ j = 3 ∨ j = 4 ∨ j = 5 ∨ j = 6 ∨ j = 7 by omega) with rfl | rfl | rfl | rfl | rfl | rfl | rfl | rfl <;> rfl
theorem p_nil {D : va_G} {cl : List vw_C} {H : Heap} : va_P D cl [] H := fun k q h => by simp at h
theorem d_nil {A : Nat → Prop} : va_D A [] := ⟨fun i j p q h => by simp at h, fun k q h => by simp at h⟩
theorem hours0_lo {i : Int32} (h : 0 ≤ i.toInt ∧ i.toInt ≤ 1) : hours0 i.toNatClampNeg = 12 := by
  have e := nc_at h.1
  rcases (show i.toNatClampNeg = 0 ∨ i.toNatClampNeg = 1 by omega) with k | k <;> rw [k] <;> rfl
theorem hours0_hi {i : Int32} (h : 2 ≤ i.toInt) : hours0 i.toNatClampNeg = 0 := by
  have e := nc_at (show 0 ≤ i.toInt by omega)
  simp [hours0, upd, show ¬ i.toNatClampNeg = 0 by omega, show ¬ i.toNatClampNeg = 1 by omega]
theorem inv_read {f : Nat → Int32} {lo X : Int} {v : Int32} (h : ∀ j : Nat, lo ≤ (j : Int) → (j : Int) < X → f j = v) (i : Int32) (h1 : lo ≤ i.toInt ∧ 0 ≤ i.toInt) (h2 : i.toInt < X) : f i.toNatClampNeg = v := by
  have e := nc_at h1.2
  exact h _ (by omega) (by omega)
theorem inv_upd {f : Nat → Int32} {lo X Y : Int} {v : Int32} (h : ∀ j : Nat, lo ≤ (j : Int) → (j : Int) < X → f j = v) (i : Int32) (h1 : 0 ≤ i.toInt ∧ i.toInt = X) (h2 : Y = X + 1) : ∀ j : Nat, lo ≤ (j : Int) → (j : Int) < Y → upd f i.toNatClampNeg v j = v := by
  intro j k1 k2
  rw [upd_at h1.2 (by omega)]
  by_cases c : (j : Int) = X
  · rw [if_pos c]
  · rw [if_neg c]; exact h j k1 (by omega)
abbrev wShelves (cy : Nat → ClassId) (q : Nat → Nat) : va_W := [(q 97, .inr (7, fShelf (fun k => q (97 + k)))), (q 98, .inl (cy 2, 40, .inr (.inl (fun _ => 0)))), (q 99, .inr (7, fShelf (fun k => q (99 + k)))), (q 100, .inl (cy 2, 40, .inr (.inl (fun _ => 0)))), (q 101, .inr (7, fShelf (fun k => q (101 + k)))), (q 102, .inl (cy 2, 40, .inr (.inl (fun _ => 0)))), (q 103, .inr (7, fShelf (fun k => q (103 + k)))), (q 104, .inl (cy 2, 40, .inr (.inl (fun _ => 0)))), (q 105, .inr (7, fShelf (fun k => q (105 + k)))), (q 106, .inl (cy 2, 40, .inr (.inl (fun _ => 0)))), (q 107, .inr (7, fShelf (fun k => q (107 + k)))), (q 108, .inl (cy 2, 40, .inr (.inl (fun _ => 0)))), (q 109, .inr (7, fShelf (fun k => q (109 + k)))), (q 110, .inl (cy 2, 40, .inr (.inl (fun _ => 0)))), (q 111, .inr (7, fShelf (fun k => q (111 + k)))), (q 112, .inl (cy 2, 40, .inr (.inl (fun _ => 0))))]
abbrev wShelf (cy : Nat → ClassId) (q : Nat → Nat) : va_W := [(q 0, .inr (7, fShelf q)), (q 1, .inl (cy 2, 40, .inr (.inl (fun _ => 0))))]
theorem sh_p {D : va_G} {cl : List vw_C} {H : Heap} {cy : Nat → ClassId} {q : Nat → Nat} (h : va_P D cl (wShelves cy q) H) : ∀ j, j < 8 → va_P D cl (wShelf cy (fun k => q (97 + 2 * j + k))) H := by
  intro j hj
  rcases (show j = 0 ∨ j = 1 ∨ j = 2 ∨ j = 3 ∨ j = 4 ∨ j = 5 ∨ j = 6 ∨ j = 7 by omega) with rfl | rfl | rfl | rfl | rfl | rfl | rfl | rfl
  · exact h.sub [0, 1] rfl
  · exact h.sub [2, 3] rfl
  · exact h.sub [4, 5] rfl
  · exact h.sub [6, 7] rfl
  · exact h.sub [8, 9] rfl
  · exact h.sub [10, 11] rfl
  · exact h.sub [12, 13] rfl
  · exact h.sub [14, 15] rfl
theorem sh_d {A : Nat → Prop} {cy : Nat → ClassId} {q : Nat → Nat} (h : va_D A (wShelves cy q)) : ∀ j, j < 8 → va_D A (wShelf cy (fun k => q (97 + 2 * j + k))) := by
  intro j hj
  rcases (show j = 0 ∨ j = 1 ∨ j = 2 ∨ j = 3 ∨ j = 4 ∨ j = 5 ∨ j = 6 ∨ j = 7 by omega) with rfl | rfl | rfl | rfl | rfl | rfl | rfl | rfl
  · exact h.sub [0, 1] (by decide) rfl
  · exact h.sub [2, 3] (by decide) rfl
  · exact h.sub [4, 5] (by decide) rfl
  · exact h.sub [6, 7] (by decide) rfl
  · exact h.sub [8, 9] (by decide) rfl
  · exact h.sub [10, 11] (by decide) rfl
  · exact h.sub [12, 13] (by decide) rfl
  · exact h.sub [14, 15] (by decide) rfl
