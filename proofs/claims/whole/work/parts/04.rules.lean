section WK2
variable {p : Program} {l : Launch} {e : Env} {R : Room} {s : State} {m : MethodId} {args : Array Value} {below : List Frame} {meth : Method} {c : Code} {H : Heap} {locs : List Loc} {cells slots : Nat} {Q : State → Prop}
variable {cc : ByteArray} {pc nL idx n k : Nat} {ls : Array Slot} {own : String} {D : va_G} {ty : List (ClassId × FieldType)} {ws : va_W} {A0 : Nat → Prop} {H0 : Heap}
def EF (C : String) (T : u_T) (N : Nat) (t : Nat → FieldType) : Prop := (∀ w ∈ u_ws C T N, w ∈ BW) ∧ (∀ k, k < N → parseFieldDescriptor (T k).2.2.1 = some (t k)) ∧ (∀ a, a < N → ∀ b, b < N → a ≠ b → (T a).2.1 ≠ (T b).2.1)
theorem wk_get {C : String} {T : u_T} {N ci a : Nat} {t : Nat → FieldType} {rest : List Value} (Sx : CallFix p m c cc nL s args BW own) (ef : EF C T N t) (hK : va_K D cls ty s) (hP : va_P D cls ws H) (q0 : Nat) {fs : List Value} (he : ws[q0]? = some (a, .inr (ci, fs))) (hc : cls[ci]? = some (C, T, N)) (k : Nat) (hk : k < N) (hlink : Cond.fieldLink own idx (T k).1 (T k).2.1 (T k).2.2.1 ∈ BW) {v : Value} (hv : fs[k]? = some v) (hdg : decode cc pc = .ok (.getfield idx, 3)) (kk : W p l e R s m args below meth c H locs cells slots Q (F0 m (pc + 3) ls (v :: rest))) : W p l e R s m args below meth c H locs cells slots Q (F0 m pc ls (.ref a :: rest)) :=
  va_get Sx.1 Sx.2.1 Sx.2.2.2.2 ef.1 Sx.2.2.2.1 hK hP q0 he hc k hk (Sx.2.2.2.2 _ hlink) (fun _ h => h) hv hdg kk
theorem wk_put {C : String} {T : u_T} {N ci a : Nat} {t : Nat → FieldType} {rest : List Value} {ws' : va_W} (Sx : CallFix p m c cc nL s args BW own) (ef : EF C T N t) (hK : va_K D cls ty s) (hP : va_P D cls ws H) (hD : va_D A0 ws) (hS : va_S A0 H0 H locs) (q0 : Nat) {fs : List Value} (he : ws[q0]? = some (a, .inr (ci, fs))) (hc : cls[ci]? = some (C, T, N)) (k : Nat) (hk : k < N) (hlink : Cond.fieldLink own idx (T k).1 (T k).2.1 (T k).2.2.1 ∈ BW) (hfin : (T k).2.2.2 = false) {v : Value} (hn : narrow (t k) v = v) (hfit : fits (t k) v = true) (hl : k < fs.length) (hdg : decode cc pc = .ok (.putfield idx, 3)) (hw : ws.set q0 (a, .inr (ci, fs.set k v)) = ws')
    (kk : ∀ (H1 : Heap) (locs1 : List Loc), va_P D cls ws' H1 → va_D A0 ws' → va_S A0 H0 H1 locs1 → W p l e R s m args below meth c H1 locs1 cells slots Q (F0 m (pc + 3) ls rest)) : W p l e R s m args below meth c H locs cells slots Q (F0 m pc ls (v :: .ref a :: rest)) := by
  subst hw
  exact va_put Sx.1 Sx.2.1 Sx.2.2.2.2 ef.1 t ef.2.1 ef.2.2 Sx.2.2.2.1 hK hP hD hS q0 he hc k hk (Sx.2.2.2.2 _ hlink) (fun _ h => h) hfin (ef.2.1 k hk) hn hfit hl hdg kk
end WK2
/-! what stands outside the numbered cells and is only read: static rows, the words' texts -/
abbrev CZ (A : Nat → Prop) (U : State) : Prop := va_Z "java/lang/String" "COMPACT_STRINGS" "Z" (.int 1) A U U.heap
abbrev CY (A : Nat → Prop) (U : State) : Prop := va_Zq "jdk/internal/util/Preconditions" "SIOOBE_FORMATTER" "Ljava/util/function/BiFunction;" A U U.heap
/-- static rows: number, class, field, length, contents -/
def STs : List (Nat × String × String × Nat × (Nat → Int)) := [(400, "WhiteElephants$Laws", "AT_FIRST", 5, fun j => ([100, 50, 1, 0, 999] : List Int).getD j 0), (401, "WhiteElephants$Laws", "AT_LEAST", 5, fun j => ([0, 0, 1, 0, 0] : List Int).getD j 0), (402, "WhiteElephants$Laws", "AT_MOST", 5, fun j => ([200, 200, 50, 999, 999] : List Int).getD j 0), (403, "WhiteElephants$Things", "UNDER", 6, fun j => ([-1, 0, 1, 2, 0, 0] : List Int).getD j 0), (404, "WhiteElephants$Things", "LIKED", 3, fun j => ([63, 48, 14] : List Int).getD j 0)]
/-- texts: number, class, place, text, size, bytes -/
def STw : List (Nat × String × Nat × String × Nat × (Nat → Int)) := [(410, "WhiteElephants$Tape", 55, "known", 5, fun j => ([107, 110, 111, 119, 110] : List Int).getD j 0), (411, "WhiteElephants$Tape", 61, "strange", 7, fun j => ([115, 116, 114, 97, 110, 103, 101] : List Int).getD j 0), (412, "WhiteElephants$Tape", 63, "round", 5, fun j => ([114, 111, 117, 110, 100] : List Int).getD j 0), (413, "WhiteElephants$Tape", 65, "least", 5, fun j => ([108, 101, 97, 115, 116] : List Int).getD j 0), (414, "WhiteElephants$Tape", 67, "most", 4, fun j => ([109, 111, 115, 116] : List Int).getD j 0), (420, "WhiteElephantsModel", 202, "known", 5, fun j => ([107, 110, 111, 119, 110] : List Int).getD j 0), (421, "WhiteElephantsModel", 208, "strange", 7, fun j => ([115, 116, 114, 97, 110, 103, 101] : List Int).getD j 0), (422, "WhiteElephantsModel", 210, "round", 5, fun j => ([114, 111, 117, 110, 100] : List Int).getD j 0), (423, "WhiteElephantsModel", 212, "least", 5, fun j => ([108, 101, 97, 115, 116] : List Int).getD j 0), (424, "WhiteElephantsModel", 214, "most", 4, fun j => ([109, 111, 115, 116] : List Int).getD j 0)]
abbrev ST (w n : Nat) (f : Nat → Int) (A : Nat → Prop) (U : State) : Prop := va_O "java/lang/String" w A U U.heap ∧ va_OF "java/lang/String" "coder" "B" (.int 0) w A U U.heap ∧ ∃ v : Nat, va_OF "java/lang/String" "value" "[B" (.ref v) w A U U.heap ∧ va_T .byte v n (fun j => .int (Int32.ofInt (f j))) A U U.heap
abbrev AT (t : Nat) (C n : String) (N : Nat) (f : Nat → Int) (A : Nat → Prop) (U : State) : Prop := va_Z C n "[I" (.ref t) A U U.heap ∧ va_X t N (fun j => Int32.ofInt (f j)) U U.heap ∧ t < U.heap.size ∧ ¬ A t
def SX (q : Nat → Nat) (A : Nat → Prop) (U : State) : Prop := NN U ∧ CZ A U ∧ CY A U ∧ (∀ e ∈ STs, AT (q e.1) e.2.1 e.2.2.1 e.2.2.2.1 e.2.2.2.2 A U) ∧ ∀ e ∈ STw, vk_R e.2.1 e.2.2.1 e.2.2.2.1 (q e.1) U ∧ ST (q e.1) e.2.2.2.2.1 e.2.2.2.2.2 A U
section WT
variable {A B : Nat → Prop} {s U : State} {H : Heap} {locs : List Loc} {q : Nat → Nat}
theorem sx_go (hS : va_S A s.heap H locs) (hAB : ∀ a, B a → A a) (hU : U.heap = H) (hW : s.WarmedH U.vm) (h : SX q A s) : SX q B U := by
  subst hU
  have hq : ∀ a : Nat, a < s.heap.size → ¬ A a → U.heap[a]? = s.heap[a]? := fun a k1 k2 => hS.2.1 a k1 k2
  obtain ⟨h1, h2, h3, h4, h5⟩ := h
  refine ⟨NN.warm hW h1, va_Z.moved hW.alike ((va_Z.kept h2 hq).narrow hAB), va_Zq.moved hW.alike ((va_Zq.kept h3 hq).narrow hAB), fun e he => ?_, fun e he => ?_⟩
  · obtain ⟨k1, k2, k3, k4⟩ := h4 e he
    exact ⟨va_Z.moved hW.alike ((va_Z.kept k1 hq).narrow hAB), va_X.moved hW.alike (va_X.kept k2 (hq _ k3 k4)), Nat.lt_of_lt_of_le k3 hS.1, fun z => k4 (hAB _ z)⟩
  · obtain ⟨k0, k1, k2, v, k3, k4⟩ := h5 e he
    exact ⟨vk_R.warm hW k0, va_O.moved hW.alike ((va_O.kept k1 hq).narrow hAB), va_OF.moved hW.alike ((va_OF.kept k2 hq).narrow hAB), v, va_OF.moved hW.alike ((va_OF.kept k3 hq).narrow hAB), va_T.moved hW.alike ((va_T.kept k4 hq).narrow hAB)⟩
theorem sx_c {g : JFrame} {mk : MethodId} {a : Array Value} (h : SX q A U) : SX q A (U.calling g mk a) := by
  obtain ⟨h1, h2, h3, h4, h5⟩ := h
  have al : U.vm.Alike (U.calling g mk a).vm := Vm.Alike.refl U.vm
  refine ⟨NN.call h1, va_Z.moved (U := U.calling g mk a) al h2, va_Zq.moved (U := U.calling g mk a) al h3, fun e he => ?_, fun e he => ?_⟩
  · obtain ⟨k1, k2, k3, k4⟩ := h4 e he
    exact ⟨va_Z.moved (U := U.calling g mk a) al k1, va_X.moved (U := U.calling g mk a) al k2, k3, k4⟩
  · obtain ⟨k0, k1, k2, v, k3, k4⟩ := h5 e he
    exact ⟨vk_R.same rfl k0, va_O.moved (U := U.calling g mk a) al k1, va_OF.moved (U := U.calling g mk a) al k2, v, va_OF.moved (U := U.calling g mk a) al k3, va_T.moved (U := U.calling g mk a) al k4⟩
theorem sx_at (h : SX q A U) (i : Nat) {k N : Nat} {C n : String} {f : Nat → Int} (he : STs[i]? = some (k, C, n, N, f)) : AT (q k) C n N f A U := h.2.2.2.1 _ (List.mem_of_getElem? he)
theorem sx_tx (h : SX q A U) (i : Nat) {k N pl : Nat} {C n : String} {f : Nat → Int} (he : STw[i]? = some (k, C, pl, n, N, f)) : vk_R C pl n (q k) U ∧ ST (q k) N f A U := h.2.2.2.2 _ (List.mem_of_getElem? he)
end WT
abbrev TY (cy : Nat → ClassId) : List (ClassId × FieldType) := [(cy 0, .int), (cy 1, .byte), (cy 2, .long), (cy 3, .boolean), (cy 4, .object "WhiteElephants$Shelf")]
abbrev rmD (d : Nat) : Room := { frames := d, cells := 0, slots := 0, locals := 100 * d }
/-- the goal at an instruction, in abstract words -/
def G (p : Program) (l : Launch) (e : Env) (R : Room) (s : State) (m : MethodId) (args : Array Value) (below : List Frame) (meth : Method) (c : Code) (D : va_G) (cy : Nat → ClassId) (q : Nat → Nat) (A : Nat → Prop) (cells slots nL : Nat) (Q : State → Prop) (pc : Nat) (L : List (Nat × gV)) (st : List gV) (M : Mem) : Prop :=
  ∀ (H : Heap) (locs : List Loc) (ls : Array Slot), wf M → va_P D cls (wsM cy q M) H → va_D A (wsM cy q M) → va_S A s.heap H locs → lv_has ls nL (gM q L) → W p l e R s m args below meth c H locs cells slots Q (F0 m pc ls (st.map (cv q)))
def OK (p : Program) (s : State) (m : MethodId) (args : Array Value) (c : Code) (D : va_G) (cy : Nat → ClassId) (q : Nat → Nat) (A : Nat → Prop) (nL : Nat) (cc : ByteArray) (own : String) : Prop :=
  CallFix p m c cc nL s args BW own ∧ va_K D cls (TY cy) s ∧ SX q A s ∧ ∀ a : Nat, s.heap.size ≤ a → A a
def gQc (D : va_G) (cy : Nat → ClassId) (q : Nat → Nat) (A : Nat → Prop) (Pq : Option gV → Mem → Prop) : Array Value → State → Outcome → State → Prop := fun _ st o t =>
  (∃ (v : Option gV) (M : Mem), o = .returned (v.map (cv q)) ∧ Pq v M ∧ wf M ∧ va_P D cls (wsM cy q M) t.heap ∧ va_D A (wsM cy q M)) ∧ va_F A st t
/-- the contract of a method at one start: it comes to an end with Pq -/
def gCtr (l : Launch) (y : MethodName) (cc : ByteArray) (nL : Nat) (r : Option FieldType) (d : Nat) (As : List gV) (M : Mem) (Pq : Option gV → Mem → Prop) : Prop :=
  ∀ (D : va_G) (cy : Nat → ClassId) (q : Nat → Nat) (sz : Nat), wf M → Met l y (wq y cc nL r) (rmD d) (va_Pc (As.map (cv q)) (fun U => U.heap.size = sz ∧ va_P D cls (wsM cy q M) U.heap ∧ va_K D cls (TY cy) U ∧ va_D (fun _ => True) (wsM cy q M) ∧ SX q (va_A (wsM cy q M) sz) U)) (gQc D cy q (va_A (wsM cy q M) sz) Pq) 0 0 (va_A (wsM cy q M) sz)
section GR
variable {p : Program} {l : Launch} {e : Env} {R : Room} {s : State} {m : MethodId} {args : Array Value} {below : List Frame} {meth : Method} {c : Code} {D : va_G} {cy : Nat → ClassId} {q : Nat → Nat} {A : Nat → Prop} {cells slots nL : Nat} {Q : State → Prop} {cc : ByteArray} {own : String}
variable {pc : Nat} {L L' : List (Nat × gV)} {st : List gV} {M : Mem}
abbrev GG (p : Program) (l : Launch) (e : Env) (R : Room) (s : State) (m : MethodId) (args : Array Value) (below : List Frame) (meth : Method) (c : Code) (D : va_G) (cy : Nat → ClassId) (q : Nat → Nat) (A : Nat → Prop) (cells slots nL : Nat) (Q : State → Prop) := G p l e R s m args below meth c D cy q A cells slots nL Q
theorem g_iconst (hK : OK p s m args c D cy q A nL cc own) {n x : Int} (d : decode cc pc = .ok (.iconst n, 1)) (hx : Int32.ofInt n = Int32.ofInt x) (k : G p l e R s m args below meth c D cy q A cells slots nL Q (pc + 1) L (gI x :: st) M) : G p l e R s m args below meth c D cy q A cells slots nL Q pc L st M := by
  intro H locs ls hw hP hD hS hl
  exact lv_iconst hK.1.1 hK.1.2.1 d hx (k H locs ls hw hP hD hS hl)
theorem g_bipush (hK : OK p s m args c D cy q A nL cc own) {n x : Int} (d : decode cc pc = .ok (.bipush n, 2)) (hx : (Int8.ofInt n).toInt32 = Int32.ofInt x) (k : G p l e R s m args below meth c D cy q A cells slots nL Q (pc + 2) L (gI x :: st) M) : G p l e R s m args below meth c D cy q A cells slots nL Q pc L st M := by
  intro H locs ls hw hP hD hS hl
  exact lv_bipush hK.1.1 hK.1.2.1 d hx (k H locs ls hw hP hD hS hl)
theorem g_sipush (hK : OK p s m args c D cy q A nL cc own) {n x : Int} (d : decode cc pc = .ok (.sipush n, 3)) (hx : (Int16.ofInt n).toInt32 = Int32.ofInt x) (k : G p l e R s m args below meth c D cy q A cells slots nL Q (pc + 3) L (gI x :: st) M) : G p l e R s m args below meth c D cy q A cells slots nL Q pc L st M := by
  intro H locs ls hw hP hD hS hl
  exact lv_sipush hK.1.1 hK.1.2.1 d hx (k H locs ls hw hP hD hS hl)
theorem g_lconst (hK : OK p s m args c D cy q A nL cc own) {n : Fin 2} {x : Int} (d : decode cc pc = .ok (.lconst n, 1)) (hx : Int64.ofNat (n : Nat) = Int64.ofInt x) (k : G p l e R s m args below meth c D cy q A cells slots nL Q (pc + 1) L (gL x :: st) M) : G p l e R s m args below meth c D cy q A cells slots nL Q pc L st M := by
  intro H locs ls hw hP hD hS hl
  exact lv_lconst hK.1.1 hK.1.2.1 d hx (k H locs ls hw hP hD hS hl)
theorem g_ldc (hK : OK p s m args c D cy q A nL cc own) {i : Nat} {v : Int32} {x : Int} (hc : Cond.constant own i v ∈ BW) (d : decode cc pc = .ok (.ldc i, 2)) (hx : v = Int32.ofInt x) (k : G p l e R s m args below meth c D cy q A cells slots nL Q (pc + 2) L (gI x :: st) M) : G p l e R s m args below meth c D cy q A cells slots nL Q pc L st M := by
  intro H locs ls hw hP hD hS hl
  subst hx
  exact lv_ldc hK.1.1 hK.1.2.1 hK.1.2.2.2.1 (hK.1.2.2.2.2 _ hc) d (k H locs ls hw hP hD hS hl)
theorem g_ldcw (hK : OK p s m args c D cy q A nL cc own) {i : Nat} {v : Int32} {x : Int} (hc : Cond.constant own i v ∈ BW) (d : decode cc pc = .ok (.ldc_w i, 3)) (hx : v = Int32.ofInt x) (k : G p l e R s m args below meth c D cy q A cells slots nL Q (pc + 3) L (gI x :: st) M) : G p l e R s m args below meth c D cy q A cells slots nL Q pc L st M := by
  intro H locs ls hw hP hD hS hl
  subst hx
  exact lv_ldcw hK.1.1 hK.1.2.1 hK.1.2.2.2.1 (hK.1.2.2.2.2 _ hc) d (k H locs ls hw hP hD hS hl)
theorem g_ldc2 (hK : OK p s m args c D cy q A nL cc own) {i : Nat} {v : Int64} {x : Int} (hc : Cond.constantLong own i v ∈ BW) (d : decode cc pc = .ok (.ldc2_w i, 3)) (hx : v = Int64.ofInt x) (k : G p l e R s m args below meth c D cy q A cells slots nL Q (pc + 3) L (gL x :: st) M) : G p l e R s m args below meth c D cy q A cells slots nL Q pc L st M := by
  intro H locs ls hw hP hD hS hl
  subst hx
  exact lv_ldc2 hK.1.1 hK.1.2.1 hK.1.2.2.2.1 (hK.1.2.2.2.2 _ hc) d (k H locs ls hw hP hD hS hl)
theorem g_iload (hK : OK p s m args c D cy q A nL cc own) {i : Nat} {x : Int} (d : decode cc pc = .ok (.iload i, 2)) (h : gl L i = some (gI x)) (k : G p l e R s m args below meth c D cy q A cells slots nL Q (pc + 2) L (gI x :: st) M) : G p l e R s m args below meth c D cy q A cells slots nL Q pc L st M := by
  intro H locs ls hw hP hD hS hl
  exact lv_iload hK.1.1 hK.1.2.1 d (gl_has hl h) (k H locs ls hw hP hD hS hl)
theorem g_iloadn (hK : OK p s m args c D cy q A nL cc own) {i : Nat} {n : Fin 4} {x : Int} (d : decode cc pc = .ok (.iload_n n, 1)) (hi : (n : Nat) = i) (h : gl L i = some (gI x)) (k : G p l e R s m args below meth c D cy q A cells slots nL Q (pc + 1) L (gI x :: st) M) : G p l e R s m args below meth c D cy q A cells slots nL Q pc L st M := by
  intro H locs ls hw hP hD hS hl
  exact lv_iload_n hK.1.1 hK.1.2.1 d hi (gl_has hl h) (k H locs ls hw hP hD hS hl)
theorem g_istore (hK : OK p s m args c D cy q A nL cc own) {i : Nat} {x : Int} (d : decode cc pc = .ok (.istore i, 2)) (hn : i < nL) (hL : gs L i (gI x) = L') (k : G p l e R s m args below meth c D cy q A cells slots nL Q (pc + 2) L' st M) : G p l e R s m args below meth c D cy q A cells slots nL Q pc L (gI x :: st) M := by
  intro H locs ls hw hP hD hS hl
  refine lv_istore (lv' := _) hK.1.1 hK.1.2.1 d hl hn rfl (fun ls hl => ?_)
  subst hL
  exact k H locs ls hw hP hD hS (gs_has1 rfl hl)
theorem g_istoren (hK : OK p s m args c D cy q A nL cc own) {i : Nat} {n : Fin 4} {x : Int} (d : decode cc pc = .ok (.istore_n n, 1)) (hi : (n : Nat) = i) (hn : i < nL) (hL : gs L i (gI x) = L') (k : G p l e R s m args below meth c D cy q A cells slots nL Q (pc + 1) L' st M) : G p l e R s m args below meth c D cy q A cells slots nL Q pc L (gI x :: st) M := by
  intro H locs ls hw hP hD hS hl
  refine lv_istore_n (lv' := _) hK.1.1 hK.1.2.1 d hi hl hn rfl (fun ls hl => ?_)
  subst hL
  exact k H locs ls hw hP hD hS (gs_has1 rfl hl)
theorem g_lload (hK : OK p s m args c D cy q A nL cc own) {i : Nat} {x : Int} (d : decode cc pc = .ok (.lload i, 2)) (h : gl L i = some (gL x)) (k : G p l e R s m args below meth c D cy q A cells slots nL Q (pc + 2) L (gL x :: st) M) : G p l e R s m args below meth c D cy q A cells slots nL Q pc L st M := by
  intro H locs ls hw hP hD hS hl
  exact lv_lload hK.1.1 hK.1.2.1 d (gl_has hl h) (k H locs ls hw hP hD hS hl)
theorem g_lloadn (hK : OK p s m args c D cy q A nL cc own) {i : Nat} {n : Fin 4} {x : Int} (d : decode cc pc = .ok (.lload_n n, 1)) (hi : (n : Nat) = i) (h : gl L i = some (gL x)) (k : G p l e R s m args below meth c D cy q A cells slots nL Q (pc + 1) L (gL x :: st) M) : G p l e R s m args below meth c D cy q A cells slots nL Q pc L st M := by
  intro H locs ls hw hP hD hS hl
  exact lv_lload_n hK.1.1 hK.1.2.1 d hi (gl_has hl h) (k H locs ls hw hP hD hS hl)
theorem g_lstore (hK : OK p s m args c D cy q A nL cc own) {i : Nat} {x : Int} (d : decode cc pc = .ok (.lstore i, 2)) (hn : i + 1 < nL) (hL : gs L i (gL x) = L') (k : G p l e R s m args below meth c D cy q A cells slots nL Q (pc + 2) L' st M) : G p l e R s m args below meth c D cy q A cells slots nL Q pc L (gL x :: st) M := by
  intro H locs ls hw hP hD hS hl
  refine lv_lstore (lv' := _) hK.1.1 hK.1.2.1 d hl hn rfl (fun ls hl => ?_)
  subst hL
  exact k H locs ls hw hP hD hS (gs_has2 rfl hl)
theorem g_lstoren (hK : OK p s m args c D cy q A nL cc own) {i : Nat} {n : Fin 4} {x : Int} (d : decode cc pc = .ok (.lstore_n n, 1)) (hi : (n : Nat) = i) (hn : i + 1 < nL) (hL : gs L i (gL x) = L') (k : G p l e R s m args below meth c D cy q A cells slots nL Q (pc + 1) L' st M) : G p l e R s m args below meth c D cy q A cells slots nL Q pc L (gL x :: st) M := by
  intro H locs ls hw hP hD hS hl
  refine lv_lstore_n (lv' := _) hK.1.1 hK.1.2.1 d hi hl hn rfl (fun ls hl => ?_)
  subst hL
  exact k H locs ls hw hP hD hS (gs_has2 rfl hl)
theorem g_aload (hK : OK p s m args c D cy q A nL cc own) {i : Nat} {x : Nat} (d : decode cc pc = .ok (.aload i, 2)) (h : gl L i = some (gR x)) (k : G p l e R s m args below meth c D cy q A cells slots nL Q (pc + 2) L (gR x :: st) M) : G p l e R s m args below meth c D cy q A cells slots nL Q pc L st M := by
  intro H locs ls hw hP hD hS hl
  exact lv_aload hK.1.1 hK.1.2.1 d (gl_has hl h) (k H locs ls hw hP hD hS hl)
theorem g_aloadn (hK : OK p s m args c D cy q A nL cc own) {i : Nat} {n : Fin 4} {x : Nat} (d : decode cc pc = .ok (.aload_n n, 1)) (hi : (n : Nat) = i) (h : gl L i = some (gR x)) (k : G p l e R s m args below meth c D cy q A cells slots nL Q (pc + 1) L (gR x :: st) M) : G p l e R s m args below meth c D cy q A cells slots nL Q pc L st M := by
  intro H locs ls hw hP hD hS hl
  exact lv_aload_n hK.1.1 hK.1.2.1 d hi (gl_has hl h) (k H locs ls hw hP hD hS hl)
theorem g_astore (hK : OK p s m args c D cy q A nL cc own) {i : Nat} {x : Nat} (d : decode cc pc = .ok (.astore i, 2)) (hn : i < nL) (hL : gs L i (gR x) = L') (k : G p l e R s m args below meth c D cy q A cells slots nL Q (pc + 2) L' st M) : G p l e R s m args below meth c D cy q A cells slots nL Q pc L (gR x :: st) M := by
  intro H locs ls hw hP hD hS hl
  refine lv_astore (lv' := _) hK.1.1 hK.1.2.1 d hl hn rfl (fun ls hl => ?_)
  subst hL
  exact k H locs ls hw hP hD hS (gs_has1 rfl hl)
theorem g_astoren (hK : OK p s m args c D cy q A nL cc own) {i : Nat} {n : Fin 4} {x : Nat} (d : decode cc pc = .ok (.astore_n n, 1)) (hi : (n : Nat) = i) (hn : i < nL) (hL : gs L i (gR x) = L') (k : G p l e R s m args below meth c D cy q A cells slots nL Q (pc + 1) L' st M) : G p l e R s m args below meth c D cy q A cells slots nL Q pc L (gR x :: st) M := by
  intro H locs ls hw hP hD hS hl
  refine lv_astore_n (lv' := _) hK.1.1 hK.1.2.1 d hi hl hn rfl (fun ls hl => ?_)
  subst hL
  exact k H locs ls hw hP hD hS (gs_has1 rfl hl)
theorem g_iinc (hK : OK p s m args c D cy q A nL cc own) {i : Nat} {n x y : Int} (d : decode cc pc = .ok (.iinc i n, 3)) (h : gl L i = some (gI x)) (hy : x + n = y) (hn : i < nL) (hL : gs L i (gI y) = L') (k : G p l e R s m args below meth c D cy q A cells slots nL Q (pc + 3) L' st M) : G p l e R s m args below meth c D cy q A cells slots nL Q pc L st M := by
  intro H locs ls hw hP hD hS hl
  subst hy
  obtain ⟨j, hj⟩ := List.getElem?_of_mem (List.mem_map.mpr ⟨(i, gI x), gl_mem h, rfl⟩ : (i, cv q (gI x)) ∈ gM q L)
  refine lv_iinc (v := Int32.ofInt (x + n)) (lv' := _) hK.1.1 hK.1.2.1 d hl hj (by rw [Int32.ofInt_add]) hn rfl (fun ls hl => ?_)
  subst hL
  exact k H locs ls hw hP hD hS (gs_has1 rfl hl)
theorem g_iadd (hK : OK p s m args c D cy q A nL cc own) {x y z : Int} (d : decode cc pc = .ok (.iadd, 1)) (hz : x + y = z) (k : G p l e R s m args below meth c D cy q A cells slots nL Q (pc + 1) L (gI z :: st) M) : G p l e R s m args below meth c D cy q A cells slots nL Q pc L (gI y :: gI x :: st) M := by
  intro H locs ls hw hP hD hS hl
  subst hz
  exact lv_iadd hK.1.1 hK.1.2.1 d (wk_int (by rw [Int32.ofInt_add]) (k H locs ls hw hP hD hS hl))
theorem g_isub (hK : OK p s m args c D cy q A nL cc own) {x y z : Int} (d : decode cc pc = .ok (.isub, 1)) (hz : x - y = z) (k : G p l e R s m args below meth c D cy q A cells slots nL Q (pc + 1) L (gI z :: st) M) : G p l e R s m args below meth c D cy q A cells slots nL Q pc L (gI y :: gI x :: st) M := by
  intro H locs ls hw hP hD hS hl
  subst hz
  exact lv_isub hK.1.1 hK.1.2.1 d (wk_int (by rw [Int32.ofInt_sub]) (k H locs ls hw hP hD hS hl))
theorem g_imul (hK : OK p s m args c D cy q A nL cc own) {x y z : Int} (d : decode cc pc = .ok (.imul, 1)) (hz : x * y = z) (k : G p l e R s m args below meth c D cy q A cells slots nL Q (pc + 1) L (gI z :: st) M) : G p l e R s m args below meth c D cy q A cells slots nL Q pc L (gI y :: gI x :: st) M := by
  intro H locs ls hw hP hD hS hl
  subst hz
  exact lv_imul hK.1.1 hK.1.2.1 d (wk_int (by rw [Int32.ofInt_mul]) (k H locs ls hw hP hD hS hl))
theorem g_ladd (hK : OK p s m args c D cy q A nL cc own) {x y z : Int} (d : decode cc pc = .ok (.ladd, 1)) (hz : x + y = z) (k : G p l e R s m args below meth c D cy q A cells slots nL Q (pc + 1) L (gL z :: st) M) : G p l e R s m args below meth c D cy q A cells slots nL Q pc L (gL y :: gL x :: st) M := by
  intro H locs ls hw hP hD hS hl
  subst hz
  exact lv_ladd hK.1.1 hK.1.2.1 d (wk_long (by rw [Int64.ofInt_add]) (k H locs ls hw hP hD hS hl))
theorem g_ineg (hK : OK p s m args c D cy q A nL cc own) {x z : Int} (d : decode cc pc = .ok (.ineg, 1)) (hz : -x = z) (k : G p l e R s m args below meth c D cy q A cells slots nL Q (pc + 1) L (gI z :: st) M) : G p l e R s m args below meth c D cy q A cells slots nL Q pc L (gI x :: st) M := by
  intro H locs ls hw hP hD hS hl
  subst hz
  exact lv_ineg hK.1.1 hK.1.2.1 d (wk_int (by rw [Int32.ofInt_neg]) (k H locs ls hw hP hD hS hl))
theorem g_idiv (hK : OK p s m args c D cy q A nL cc own) {x y z : Int} (d : decode cc pc = .ok (.idiv, 1)) (hx : inI x) (hy : inI y) (h0 : y ≠ 0) (hz : x.tdiv y = z) (k : G p l e R s m args below meth c D cy q A cells slots nL Q (pc + 1) L (gI z :: st) M) : G p l e R s m args below meth c D cy q A cells slots nL Q pc L (gI y :: gI x :: st) M := by
  intro H locs ls hw hP hD hS hl
  subst hz
  refine lv_idiv hK.1.1 hK.1.2.1 d (fun z => h0 ((oi_eq hy (by decide)).mp z)) (wk_int ?_ (k H locs ls hw hP hD hS hl))
  rw [Int32.ofInt_tdiv] <;> first | (show (-2147483648 : Int) ≤ _; omega) | (show _ ≤ (2147483647 : Int); omega)
theorem g_irem (hK : OK p s m args c D cy q A nL cc own) {x y z : Int} (d : decode cc pc = .ok (.irem, 1)) (hx : inI x) (hy : inI y) (h0 : y ≠ 0) (hz : x.tmod y = z) (k : G p l e R s m args below meth c D cy q A cells slots nL Q (pc + 1) L (gI z :: st) M) : G p l e R s m args below meth c D cy q A cells slots nL Q pc L (gI y :: gI x :: st) M := by
  intro H locs ls hw hP hD hS hl
  subst hz
  refine lv_irem hK.1.1 hK.1.2.1 d (fun z => h0 ((oi_eq hy (by decide)).mp z)) (wk_int ?_ (k H locs ls hw hP hD hS hl))
  rw [← Int32.ofInt_tdiv (by show (-2147483648 : Int) ≤ _; omega) (by show _ ≤ (2147483647 : Int); omega) (by show (-2147483648 : Int) ≤ _; omega) (by show _ ≤ (2147483647 : Int); omega), ← Int32.ofInt_mul, ← Int32.ofInt_sub]
  congr 1
  have h9 := Int.mul_tdiv_add_tmod x y
  rw [Int.mul_comm] at h9
  omega
theorem g_iand (hK : OK p s m args c D cy q A nL cc own) {x y z : Int} (d : decode cc pc = .ok (.iand, 1)) (hz : (Int32.ofInt x &&& Int32.ofInt y).toInt = z) (k : G p l e R s m args below meth c D cy q A cells slots nL Q (pc + 1) L (gI z :: st) M) : G p l e R s m args below meth c D cy q A cells slots nL Q pc L (gI y :: gI x :: st) M := by
  intro H locs ls hw hP hD hS hl
  subst hz
  exact lv_iand hK.1.1 hK.1.2.1 d (wk_int (by rw [Int32.ofInt_toInt]) (k H locs ls hw hP hD hS hl))
theorem g_ior (hK : OK p s m args c D cy q A nL cc own) {x y z : Int} (d : decode cc pc = .ok (.ior, 1)) (hz : (Int32.ofInt x ||| Int32.ofInt y).toInt = z) (k : G p l e R s m args below meth c D cy q A cells slots nL Q (pc + 1) L (gI z :: st) M) : G p l e R s m args below meth c D cy q A cells slots nL Q pc L (gI y :: gI x :: st) M := by
  intro H locs ls hw hP hD hS hl
  subst hz
  exact lv_ior hK.1.1 hK.1.2.1 d (wk_int (by rw [Int32.ofInt_toInt]) (k H locs ls hw hP hD hS hl))
theorem g_ixor (hK : OK p s m args c D cy q A nL cc own) {x y z : Int} (d : decode cc pc = .ok (.ixor, 1)) (hz : (Int32.ofInt x ^^^ Int32.ofInt y).toInt = z) (k : G p l e R s m args below meth c D cy q A cells slots nL Q (pc + 1) L (gI z :: st) M) : G p l e R s m args below meth c D cy q A cells slots nL Q pc L (gI y :: gI x :: st) M := by
  intro H locs ls hw hP hD hS hl
  subst hz
  exact lv_ixor hK.1.1 hK.1.2.1 d (wk_int (by rw [Int32.ofInt_toInt]) (k H locs ls hw hP hD hS hl))
theorem g_land (hK : OK p s m args c D cy q A nL cc own) {x y z : Int} (d : decode cc pc = .ok (.land, 1)) (hz : (Int64.ofInt x &&& Int64.ofInt y).toInt = z) (k : G p l e R s m args below meth c D cy q A cells slots nL Q (pc + 1) L (gL z :: st) M) : G p l e R s m args below meth c D cy q A cells slots nL Q pc L (gL y :: gL x :: st) M := by
  intro H locs ls hw hP hD hS hl
  subst hz
  exact lv_land hK.1.1 hK.1.2.1 d (wk_long (by rw [Int64.ofInt_toInt]) (k H locs ls hw hP hD hS hl))
theorem g_lor (hK : OK p s m args c D cy q A nL cc own) {x y z : Int} (d : decode cc pc = .ok (.lor, 1)) (hz : (Int64.ofInt x ||| Int64.ofInt y).toInt = z) (k : G p l e R s m args below meth c D cy q A cells slots nL Q (pc + 1) L (gL z :: st) M) : G p l e R s m args below meth c D cy q A cells slots nL Q pc L (gL y :: gL x :: st) M := by
  intro H locs ls hw hP hD hS hl
  subst hz
  exact lv_lor hK.1.1 hK.1.2.1 d (wk_long (by rw [Int64.ofInt_toInt]) (k H locs ls hw hP hD hS hl))
theorem g_ishl (hK : OK p s m args c D cy q A nL cc own) {x y z : Int} (d : decode cc pc = .ok (.ishl, 1)) (hz : (Int32.ofInt x <<< (Int32.ofInt y &&& 31)).toInt = z) (k : G p l e R s m args below meth c D cy q A cells slots nL Q (pc + 1) L (gI z :: st) M) : G p l e R s m args below meth c D cy q A cells slots nL Q pc L (gI y :: gI x :: st) M := by
  intro H locs ls hw hP hD hS hl
  subst hz
  exact lv_ishl hK.1.1 hK.1.2.1 d (wk_int (by rw [Int32.ofInt_toInt]) (k H locs ls hw hP hD hS hl))
theorem g_ishr (hK : OK p s m args c D cy q A nL cc own) {x y z : Int} (d : decode cc pc = .ok (.ishr, 1)) (hz : (Int32.ofInt x >>> (Int32.ofInt y &&& 31)).toInt = z) (k : G p l e R s m args below meth c D cy q A cells slots nL Q (pc + 1) L (gI z :: st) M) : G p l e R s m args below meth c D cy q A cells slots nL Q pc L (gI y :: gI x :: st) M := by
  intro H locs ls hw hP hD hS hl
  subst hz
  exact lv_ishr hK.1.1 hK.1.2.1 d (wk_int (by rw [Int32.ofInt_toInt]) (k H locs ls hw hP hD hS hl))
theorem g_iushr (hK : OK p s m args c D cy q A nL cc own) {x y z : Int} (d : decode cc pc = .ok (.iushr, 1)) (hz : ((Int32.ofInt x).toUInt32 >>> ((Int32.ofInt y).toUInt32 &&& Int32.toUInt32 31)).toInt32.toInt = z) (k : G p l e R s m args below meth c D cy q A cells slots nL Q (pc + 1) L (gI z :: st) M) : G p l e R s m args below meth c D cy q A cells slots nL Q pc L (gI y :: gI x :: st) M := by
  intro H locs ls hw hP hD hS hl
  subst hz
  exact lv_iushr hK.1.1 hK.1.2.1 d rfl (wk_int (by rw [Int32.ofInt_toInt]) (k H locs ls hw hP hD hS hl))
theorem g_lshl (hK : OK p s m args c D cy q A nL cc own) {x y z : Int} (d : decode cc pc = .ok (.lshl, 1)) (hz : (Int64.ofInt x <<< ((Int32.ofInt y).toInt64 &&& 63)).toInt = z) (k : G p l e R s m args below meth c D cy q A cells slots nL Q (pc + 1) L (gL z :: st) M) : G p l e R s m args below meth c D cy q A cells slots nL Q pc L (gI y :: gL x :: st) M := by
  intro H locs ls hw hP hD hS hl
  subst hz
  exact lv_lshl hK.1.1 hK.1.2.1 d rfl (wk_long (by rw [Int64.ofInt_toInt]) (k H locs ls hw hP hD hS hl))
theorem g_i2l (hK : OK p s m args c D cy q A nL cc own) {x : Int} (d : decode cc pc = .ok (.i2l, 1)) (hx : inI x) (k : G p l e R s m args below meth c D cy q A cells slots nL Q (pc + 1) L (gL x :: st) M) : G p l e R s m args below meth c D cy q A cells slots nL Q pc L (gI x :: st) M := by
  intro H locs ls hw hP hD hS hl
  exact lv_i2l hK.1.1 hK.1.2.1 d (Int32.toInt64_ofInt (by show (-2147483648 : Int) ≤ _; omega) (by show _ ≤ (2147483647 : Int); omega)) (k H locs ls hw hP hD hS hl)
theorem g_l2i (hK : OK p s m args c D cy q A nL cc own) {x z : Int} (d : decode cc pc = .ok (.l2i, 1)) (hz : Int32.ofInt x = Int32.ofInt z) (k : G p l e R s m args below meth c D cy q A cells slots nL Q (pc + 1) L (gI z :: st) M) : G p l e R s m args below meth c D cy q A cells slots nL Q pc L (gL x :: st) M := by
  intro H locs ls hw hP hD hS hl
  exact lv_l2i hK.1.1 hK.1.2.1 d (Int64.toInt32_ofInt.trans hz) (k H locs ls hw hP hD hS hl)
theorem g_i2b (hK : OK p s m args c D cy q A nL cc own) {x z : Int} (d : decode cc pc = .ok (.i2b, 1)) (hz : (Int32.ofInt x).toInt8.toInt32 = Int32.ofInt z) (k : G p l e R s m args below meth c D cy q A cells slots nL Q (pc + 1) L (gI z :: st) M) : G p l e R s m args below meth c D cy q A cells slots nL Q pc L (gI x :: st) M := by
  intro H locs ls hw hP hD hS hl
  exact lv_i2b hK.1.1 hK.1.2.1 d hz (k H locs ls hw hP hD hS hl)
theorem g_i2s (hK : OK p s m args c D cy q A nL cc own) {x z : Int} (d : decode cc pc = .ok (.i2s, 1)) (hz : (Int32.ofInt x).toInt16.toInt32 = Int32.ofInt z) (k : G p l e R s m args below meth c D cy q A cells slots nL Q (pc + 1) L (gI z :: st) M) : G p l e R s m args below meth c D cy q A cells slots nL Q pc L (gI x :: st) M := by
  intro H locs ls hw hP hD hS hl
  exact lv_i2s hK.1.1 hK.1.2.1 d hz (k H locs ls hw hP hD hS hl)
theorem g_i2c (hK : OK p s m args c D cy q A nL cc own) {x z : Int} (d : decode cc pc = .ok (.i2c, 1)) (hz : ((Int32.ofInt x).toUInt32 % 65536).toInt32 = Int32.ofInt z) (k : G p l e R s m args below meth c D cy q A cells slots nL Q (pc + 1) L (gI z :: st) M) : G p l e R s m args below meth c D cy q A cells slots nL Q pc L (gI x :: st) M := by
  intro H locs ls hw hP hD hS hl
  exact lv_i2c hK.1.1 hK.1.2.1 d hz (k H locs ls hw hP hD hS hl)
theorem g_lcmp (hK : OK p s m args c D cy q A nL cc own) {x y z : Int} (d : decode cc pc = .ok (.lcmp, 1)) (hx : inL x) (hy : inL y) (hz : (if y < x then 1 else if x = y then 0 else -1) = z) (k : G p l e R s m args below meth c D cy q A cells slots nL Q (pc + 1) L (gI z :: st) M) : G p l e R s m args below meth c D cy q A cells slots nL Q pc L (gL y :: gL x :: st) M := by
  intro H locs ls hw hP hD hS hl
  subst hz
  refine W.lcmp hK.1.1 hK.1.2.1 d (wk_int ?_ (k H locs ls hw hP hD hS hl))
  unfold lg_cmp
  simp only [gt_iff_lt, Int64.lt_iff_toInt_lt, ← Int64.toInt_inj, ol_ti hx, ol_ti hy]
  split
  · rfl
  · split <;> rfl
theorem g_dup (hK : OK p s m args c D cy q A nL cc own) {v : gV} (d : decode cc pc = .ok (.dup, 1)) (hv : gw v = 1) (k : G p l e R s m args below meth c D cy q A cells slots nL Q (pc + 1) L (v :: v :: st) M) : G p l e R s m args below meth c D cy q A cells slots nL Q pc L (v :: st) M := by
  intro H locs ls hw hP hD hS hl
  exact lv_dup hK.1.1 hK.1.2.1 d ((cv_cat q v).trans hv) (k H locs ls hw hP hD hS hl)
theorem g_pop (hK : OK p s m args c D cy q A nL cc own) {v : gV} (d : decode cc pc = .ok (.pop, 1)) (hv : gw v = 1) (k : G p l e R s m args below meth c D cy q A cells slots nL Q (pc + 1) L st M) : G p l e R s m args below meth c D cy q A cells slots nL Q pc L (v :: st) M := by
  intro H locs ls hw hP hD hS hl
  exact lv_pop hK.1.1 hK.1.2.1 d ((cv_cat q v).trans hv) (k H locs ls hw hP hD hS hl)
theorem g_pop2l (hK : OK p s m args c D cy q A nL cc own) {v : gV} (d : decode cc pc = .ok (.pop2, 1)) (hv : gw v = 2) (k : G p l e R s m args below meth c D cy q A cells slots nL Q (pc + 1) L st M) : G p l e R s m args below meth c D cy q A cells slots nL Q pc L (v :: st) M := by
  intro H locs ls hw hP hD hS hl
  exact lv_pop2_2 hK.1.1 hK.1.2.1 d ((cv_cat q v).trans hv) (k H locs ls hw hP hD hS hl)
theorem g_dupx1 (hK : OK p s m args c D cy q A nL cc own) {v w : gV} (d : decode cc pc = .ok (.dup_x1, 1)) (hv : gw v = 1) (hw1 : gw w = 1) (k : G p l e R s m args below meth c D cy q A cells slots nL Q (pc + 1) L (v :: w :: v :: st) M) : G p l e R s m args below meth c D cy q A cells slots nL Q pc L (v :: w :: st) M := by
  intro H locs ls hw hP hD hS hl
  exact lv_dup_x1 hK.1.1 hK.1.2.1 d ((cv_cat q v).trans hv) ((cv_cat q w).trans hw1) (k H locs ls hw hP hD hS hl)
theorem g_dup2 (hK : OK p s m args c D cy q A nL cc own) {v w : gV} (d : decode cc pc = .ok (.dup2, 1)) (hv : gw v = 1) (hw1 : gw w = 1) (k : G p l e R s m args below meth c D cy q A cells slots nL Q (pc + 1) L (v :: w :: v :: w :: st) M) : G p l e R s m args below meth c D cy q A cells slots nL Q pc L (v :: w :: st) M := by
  intro H locs ls hw hP hD hS hl
  exact lv_dup2_11 hK.1.1 hK.1.2.1 d ((cv_cat q v).trans hv) ((cv_cat q w).trans hw1) (k H locs ls hw hP hD hS hl)
theorem g_if_eq (hK : OK p s m args c D cy q A nL cc own) {x : Int} {off : Int} {tgt : Nat} (d : decode cc pc = .ok (.ifCond .eq off, 3)) (ht : (pc : Int) + off = (tgt : Int)) (hx : inI x) (kt : x = 0 → G p l e R s m args below meth c D cy q A cells slots nL Q tgt L st M) (kf : ¬ (x = 0) → G p l e R s m args below meth c D cy q A cells slots nL Q (pc + 3) L st M) : G p l e R s m args below meth c D cy q A cells slots nL Q pc L (gI x :: st) M := by
  intro H locs ls hw hP hD hS hl
  exact lv_if_eq hK.1.1 hK.1.2.1 d ht (fun z => kt ((oi_eq hx (by decide)).mp z) H locs ls hw hP hD hS hl) (fun z => kf (fun w => z ((oi_eq hx (by decide)).mpr w)) H locs ls hw hP hD hS hl)
theorem g_icmp_eq (hK : OK p s m args c D cy q A nL cc own) {x y : Int} {off : Int} {tgt : Nat} (d : decode cc pc = .ok (.if_icmp .eq off, 3)) (ht : (pc : Int) + off = (tgt : Int)) (hx : inI x) (hy : inI y) (kt : x = y → G p l e R s m args below meth c D cy q A cells slots nL Q tgt L st M) (kf : ¬ (x = y) → G p l e R s m args below meth c D cy q A cells slots nL Q (pc + 3) L st M) : G p l e R s m args below meth c D cy q A cells slots nL Q pc L (gI y :: gI x :: st) M := by
  intro H locs ls hw hP hD hS hl
  exact lv_icmp_eq hK.1.1 hK.1.2.1 d ht (fun z => kt ((oi_eq hx hy).mp z) H locs ls hw hP hD hS hl) (fun z => kf (fun w => z ((oi_eq hx hy).mpr w)) H locs ls hw hP hD hS hl)
theorem g_if_ne (hK : OK p s m args c D cy q A nL cc own) {x : Int} {off : Int} {tgt : Nat} (d : decode cc pc = .ok (.ifCond .ne off, 3)) (ht : (pc : Int) + off = (tgt : Int)) (hx : inI x) (kt : ¬ x = 0 → G p l e R s m args below meth c D cy q A cells slots nL Q tgt L st M) (kf : ¬ (¬ x = 0) → G p l e R s m args below meth c D cy q A cells slots nL Q (pc + 3) L st M) : G p l e R s m args below meth c D cy q A cells slots nL Q pc L (gI x :: st) M := by
  intro H locs ls hw hP hD hS hl
  exact lv_if_ne hK.1.1 hK.1.2.1 d ht (fun z => kt (fun w => z ((oi_eq hx (by decide)).mpr w)) H locs ls hw hP hD hS hl) (fun z => kf (fun w => w ((oi_eq hx (by decide)).mp z)) H locs ls hw hP hD hS hl)
theorem g_icmp_ne (hK : OK p s m args c D cy q A nL cc own) {x y : Int} {off : Int} {tgt : Nat} (d : decode cc pc = .ok (.if_icmp .ne off, 3)) (ht : (pc : Int) + off = (tgt : Int)) (hx : inI x) (hy : inI y) (kt : ¬ x = y → G p l e R s m args below meth c D cy q A cells slots nL Q tgt L st M) (kf : ¬ (¬ x = y) → G p l e R s m args below meth c D cy q A cells slots nL Q (pc + 3) L st M) : G p l e R s m args below meth c D cy q A cells slots nL Q pc L (gI y :: gI x :: st) M := by
  intro H locs ls hw hP hD hS hl
  exact lv_icmp_ne hK.1.1 hK.1.2.1 d ht (fun z => kt (fun w => z ((oi_eq hx hy).mpr w)) H locs ls hw hP hD hS hl) (fun z => kf (fun w => w ((oi_eq hx hy).mp z)) H locs ls hw hP hD hS hl)
theorem g_if_lt (hK : OK p s m args c D cy q A nL cc own) {x : Int} {off : Int} {tgt : Nat} (d : decode cc pc = .ok (.ifCond .lt off, 3)) (ht : (pc : Int) + off = (tgt : Int)) (hx : inI x) (kt : x < 0 → G p l e R s m args below meth c D cy q A cells slots nL Q tgt L st M) (kf : ¬ (x < 0) → G p l e R s m args below meth c D cy q A cells slots nL Q (pc + 3) L st M) : G p l e R s m args below meth c D cy q A cells slots nL Q pc L (gI x :: st) M := by
  intro H locs ls hw hP hD hS hl
  exact lv_if_lt hK.1.1 hK.1.2.1 d ht (fun z => kt ((oi_lt hx (by decide)).mp z) H locs ls hw hP hD hS hl) (fun z => kf (fun w => z ((oi_lt hx (by decide)).mpr w)) H locs ls hw hP hD hS hl)
theorem g_icmp_lt (hK : OK p s m args c D cy q A nL cc own) {x y : Int} {off : Int} {tgt : Nat} (d : decode cc pc = .ok (.if_icmp .lt off, 3)) (ht : (pc : Int) + off = (tgt : Int)) (hx : inI x) (hy : inI y) (kt : x < y → G p l e R s m args below meth c D cy q A cells slots nL Q tgt L st M) (kf : ¬ (x < y) → G p l e R s m args below meth c D cy q A cells slots nL Q (pc + 3) L st M) : G p l e R s m args below meth c D cy q A cells slots nL Q pc L (gI y :: gI x :: st) M := by
  intro H locs ls hw hP hD hS hl
  exact lv_icmp_lt hK.1.1 hK.1.2.1 d ht (fun z => kt ((oi_lt hx hy).mp z) H locs ls hw hP hD hS hl) (fun z => kf (fun w => z ((oi_lt hx hy).mpr w)) H locs ls hw hP hD hS hl)
theorem g_if_ge (hK : OK p s m args c D cy q A nL cc own) {x : Int} {off : Int} {tgt : Nat} (d : decode cc pc = .ok (.ifCond .ge off, 3)) (ht : (pc : Int) + off = (tgt : Int)) (hx : inI x) (kt : 0 ≤ x → G p l e R s m args below meth c D cy q A cells slots nL Q tgt L st M) (kf : ¬ (0 ≤ x) → G p l e R s m args below meth c D cy q A cells slots nL Q (pc + 3) L st M) : G p l e R s m args below meth c D cy q A cells slots nL Q pc L (gI x :: st) M := by
  intro H locs ls hw hP hD hS hl
  exact lv_if_ge hK.1.1 hK.1.2.1 d ht (fun z => kt ((oi_le (by decide) hx).mp z) H locs ls hw hP hD hS hl) (fun z => kf (fun w => z ((oi_le (by decide) hx).mpr w)) H locs ls hw hP hD hS hl)
theorem g_icmp_ge (hK : OK p s m args c D cy q A nL cc own) {x y : Int} {off : Int} {tgt : Nat} (d : decode cc pc = .ok (.if_icmp .ge off, 3)) (ht : (pc : Int) + off = (tgt : Int)) (hx : inI x) (hy : inI y) (kt : y ≤ x → G p l e R s m args below meth c D cy q A cells slots nL Q tgt L st M) (kf : ¬ (y ≤ x) → G p l e R s m args below meth c D cy q A cells slots nL Q (pc + 3) L st M) : G p l e R s m args below meth c D cy q A cells slots nL Q pc L (gI y :: gI x :: st) M := by
  intro H locs ls hw hP hD hS hl
  exact lv_icmp_ge hK.1.1 hK.1.2.1 d ht (fun z => kt ((oi_le hy hx).mp z) H locs ls hw hP hD hS hl) (fun z => kf (fun w => z ((oi_le hy hx).mpr w)) H locs ls hw hP hD hS hl)
theorem g_if_gt (hK : OK p s m args c D cy q A nL cc own) {x : Int} {off : Int} {tgt : Nat} (d : decode cc pc = .ok (.ifCond .gt off, 3)) (ht : (pc : Int) + off = (tgt : Int)) (hx : inI x) (kt : 0 < x → G p l e R s m args below meth c D cy q A cells slots nL Q tgt L st M) (kf : ¬ (0 < x) → G p l e R s m args below meth c D cy q A cells slots nL Q (pc + 3) L st M) : G p l e R s m args below meth c D cy q A cells slots nL Q pc L (gI x :: st) M := by
  intro H locs ls hw hP hD hS hl
  exact lv_if_gt hK.1.1 hK.1.2.1 d ht (fun z => kt ((oi_lt (by decide) hx).mp z) H locs ls hw hP hD hS hl) (fun z => kf (fun w => z ((oi_lt (by decide) hx).mpr w)) H locs ls hw hP hD hS hl)
theorem g_icmp_gt (hK : OK p s m args c D cy q A nL cc own) {x y : Int} {off : Int} {tgt : Nat} (d : decode cc pc = .ok (.if_icmp .gt off, 3)) (ht : (pc : Int) + off = (tgt : Int)) (hx : inI x) (hy : inI y) (kt : y < x → G p l e R s m args below meth c D cy q A cells slots nL Q tgt L st M) (kf : ¬ (y < x) → G p l e R s m args below meth c D cy q A cells slots nL Q (pc + 3) L st M) : G p l e R s m args below meth c D cy q A cells slots nL Q pc L (gI y :: gI x :: st) M := by
  intro H locs ls hw hP hD hS hl
  exact lv_icmp_gt hK.1.1 hK.1.2.1 d ht (fun z => kt ((oi_lt hy hx).mp z) H locs ls hw hP hD hS hl) (fun z => kf (fun w => z ((oi_lt hy hx).mpr w)) H locs ls hw hP hD hS hl)
theorem g_if_le (hK : OK p s m args c D cy q A nL cc own) {x : Int} {off : Int} {tgt : Nat} (d : decode cc pc = .ok (.ifCond .le off, 3)) (ht : (pc : Int) + off = (tgt : Int)) (hx : inI x) (kt : x ≤ 0 → G p l e R s m args below meth c D cy q A cells slots nL Q tgt L st M) (kf : ¬ (x ≤ 0) → G p l e R s m args below meth c D cy q A cells slots nL Q (pc + 3) L st M) : G p l e R s m args below meth c D cy q A cells slots nL Q pc L (gI x :: st) M := by
  intro H locs ls hw hP hD hS hl
  exact lv_if_le hK.1.1 hK.1.2.1 d ht (fun z => kt ((oi_le hx (by decide)).mp z) H locs ls hw hP hD hS hl) (fun z => kf (fun w => z ((oi_le hx (by decide)).mpr w)) H locs ls hw hP hD hS hl)
theorem g_icmp_le (hK : OK p s m args c D cy q A nL cc own) {x y : Int} {off : Int} {tgt : Nat} (d : decode cc pc = .ok (.if_icmp .le off, 3)) (ht : (pc : Int) + off = (tgt : Int)) (hx : inI x) (hy : inI y) (kt : x ≤ y → G p l e R s m args below meth c D cy q A cells slots nL Q tgt L st M) (kf : ¬ (x ≤ y) → G p l e R s m args below meth c D cy q A cells slots nL Q (pc + 3) L st M) : G p l e R s m args below meth c D cy q A cells slots nL Q pc L (gI y :: gI x :: st) M := by
  intro H locs ls hw hP hD hS hl
  exact lv_icmp_le hK.1.1 hK.1.2.1 d ht (fun z => kt ((oi_le hx hy).mp z) H locs ls hw hP hD hS hl) (fun z => kf (fun w => z ((oi_le hx hy).mpr w)) H locs ls hw hP hD hS hl)
theorem g_goto (hK : OK p s m args c D cy q A nL cc own) {off : Int} {tgt : Nat} (d : decode cc pc = .ok (.goto off, 3)) (ht : (pc : Int) + off = (tgt : Int)) (k : G p l e R s m args below meth c D cy q A cells slots nL Q tgt L st M) : G p l e R s m args below meth c D cy q A cells slots nL Q pc L st M := by
  intro H locs ls hw hP hD hS hl
  exact lv_goto hK.1.1 hK.1.2.1 d ht (k H locs ls hw hP hD hS hl)
theorem g_tabIn (hK : OK p s m args c D cy q A nL cc own) {dflt lo hi : Int} {offs : Array Int} {len : Nat} {x off : Int} {tgt : Nat} (d : decode cc pc = .ok (.tableswitch dflt lo hi offs, len)) (hx : inI x) (h1 : lo ≤ x) (h2 : x ≤ hi) (ho : offs[(x - lo).toNat]? = some off) (ht : (pc : Int) + off = (tgt : Int)) (k : G p l e R s m args below meth c D cy q A cells slots nL Q tgt L st M) : G p l e R s m args below meth c D cy q A cells slots nL Q pc L (gI x :: st) M := by
  intro H locs ls hw hP hD hS hl
  exact lv_tableIn hK.1.1 hK.1.2.1 d (by rw [oi_ti hx]; omega) (by rw [oi_ti hx]; omega) (by rw [oi_ti hx]; exact ho) ht (k H locs ls hw hP hD hS hl)
theorem g_tabOut (hK : OK p s m args c D cy q A nL cc own) {dflt lo hi : Int} {offs : Array Int} {len : Nat} {x : Int} {tgt : Nat} (d : decode cc pc = .ok (.tableswitch dflt lo hi offs, len)) (hx : inI x) (h : x < lo ∨ hi < x) (ht : (pc : Int) + dflt = (tgt : Int)) (k : G p l e R s m args below meth c D cy q A cells slots nL Q tgt L st M) : G p l e R s m args below meth c D cy q A cells slots nL Q pc L (gI x :: st) M := by
  intro H locs ls hw hP hD hS hl
  exact lv_tableOut hK.1.1 hK.1.2.1 d (by rw [oi_ti hx]; exact h) ht (k H locs ls hw hP hD hS hl)
theorem g_ifnonnull (hK : OK p s m args c D cy q A nL cc own) {r : Nat} {off : Int} {tgt : Nat} (d : decode cc pc = .ok (.ifnonnull off, 3)) (ht : (pc : Int) + off = (tgt : Int)) (k : G p l e R s m args below meth c D cy q A cells slots nL Q tgt L st M) : G p l e R s m args below meth c D cy q A cells slots nL Q pc L (gR r :: st) M := by
  intro H locs ls hw hP hD hS hl
  exact lv_ifnonnull hK.1.1 hK.1.2.1 d ht (k H locs ls hw hP hD hS hl)
theorem g_ifnonnullN (hK : OK p s m args c D cy q A nL cc own) {off : Int} (d : decode cc pc = .ok (.ifnonnull off, 3)) (k : G p l e R s m args below meth c D cy q A cells slots nL Q (pc + 3) L st M) : G p l e R s m args below meth c D cy q A cells slots nL Q pc L (gN :: st) M := by
  intro H locs ls hw hP hD hS hl
  exact lv_ifnonnullN hK.1.1 hK.1.2.1 d (k H locs ls hw hP hD hS hl)
theorem g_getv (hK : OK p s m args c D cy q A nL cc own) {kc ci j pos idx N : Nat} {f : gF} {C : String} {T : u_T} {t : Nat → FieldType} (hk : (KDm M)[pos]? = some (kc, .inl ci)) (hc : cls[ci]? = some (C, T, N)) (ef : EF C T N t) (hj : j < N) (hf : (FS ci)[j]? = some f) (hlink : Cond.fieldLink own idx (T j).1 (T j).2.1 (T j).2.2.1 ∈ BW) {v : gV} (d : decode cc pc = .ok (.getfield idx, 3)) (hv : fa M kc j f = v) (k : G p l e R s m args below meth c D cy q A cells slots nL Q (pc + 3) L (v :: st) M) : G p l e R s m args below meth c D cy q A cells slots nL Q pc L (gR kc :: st) M := by
  intro H locs ls hw hP hD hS hl
  subst hv
  refine wk_get hK.1 ef hK.2.1 hP pos (ws_at hk) hc j hj hlink (fvs_at hf) d ?_
  rw [← fa_cv]
  exact k H locs ls hw hP hD hS hl
theorem g_geti (hK : OK p s m args c D cy q A nL cc own) {kc ci j pos idx N : Nat} {f : gF} {C : String} {T : u_T} {t : Nat → FieldType} (hk : (KDm M)[pos]? = some (kc, .inl ci)) (hc : cls[ci]? = some (C, T, N)) (ef : EF C T N t) (hj : j < N) (hf : (FS ci)[j]? = some f) (hlink : Cond.fieldLink own idx (T j).1 (T j).2.1 (T j).2.2.1 ∈ BW) (hl0 : kc ∉ lkL) (d : decode cc pc = .ok (.getfield idx, 3)) (h0 : f.1 = 0) (k : ∀ x : Int, x = M kc j → inI x → G p l e R s m args below meth c D cy q A cells slots nL Q (pc + 3) L (gI x :: st) M) : G p l e R s m args below meth c D cy q A cells slots nL Q pc L (gR kc :: st) M := by
  intro H locs ls hw
  have hx := wf_i hw hl0 j
  refine g_getv hK hk hc ef hj hf hlink d (v := gI (M kc j)) ?_ (k _ rfl hx) H locs ls hw
  unfold fa
  rw [h0]
  rfl
theorem g_puti (hK : OK p s m args c D cy q A nL cc own) {kc ci j pos idx N : Nat} {f : gF} {C : String} {T : u_T} {t : Nat → FieldType} (hk : (KDm M)[pos]? = some (kc, .inl ci)) (hc : cls[ci]? = some (C, T, N)) (ef : EF C T N t) (hj : j < N) (hf : (FS ci)[j]? = some f) (hlink : Cond.fieldLink own idx (T j).1 (T j).2.1 (T j).2.2.1 ∈ BW) {x : Int} {ty : FieldType} (hl0 : kc ∉ lkL) (hne : ¬ (kc = KO ∧ j = FEW)) (d : decode cc pc = .ok (.putfield idx, 3)) (h0 : f.1 = 0) (hfin : (T j).2.2.2 = false) (hty : t j = ty) (hn : narrow ty (.int (Int32.ofInt x)) = .int (Int32.ofInt x)) (hfit : fits ty (.int (Int32.ofInt x)) = true) (hx : inI x) (k : G p l e R s m args below meth c D cy q A cells slots nL Q (pc + 3) L st (up M kc j x)) : G p l e R s m args below meth c D cy q A cells slots nL Q pc L (gI x :: gR kc :: st) M := by
  intro H locs ls hw hP hD hS hl
  subst hty
  have hlen : j < (fvs q M kc ci).length := by unfold fvs; rw [List.length_mapIdx]; exact (List.getElem?_eq_some_iff.mp hf).1
  refine wk_put (ws' := wsM cy q (up M kc j x)) hK.1 ef hK.2.1 hP hD hS pos (ws_at hk) hc j hj hlink hfin hn hfit hlen d ?_ (fun H1 locs1 hP1 hD1 hS1 => k H1 locs1 ls (wf_up hw (fun _ => hx) (fun z => absurd z hl0)) hP1 hD1 hS1 hl)
  show List.set (wsM cy q M) pos (q kc, Sum.inr (ci, (fvs q M kc ci).set j (.int (Int32.ofInt x)))) = _
  rw [fvs_set hf h0]
  exact ws_set hk (fun a ha => up_o ha) (up_z hne) rfl
theorem g_iald (hK : OK p s m args c D cy q A nL cc own) {kc n pos : Nat} {i : Int} (hk : (KDm M)[pos]? = some (kc, .inr (0, n))) (hl0 : kc ∉ lkL) (hn : n ≤ 1000000) (d : decode cc pc = .ok (.iaload, 1)) (h0 : 0 ≤ i) (h1 : i < n) (k : ∀ x : Int, x = M kc i.toNat → inI x → G p l e R s m args below meth c D cy q A cells slots nL Q (pc + 1) L (gI x :: st) M) : G p l e R s m args below meth c D cy q A cells slots nL Q pc L (gI i :: gR kc :: st) M := by
  intro H locs ls hw hP hD hS hl
  refine va_iald hK.1.1 hK.1.2.1 hK.2.1 hP pos 0 (ws_at hk) rfl (oi_in h0 h1 hn) d ?_
  rw [oi_nc h0 (by omega)]
  exact k _ rfl (wf_i hw hl0 _) H locs ls hw hP hD hS hl
theorem g_bald (hK : OK p s m args c D cy q A nL cc own) {kc n pos : Nat} {i : Int} (hk : (KDm M)[pos]? = some (kc, .inr (1, n))) (hl0 : kc ∉ lkL) (hn : n ≤ 1000000) (d : decode cc pc = .ok (.baload, 1)) (h0 : 0 ≤ i) (h1 : i < n) (k : ∀ x : Int, x = M kc i.toNat → inI x → G p l e R s m args below meth c D cy q A cells slots nL Q (pc + 1) L (gI x :: st) M) : G p l e R s m args below meth c D cy q A cells slots nL Q pc L (gI i :: gR kc :: st) M := by
  intro H locs ls hw hP hD hS hl
  refine va_bald hK.1.1 hK.1.2.1 hK.2.1 hP pos 1 (ws_at hk) rfl (oi_in h0 h1 hn) d ?_
  rw [oi_nc h0 (by omega)]
  exact k _ rfl (wf_i hw hl0 _) H locs ls hw hP hD hS hl
theorem g_zald (hK : OK p s m args c D cy q A nL cc own) {kc n pos : Nat} {i : Int} (hk : (KDm M)[pos]? = some (kc, .inr (3, n))) (hl0 : kc ∉ lkL) (hn : n ≤ 1000000) (d : decode cc pc = .ok (.baload, 1)) (h0 : 0 ≤ i) (h1 : i < n) (k : ∀ x : Int, x = M kc i.toNat → inI x → G p l e R s m args below meth c D cy q A cells slots nL Q (pc + 1) L (gI x :: st) M) : G p l e R s m args below meth c D cy q A cells slots nL Q pc L (gI i :: gR kc :: st) M := by
  intro H locs ls hw hP hD hS hl
  refine va_zald hK.1.1 hK.1.2.1 hK.2.1 hP pos 3 (ws_at hk) rfl (oi_in h0 h1 hn) d ?_
  rw [oi_nc h0 (by omega)]
  exact k _ rfl (wf_i hw hl0 _) H locs ls hw hP hD hS hl
theorem g_lald (hK : OK p s m args c D cy q A nL cc own) {kc n pos : Nat} {i : Int} (hk : (KDm M)[pos]? = some (kc, .inr (2, n))) (hl0 : kc ∈ lkL) (hn : n ≤ 1000000) (d : decode cc pc = .ok (.laload, 1)) (h0 : 0 ≤ i) (h1 : i < n) (k : ∀ x : Int, x = M kc i.toNat → inL x → G p l e R s m args below meth c D cy q A cells slots nL Q (pc + 1) L (gL x :: st) M) : G p l e R s m args below meth c D cy q A cells slots nL Q pc L (gI i :: gR kc :: st) M := by
  intro H locs ls hw hP hD hS hl
  refine va_lald hK.1.1 hK.1.2.1 hK.2.1 hP pos 2 (ws_at hk) rfl (oi_in h0 h1 hn) d ?_
  rw [oi_nc h0 (by omega)]
  exact k _ rfl (wf_l hw hl0 _) H locs ls hw hP hD hS hl
theorem g_aald (hK : OK p s m args c D cy q A nL cc own) {kc n pos : Nat} {i : Int} (hk : (KDm M)[pos]? = some (kc, .inr (4, n))) (hn : n ≤ 1000000) (d : decode cc pc = .ok (.aaload, 1)) (h0 : 0 ≤ i) (h1 : i < n) (k : G p l e R s m args below meth c D cy q A cells slots nL Q (pc + 1) L (gR (kc + 96 + 2 * i.toNat) :: st) M) : G p l e R s m args below meth c D cy q A cells slots nL Q pc L (gI i :: gR kc :: st) M := by
  intro H locs ls hw hP hD hS hl
  refine va_aldq hK.1.1 hK.1.2.1 hK.2.1 hP pos 4 (ws_at hk) rfl (oi_in h0 h1 hn) d ?_
  rw [oi_nc h0 (by omega)]
  exact k H locs ls hw hP hD hS hl
theorem g_iast (hK : OK p s m args c D cy q A nL cc own) {kc n pos : Nat} {i x : Int} (hk : (KDm M)[pos]? = some (kc, .inr (0, n))) (hl0 : kc ∉ lkL) (hne : kc ≠ KO) (hn : n ≤ 1000000) (d : decode cc pc = .ok (.iastore, 1)) (h0 : 0 ≤ i) (h1 : i < n) (hx : inI x) (k : G p l e R s m args below meth c D cy q A cells slots nL Q (pc + 1) L st (up M kc i.toNat x)) : G p l e R s m args below meth c D cy q A cells slots nL Q pc L (gI x :: gI i :: gR kc :: st) M := by
  intro H locs ls hw hP hD hS hl
  have he : (wsM cy q M).set pos (q kc, .inl (cy 0, n, .inl (upd (fun j => Int32.ofInt (M kc j)) (Int32.ofInt i).toNatClampNeg (Int32.ofInt x)))) = wsM cy q (up M kc i.toNat x) := by
    rw [oi_nc h0 (by omega)]
    refine ws_set hk (fun a ha => up_o ha) (up_z (fun z => hne z.1)) ?_
    show _ = Sum.inl (cy 0, n, gA q (up M kc i.toNat x) kc 0)
    rw [gA_up (by decide) (by decide)]
  refine va_iast hK.1.1 hK.1.2.1 hK.2.1 hP hD hS pos 0 (f := fun j => Int32.ofInt (M kc j)) (ws_at hk) rfl (oi_in h0 h1 hn) d (fun H1 locs1 hP1 hD1 hS1 => ?_)
  rw [he] at hP1 hD1
  exact k H1 locs1 ls (wf_up hw (fun _ => hx) (fun z => absurd z hl0)) hP1 hD1 hS1 hl
theorem g_bast (hK : OK p s m args c D cy q A nL cc own) {kc n pos : Nat} {i x : Int} (hk : (KDm M)[pos]? = some (kc, .inr (1, n))) (hl0 : kc ∉ lkL) (hne : kc ≠ KO) (hn : n ≤ 1000000) (d : decode cc pc = .ok (.bastore, 1)) (h0 : 0 ≤ i) (h1 : i < n) (hx : -128 ≤ x ∧ x ≤ 127) (k : G p l e R s m args below meth c D cy q A cells slots nL Q (pc + 1) L st (up M kc i.toNat x)) : G p l e R s m args below meth c D cy q A cells slots nL Q pc L (gI x :: gI i :: gR kc :: st) M := by
  intro H locs ls hw hP hD hS hl
  have hnr : vp_nar .byte (Int32.ofInt x) = Int32.ofInt x := by
    show (Int32.ofInt x).toInt8.toInt32 = Int32.ofInt x
    rw [Int32.toInt8_ofInt, Int8.toInt32_ofInt (by show (-128 : Int) ≤ _; omega) (by show _ ≤ (127 : Int); omega)]
  have he : (wsM cy q M).set pos (q kc, .inl (cy 1, n, .inl (upd (fun j => Int32.ofInt (M kc j)) (Int32.ofInt i).toNatClampNeg (Int32.ofInt x)))) = wsM cy q (up M kc i.toNat x) := by
    rw [oi_nc h0 (by omega)]
    refine ws_set hk (fun a ha => up_o ha) (up_z (fun z => hne z.1)) ?_
    show _ = Sum.inl (cy 1, n, gA q (up M kc i.toNat x) kc 1)
    rw [gA_up (by decide) (by decide)]
  refine va_bast hK.1.1 hK.1.2.1 hK.2.1 hP hD hS pos 1 (f := fun j => Int32.ofInt (M kc j)) (ws_at hk) rfl (oi_in h0 h1 hn) d (fun H1 locs1 hP1 hD1 hS1 => ?_)
  rw [hnr] at hP1 hD1
  rw [he] at hP1 hD1
  exact k H1 locs1 ls (wf_up hw (fun _ => ⟨by omega, by omega⟩) (fun z => absurd z hl0)) hP1 hD1 hS1 hl
theorem g_zast (hK : OK p s m args c D cy q A nL cc own) {kc n pos : Nat} {i x : Int} (hk : (KDm M)[pos]? = some (kc, .inr (3, n))) (hl0 : kc ∉ lkL) (hne : kc ≠ KO) (hn : n ≤ 1000000) (d : decode cc pc = .ok (.bastore, 1)) (h0 : 0 ≤ i) (h1 : i < n) (hx : x = 0 ∨ x = 1) (k : G p l e R s m args below meth c D cy q A cells slots nL Q (pc + 1) L st (up M kc i.toNat x)) : G p l e R s m args below meth c D cy q A cells slots nL Q pc L (gI x :: gI i :: gR kc :: st) M := by
  intro H locs ls hw hP hD hS hl
  have hnr : vp_nar .boolean (Int32.ofInt x) = Int32.ofInt x := by
    rcases hx with rfl | rfl <;> rfl
  have he : (wsM cy q M).set pos (q kc, .inl (cy 3, n, .inl (upd (fun j => Int32.ofInt (M kc j)) (Int32.ofInt i).toNatClampNeg (Int32.ofInt x)))) = wsM cy q (up M kc i.toNat x) := by
    rw [oi_nc h0 (by omega)]
    refine ws_set hk (fun a ha => up_o ha) (up_z (fun z => hne z.1)) ?_
    show _ = Sum.inl (cy 3, n, gA q (up M kc i.toNat x) kc 3)
    rw [gA_up (by decide) (by decide)]
  refine va_zast hK.1.1 hK.1.2.1 hK.2.1 hP hD hS pos 3 (f := fun j => Int32.ofInt (M kc j)) (ws_at hk) rfl (oi_in h0 h1 hn) d (fun H1 locs1 hP1 hD1 hS1 => ?_)
  rw [hnr] at hP1 hD1
  rw [he] at hP1 hD1
  exact k H1 locs1 ls (wf_up hw (fun _ => ⟨by omega, by omega⟩) (fun z => absurd z hl0)) hP1 hD1 hS1 hl
theorem g_last (hK : OK p s m args c D cy q A nL cc own) {kc n pos : Nat} {i x : Int} (hk : (KDm M)[pos]? = some (kc, .inr (2, n))) (hl0 : kc ∈ lkL) (hne : kc ≠ KO) (hn : n ≤ 1000000) (d : decode cc pc = .ok (.lastore, 1)) (h0 : 0 ≤ i) (h1 : i < n) (hx : inL x) (k : G p l e R s m args below meth c D cy q A cells slots nL Q (pc + 1) L st (up M kc i.toNat x)) : G p l e R s m args below meth c D cy q A cells slots nL Q pc L (gL x :: gI i :: gR kc :: st) M := by
  intro H locs ls hw hP hD hS hl
  have he : (wsM cy q M).set pos (q kc, .inl (cy 2, n, .inr (.inl (vp_updL (fun j => Int64.ofInt (M kc j)) (Int32.ofInt i).toNatClampNeg (Int64.ofInt x))))) = wsM cy q (up M kc i.toNat x) := by
    rw [oi_nc h0 (by omega)]
    refine ws_set hk (fun a ha => up_o ha) (up_z (fun z => hne z.1)) ?_
    show _ = Sum.inl (cy 2, n, gA q (up M kc i.toNat x) kc 2)
    rw [gA_upL]
  refine va_last hK.1.1 hK.1.2.1 hK.2.1 hP hD hS pos 2 (f := fun j => Int64.ofInt (M kc j)) (ws_at hk) rfl (oi_in h0 h1 hn) d (fun H1 locs1 hP1 hD1 hS1 => ?_)
  rw [he] at hP1 hD1
  exact k H1 locs1 ls (wf_up hw (fun z => absurd hl0 z) (fun _ => hx)) hP1 hD1 hS1 hl
theorem g_alen (hK : OK p s m args c D cy q A nL cc own) {kc n pos et : Nat} {ty : FieldType} (hk : (KDm M)[pos]? = some (kc, .inr (et, n))) (ht : (TY cy)[et]? = some (cy et, ty)) (d : decode cc pc = .ok (.arraylength, 1)) (k : G p l e R s m args below meth c D cy q A cells slots nL Q (pc + 1) L (gI n :: st) M) : G p l e R s m args below meth c D cy q A cells slots nL Q pc L (gR kc :: st) M := by
  intro H locs ls hw hP hD hS hl
  exact va_alen hK.1.1 hK.1.2.1 hK.2.1 hP pos et (ws_at hk) ht (by rw [Int32.ofInt_eq_ofNat]) d (k H locs ls hw hP hD hS hl)
theorem g_gets (hK : OK p s m args c D cy q A nL cc own) {kc N idx : Nat} {C n : String} {f : Nat → Int} (i : Nat) (he : STs[i]? = some (kc, C, n, N, f)) (hlink : Cond.fieldLink own idx C n "[I" ∈ BW) (d : decode cc pc = .ok (.getstatic idx, 3)) (k : G p l e R s m args below meth c D cy q A cells slots nL Q (pc + 3) L (gR kc :: st) M) : G p l e R s m args below meth c D cy q A cells slots nL Q pc L st M := by
  intro H locs ls hw hP hD hS hl
  obtain ⟨k1, k2, k3, k4⟩ := sx_at hK.2.2.1 i he
  exact va_gets hK.1.1 hK.1.2.1 k1 hS hK.1.2.2.2.1 (hK.1.2.2.2.2 _ hlink) (fun _ h => h) d (k H locs ls hw hP hD hS hl)
theorem g_siald (hK : OK p s m args c D cy q A nL cc own) {kc N : Nat} {i : Int} {C n : String} {f : Nat → Int} (j : Nat) (he : STs[j]? = some (kc, C, n, N, f)) (hn : N ≤ 1000000) (d : decode cc pc = .ok (.iaload, 1)) (h0 : 0 ≤ i) (h1 : i < N) (k : G p l e R s m args below meth c D cy q A cells slots nL Q (pc + 1) L (gI (f i.toNat) :: st) M) : G p l e R s m args below meth c D cy q A cells slots nL Q pc L (gI i :: gR kc :: st) M := by
  intro H locs ls hw hP hD hS hl
  obtain ⟨k1, k2, k3, k4⟩ := sx_at hK.2.2.1 j he
  refine va_sld hK.1.1 hK.1.2.1 k2 k3 k4 hS (oi_in h0 h1 hn) d ?_
  rw [oi_nc h0 (by omega)]
  exact k H locs ls hw hP hD hS hl
theorem g_ldcS (hK : OK p s m args c D cy q A nL cc own) {kc N idx : Nat} {tx : String} {f : Nat → Int} (i : Nat) (he : STw[i]? = some (kc, own, idx, tx, N, f)) (d : decode cc pc = .ok (.ldc idx, 2)) (k : G p l e R s m args below meth c D cy q A cells slots nL Q (pc + 2) L (gR kc :: st) M) : G p l e R s m args below meth c D cy q A cells slots nL Q pc L st M := by
  intro H locs ls hw hP hD hS hl
  exact va_ldcS hK.1.1 hK.1.2.1 hK.1.2.2.2.1 (sx_tx hK.2.2.1 i he).1 d (k H locs ls hw hP hD hS hl)
theorem g_sub (ks : List Nat) (h : ks.filterMap (fun k => L[k]?) = L') (k : G p l e R s m args below meth c D cy q A cells slots nL Q pc L' st M) : G p l e R s m args below meth c D cy q A cells slots nL Q pc L st M := by
  intro H locs ls hw hP hD hS hl
  exact k H locs ls hw hP hD hS (gsub_has hl ks h)
theorem g_wf (k : wf M → G p l e R s m args below meth c D cy q A cells slots nL Q pc L st M) : G p l e R s m args below meth c D cy q A cells slots nL Q pc L st M := by
  intro H locs ls hw
  exact k hw H locs ls hw
theorem g_mem {M2 : Mem} (h : M = M2) (k : G p l e R s m args below meth c D cy q A cells slots nL Q pc L st M2) : G p l e R s m args below meth c D cy q A cells slots nL Q pc L st M := h ▸ k
end GR
