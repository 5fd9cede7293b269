/-! own rows: words kept by calls, two shapes of contracts, calls of both -/
def BW : List Cond := lw_tbl.filter goodWord
theorem bw_at {w : Cond} (i : Nat) (h : lw_tbl[i]? = some w) (g : goodWord w = true) : w ∈ BW := List.mem_filter.mpr ⟨List.mem_of_getElem? h, g⟩
theorem bw_good : ∀ w ∈ BW, (w.onTables && w.keeps) = true ∨ ∃ ty, w = .arrayClass ty := fun w h => good_of_word (List.mem_filter.mp h).2
theorem bw_in (ws : List Cond) (h : ∀ w ∈ ws, w ∈ BW) : GoodIn BW ws := fun w hw => ⟨h w hw, bw_good w (h w hw)⟩
abbrev wq (y : MethodName) (b : ByteArray) (n : Nat) (r : Option FieldType) : List Cond := .code y b n r :: BW
theorem wq_in {y : MethodName} {b : ByteArray} {n : Nat} {r : Option FieldType} (h : Cond.code y b n r ∈ BW) : ∀ w ∈ wq y b n r, w ∈ BW := fun w hw => by
  rcases List.mem_cons.mp hw with q | q
  · rw [q]; exact h
  · exact q
theorem bw_cons {w : Cond} {ws : List Cond} (h : w ∈ BW) (k : ∀ v ∈ ws, v ∈ BW) : ∀ v ∈ (w :: ws), v ∈ BW := fun v hv => by
  rcases List.mem_cons.mp hv with q | q
  · rw [q]; exact h
  · exact k v q
theorem bw_nil : ∀ v ∈ ([] : List Cond), v ∈ BW := fun v h => absurd h List.not_mem_nil
/-- the nest's links -/
def NNl : List (String × Nat × MethodName) := [("WhiteElephants", 21, ⟨"WhiteElephants$Tape", "<init>", "()V"⟩), ("WhiteElephants", 28, ⟨"WhiteElephants$Hall", "<init>", "()V"⟩), ("WhiteElephants$Hall", 11, ⟨"WhiteElephants$Things", "<init>", "()V"⟩), ("WhiteElephants$Hall", 20, ⟨"WhiteElephants$Ladies", "<init>", "()V"⟩), ("WhiteElephants$Hall", 27, ⟨"WhiteElephants$Laws", "<init>", "()V"⟩), ("WhiteElephants$Hall", 34, ⟨"WhiteElephants$Buyers", "<init>", "()V"⟩), ("WhiteElephants$Hall", 41, ⟨"WhiteElephants$Sightings", "<init>", "()V"⟩), ("WhiteElephants$Hall", 48, ⟨"WhiteElephants$Secrets", "<init>", "()V"⟩), ("WhiteElephants", 38, ⟨"WhiteElephants$Sale", "<init>", "()V"⟩), ("WhiteElephants", 45, ⟨"WhiteElephants$Picks", "<init>", "()V"⟩), ("WhiteElephants", 54, ⟨"WhiteElephants$Shelf", "<init>", "()V"⟩), ("WhiteElephants$Shelf", 22, ⟨"WhiteElephants", "within", "(III)Z"⟩), ("WhiteElephants$Things", 37, ⟨"WhiteElephants", "within", "(III)Z"⟩), ("WhiteElephants$Things", 45, ⟨"WhiteElephants", "hasBit", "(II)Z"⟩), ("WhiteElephants$Ladies", 25, ⟨"WhiteElephants", "within", "(III)Z"⟩), ("WhiteElephants$Laws", 28, ⟨"WhiteElephants", "within", "(III)Z"⟩), ("WhiteElephants$Hall", 96, ⟨"WhiteElephants", "hasBit", "(II)Z"⟩), ("WhiteElephants$Buyers", 31, ⟨"WhiteElephants", "within", "(III)Z"⟩), ("WhiteElephants$Sightings", 37, ⟨"WhiteElephants", "within", "(III)Z"⟩), ("WhiteElephants$Secrets", 57, ⟨"WhiteElephants", "hasBit", "(II)Z"⟩)]
def NN (U : State) : Prop := ∀ q ∈ NNl, va_Nw (.methodLinkNest q.1 q.2.1 q.2.2 "WhiteElephants") U
theorem NN.warm {s U : State} (hW : s.WarmedH U.vm) (h : NN s) : NN U := fun q hq => va_Nw.warmM hW (h q hq)
theorem NN.call {U : State} {g : JFrame} {mk : MethodId} {a : Array Value} (h : NN U) : NN (U.calling g mk a) := fun q hq => va_Nw.same rfl rfl (h q hq)
abbrev NX : (Nat → Prop) → State → Prop := fun _ U => NN U
def MD (y : MethodName) (k : Nat) : Prop := y.cls ≠ "java/lang/invoke/MethodHandle" ∧ y.cls ≠ "java/lang/invoke/VarHandle" ∧ (parseMethodDescriptor y.desc).map (fun d => d.parameters.length) = some k
def WV (own : String) (idx : Nat) (y : MethodName) (b : ByteArray) (n : Nat) (r : Option FieldType) : Prop := Cond.methodLink own idx y ∈ BW ∧ Cond.instanceMethod y ∈ BW ∧ Cond.selects y.cls y y ∈ BW ∧ Cond.initialized y.cls ∈ BW ∧ Cond.code y b n r ∈ BW
def WT (own : String) (idx : Nat) (y : MethodName) (b : ByteArray) (n : Nat) (r : Option FieldType) : Prop := Cond.methodLink own idx y ∈ BW ∧ Cond.static y ∈ BW ∧ Cond.initialized y.cls ∈ BW ∧ Cond.code y b n r ∈ BW
def WI (own : String) (idx : Nat) (y : MethodName) (b : ByteArray) (n : Nat) : Prop := Cond.methodLink own idx y ∈ BW ∧ Cond.instanceMethod y ∈ BW ∧ Cond.initialized y.cls ∈ BW ∧ Cond.code y b n none ∈ BW
def WTN (own : String) (idx : Nat) (y : MethodName) (b : ByteArray) (n : Nat) (r : Option FieldType) : Prop := (own, idx, y) ∈ NNl ∧ Cond.static y ∈ BW ∧ Cond.initialized y.cls ∈ BW ∧ Cond.code y b n r ∈ BW
def WIN (own : String) (idx : Nat) (y : MethodName) (b : ByteArray) (n : Nat) : Prop := (own, idx, y) ∈ NNl ∧ Cond.instanceMethod y ∈ BW ∧ Cond.initialized y.cls ∈ BW ∧ Cond.code y b n none ∈ BW
section WK
variable {p : Program} {l : Launch} {e : Env} {R : Room} {s : State} {m : MethodId} {args : Array Value} {below : List Frame} {meth : Method} {c : Code} {H : Heap} {locs : List Loc} {cells slots : Nat} {Q : State → Prop}
variable {cc : ByteArray} {pc nL idx n k : Nat} {ls : Array Slot} {own : String} {y : MethodName} {b : ByteArray} {r : Option FieldType} {rm : Room} {B : State → Prop} {Qc : Array Value → State → Outcome → State → Prop} {free : Addr → Prop} {mc ms : Nat} {o : Nat} {st0 : List Value}

theorem wk_gV {own : String} {idx : Nat} {y : MethodName} {b : ByteArray} {n : Nat} {r : Option FieldType} (w : WV own idx y b n r) : GoodIn BW (wsV own idx y.cls y (wq y b n r)) := fun v hv => (List.mem_append.mp hv).elim (bw_in _ (bw_cons w.1 (bw_cons w.2.1 (bw_cons w.2.2.1 (bw_cons w.2.2.2.1 bw_nil)))) v) (bw_in _ (wq_in w.2.2.2.2) v)
theorem wk_gT {own : String} {idx : Nat} {y : MethodName} {b : ByteArray} {n : Nat} {r : Option FieldType} (w : WT own idx y b n r) : GoodIn BW (va_wsS own idx y (wq y b n r)) := fun v hv => (List.mem_append.mp hv).elim (bw_in _ (bw_cons w.1 (bw_cons w.2.1 (bw_cons w.2.2.1 bw_nil))) v) (bw_in _ (wq_in w.2.2.2) v)
theorem wk_rV (As rest : List Value) (Sx : CallFix p m c cc nL s args BW own) (hls : ls.size = nL) (w : WV own idx y b n r) (md : MD y k) (hM : Met l y (wq y b n r) rm (va_Pc (.ref o :: As) B) Qc mc ms free) (hrm : rm.cells = mc ∧ rm.slots = ms) (hR : rm.frames + 1 ≤ R.frames ∧ 8 + (n + 11) + rm.locals ≤ R.locals) (hbl : ∀ (a : Array Value) (U : State) (g : JFrame) (mk : MethodId), B U → B (U.calling g mk a)) (hpre : ∀ U : State, U.heap = H → s.WarmedH U.vm → B U)
    (hrv : ∃ cell : Cell, H[o]? = some cell ∧ cell.vm.isStatics = false ∧ s.vm.findClass y.cls = some cell.cls) (hn : As.length = k) (hst : st0 = As.reverse ++ .ref o :: rest) (hW : (rest.map fun v => v.category).sum ≤ 8) (hdg : decode cc pc = .ok (.invokevirtual idx, 3)) (hf : cells + mc ≤ R.cells ∧ slots + ms ≤ R.slots) :
    va_Run p l e R s m args below meth c H locs cells slots mc ms (F0 m pc ls st0) rest (Qc (Value.ref o :: As).toArray) free :=
  va_runV (As := As) (rest := rest) Sx hM (cwV k Sx.2.2.2.2 (wk_gV w) rfl hrm.1 hrm.2 ⟨rfl, md⟩ hR) ⟨fun a U g mk q => ⟨q.1, hbl a U g mk q.2⟩, hrv, fun U hU hw => ⟨rfl, hpre U hU hw⟩⟩ rfl hn hls hst (lv_room hW) hdg hf
theorem wk_rT (As rest : List Value) (Sx : CallFix p m c cc nL s args BW own) (hls : ls.size = nL) (w : WT own idx y b n r) (md : MD y k) (hM : Met l y (wq y b n r) rm (va_Pc As B) Qc mc ms free) (hrm : rm.cells = mc ∧ rm.slots = ms) (hR : rm.frames + 1 ≤ R.frames ∧ 8 + (n + 11) + rm.locals ≤ R.locals) (hbl : ∀ (a : Array Value) (U : State) (g : JFrame) (mk : MethodId), B U → B (U.calling g mk a)) (hpre : ∀ U : State, U.heap = H → s.WarmedH U.vm → B U)
    (hn : As.length = k) (hst : st0 = As.reverse ++ rest) (hW : (rest.map fun v => v.category).sum ≤ 8) (hdg : decode cc pc = .ok (.invokestatic idx, 3)) (hf : cells + mc ≤ R.cells ∧ slots + ms ≤ R.slots) :
    va_Run p l e R s m args below meth c H locs cells slots mc ms (F0 m pc ls st0) rest (Qc As.toArray) free :=
  va_runS (As := As) (rest := rest) Sx hM (va_cwS k Sx.2.2.2.2 (wk_gT w) rfl hrm.1 hrm.2 md hR) ⟨fun a U g mk q => ⟨q.1, hbl a U g mk q.2⟩, fun U hU hw => ⟨rfl, hpre U hU hw⟩⟩ rfl hn hls hst (lv_room hW) hdg hf
theorem wk_rI (As rest : List Value) (Sx : CallFix p m c cc nL s args BW own) (hls : ls.size = nL) (w : WI own idx y b n) (md : MD y k) (hi : y.name = "<init>") (hM : Met l y (wq y b n none) rm (va_Pc (.ref o :: As) B) Qc mc ms free) (hrm : rm.cells = mc ∧ rm.slots = ms) (hR : rm.frames + 1 ≤ R.frames ∧ 8 + (n + 11) + rm.locals ≤ R.locals) (hbl : ∀ (a : Array Value) (U : State) (g : JFrame) (mk : MethodId), B U → B (U.calling g mk a)) (hpre : ∀ U : State, U.heap = H → s.WarmedH U.vm → B U)
    (hn : As.length = k) (hst : st0 = As.reverse ++ .ref o :: rest) (hW : (rest.map fun v => v.category).sum ≤ 8) (hdg : decode cc pc = .ok (.invokespecial idx, 3)) (hf : cells + mc ≤ R.cells ∧ slots + ms ≤ R.slots) :
    va_Run p l e R s m args below meth c H locs cells slots mc ms (F0 m pc ls st0) rest (Qc (Value.ref o :: As).toArray) free :=
  va_runI (As := As) (rest := rest) Sx hM (cwI k Sx.2.2.2.2 (bw_in _ (wq_in w.2.2.2)) rfl hrm.1 hrm.2 (Sx.2.2.2.2 _ w.2.2.1) (Sx.2.2.2.2 _ w.1) (Sx.2.2.2.2 _ w.2.1) hi md hR) ⟨fun a U g mk q => ⟨q.1, hbl a U g mk q.2⟩, fun U hU hw => ⟨rfl, hpre U hU hw⟩⟩ rfl hn hls hst (lv_room hW) hdg hf
theorem wk_rTN (As rest : List Value) (Sx : CallFix p m c cc nL s args BW own) (hNN : NN s) (hls : ls.size = nL) (w : WTN own idx y b n r) (md : MD y k) (hM : Met l y (wq y b n r) rm (va_Pc As B) Qc mc ms free) (hrm : rm.cells = mc ∧ rm.slots = ms) (hR : rm.frames + 1 ≤ R.frames ∧ 8 + (n + 11) + rm.locals ≤ R.locals) (hbl : ∀ (a : Array Value) (U : State) (g : JFrame) (mk : MethodId), B U → B (U.calling g mk a)) (hpre : ∀ U : State, U.heap = H → s.WarmedH U.vm → B U)
    (hn : As.length = k) (hst : st0 = As.reverse ++ rest) (hW : (rest.map fun v => v.category).sum ≤ 8) (hdg : decode cc pc = .ok (.invokestatic idx, 3)) (hf : cells + mc ≤ R.cells ∧ slots + ms ≤ R.slots) :
    va_Run p l e R s m args below meth c H locs cells slots mc ms (F0 m pc ls st0) rest (Qc As.toArray) free :=
  va_runSN (As := As) (rest := rest) (host := "WhiteElephants") Sx hM ⟨va_cnB k Sx.2.2.2.2 (bw_in _ (wq_in w.2.2.2)) rfl hrm.1 hrm.2 (hNN _ w.1) (Sx.2.2.2.2 _ w.2.2.1) md hR, Sx.2.2.2.2 _ w.2.1, trivial⟩ ⟨fun a U g mk q => ⟨q.1, hbl a U g mk q.2⟩, fun U hU hw => ⟨rfl, hpre U hU hw⟩⟩ rfl hn hls hst (lv_room hW) hdg hf
theorem wk_rIN (As rest : List Value) (Sx : CallFix p m c cc nL s args BW own) (hNN : NN s) (hls : ls.size = nL) (w : WIN own idx y b n) (md : MD y k) (hi : y.name = "<init>") (hM : Met l y (wq y b n none) rm (va_Pc (.ref o :: As) B) Qc mc ms free) (hrm : rm.cells = mc ∧ rm.slots = ms) (hR : rm.frames + 1 ≤ R.frames ∧ 8 + (n + 11) + rm.locals ≤ R.locals) (hbl : ∀ (a : Array Value) (U : State) (g : JFrame) (mk : MethodId), B U → B (U.calling g mk a)) (hpre : ∀ U : State, U.heap = H → s.WarmedH U.vm → B U)
    (hn : As.length = k) (hst : st0 = As.reverse ++ .ref o :: rest) (hW : (rest.map fun v => v.category).sum ≤ 8) (hdg : decode cc pc = .ok (.invokespecial idx, 3)) (hf : cells + mc ≤ R.cells ∧ slots + ms ≤ R.slots) :
    va_Run p l e R s m args below meth c H locs cells slots mc ms (F0 m pc ls st0) rest (Qc (Value.ref o :: As).toArray) free :=
  va_runIN (As := As) (rest := rest) (host := "WhiteElephants") Sx hM ⟨va_cnB k Sx.2.2.2.2 (bw_in _ (wq_in w.2.2.2)) rfl hrm.1 hrm.2 (hNN _ w.1) (Sx.2.2.2.2 _ w.2.2.1) md hR, hi, Sx.2.2.2.2 _ w.2.1⟩ ⟨fun a U g mk q => ⟨q.1, hbl a U g mk q.2⟩, fun U hU hw => ⟨rfl, hpre U hU hw⟩⟩ rfl hn hls hst (lv_room hW) hdg hf
theorem wk_int {v x : Int32} {rest : List Value} (h : x = v) (kk : W p l e R s m args below meth c H locs cells slots Q (F0 m pc ls (.int v :: rest))) : W p l e R s m args below meth c H locs cells slots Q (F0 m pc ls (.int x :: rest)) := h ▸ kk
theorem wk_long {v x : Int64} {rest : List Value} (h : x = v) (kk : W p l e R s m args below meth c H locs cells slots Q (F0 m pc ls (.long v :: rest))) : W p l e R s m args below meth c H locs cells slots Q (F0 m pc ls (.long x :: rest)) := h ▸ kk
theorem wk_val {v x : Value} {rest : List Value} (h : x = v) (kk : W p l e R s m args below meth c H locs cells slots Q (F0 m pc ls (v :: rest))) : W p l e R s m args below meth c H locs cells slots Q (F0 m pc ls (x :: rest)) := h ▸ kk
end WK
/-- the classes whose objects the worlds hold -/
theorem wk_subC {D : va_G} {cl : List vw_C} {ws wc : va_W} {H : Heap} (h : va_P D cl ws H) {is : List Nat} (hC : is.map (fun i => ws[i]?) = wc.map some) : va_P D cl wc H := by
  intro k q hq
  have h1 : (wc.map some)[k]? = some (some q) := by rw [List.getElem?_map, hq]; rfl
  rw [← hC, List.getElem?_map] at h1
  cases hi : is[k]? with
  | none => rw [hi] at h1; cases h1
  | some i =>
    rw [hi] at h1
    exact h i q (Option.some.inj h1)
