/-! entry, end, calls -/
def gArgs : Nat → List gV → List (Nat × gV)
  | _, [] => []
  | i, v :: r => (i, v) :: gArgs (i + gw v) r
theorem gw_if (q : Nat → Nat) (v : gV) (i : Nat) : (if (cv q v).category = 2 then i + 2 else i + 1) = i + gw v := by
  rw [cv_cat]
  match v with
  | .inl x => rfl
  | .inr (.inl x) => rfl
  | .inr (.inr o) => rfl
theorem gargs_eq (q : Nat → Nat) : ∀ (i : Nat) (As : List gV), lv_args i (As.map (cv q)) = gM q (gArgs i As)
  | _, [] => rfl
  | i, v :: r => by
    show (i, cv q v) :: lv_args (if (cv q v).category = 2 then i + 2 else i + 1) (r.map (cv q)) = (i, cv q v) :: gM q (gArgs (i + gw v) r)
    rw [gw_if, gargs_eq q (i + gw v) r]
theorem gsl_len (q : Nat → Nat) : ∀ As : List gV, (lg_sl (As.map (cv q))).length = (As.map gw).sum
  | [] => rfl
  | v :: r => by
    have ih := gsl_len q r
    unfold lg_sl at ih ⊢
    rw [List.map_cons, List.flatMap_cons, List.length_append, ih, List.map_cons, List.sum_cons]
    congr 1
    rw [cv_cat]
    match v with
    | .inl x => rfl
    | .inr (.inl x) => rfl
    | .inr (.inr o) => rfl
theorem gcat (q : Nat → Nat) (st : List gV) : ((st.map (cv q)).map fun v => v.category) = st.map gw := by
  rw [List.map_map]
  exact List.map_congr_left (fun v _ => cv_cat q v)
/-- the frames' A is what a callee may touch -/
theorem gA_in {A : Nat → Prop} {ws : va_W} {H0 H : Heap} {locs : List Loc} (hD : va_D A ws) (hS : va_S A H0 H locs) (hA : ∀ a : Nat, H0.size ≤ a → A a) : ∀ a, va_A ws H.size a → A a := by
  intro a h
  rcases h with ⟨k, x, h⟩ | h
  · exact hD.2 k (a, x) h
  · exact hA a (Nat.le_trans hS.1 h)
section GC
variable {p : Program} {l : Launch} {e : Env} {R : Room} {s : State} {m : MethodId} {args : Array Value} {below : List Frame} {meth : Method} {c : Code} {D : va_G} {cy : Nat → ClassId} {q : Nat → Nat} {A : Nat → Prop} {cells slots nL : Nat} {Q : State → Prop} {cc : ByteArray} {own : String}
variable {pc : Nat} {L L' : List (Nat × gV)} {st : List gV} {M : Mem} {Pq : Option gV → Mem → Prop}
theorem g_intro {y : MethodName} {r : Option FieldType} {d : Nat} {As : List gV} (hy : plainName y.cls = true) (hn : (As.map gw).sum ≤ nL)
    (body : ∀ (p : Program) (e : Env) (s : State) (m : MethodId) (args : Array Value) (below : List Frame) (meth : Method) (c : Code) (D : va_G) (cy : Nat → ClassId) (q : Nat → Nat) (A : Nat → Prop), OK p s m args c D cy q A nL cc y.cls → meth.sig.returnType = r → meth.locks = false → wf M → G p l e (rmD d) s m args below meth c D cy q A 0 0 nL (MQ below (gQc D cy q A Pq) args s 0 0 A) 0 (gArgs 0 As) [] M) : gCtr l y cc nL r d As M Pq := by
  intro D cy q sz hw
  refine Met.ofW (cc := cc) (maxL := nL) (ret := r) hy rfl ?_
  intro p e s m args below meth c s₁ B hml hv
  obtain ⟨rfl, hsz, hP, hK, hD0, hX⟩ := hv
  have hts := atoms_spec (ws := wq y cc nL r) B.pre
  have hl := lv_entry (As.map (cv q)) (n := nL) (by rw [gsl_len]; exact hn)
  rw [lg_entry_eq]
  generalize (lg_sl (As.map (cv q)) ++ List.replicate (nL - (lg_sl (As.map (cv q))).length) Slot.unset).toArray = ls at hl ⊢
  rw [gargs_eq] at hl
  subst hsz
  exact body p e s m _ below meth c D cy q _ ⟨⟨B.exec, B.bytes, hml, findClass_of_methodNamed B.named, fun w h => hts w (List.mem_cons_of_mem _ h)⟩, hK, hX, fun a h => Or.inr h⟩ B.returns B.notSynchronized hw s.heap [] ls hw hP hD0.self va_S.rf hl
theorem g_iret {x : Int} {ft : FieldType} (hK : OK p s m args c D cy q A nL cc own) (hr : meth.sig.returnType = some ft) (hlocks : meth.locks = false) (d : decode cc pc = .ok (.ireturn, 1)) (hn : narrow ft (.int (Int32.ofInt x)) = .int (Int32.ofInt x)) (hP : Pq (some (gI x)) M) : G p l e R s m args below meth c D cy q A cells slots nL (MQ below (gQc D cy q A Pq) args s cells slots A) pc L [gI x] M := by
  intro H locs ls hw hPw hD hS hl
  exact W.zret hK.1.1 hK.1.2.1 hr hn (fun t ht _ => ⟨⟨some (gI x), M, rfl, hP, hw, by rw [ht]; exact hPw, hD⟩, hS.F ht⟩) hS.2.2 d hlocks
theorem g_lret {x : Int} (hK : OK p s m args c D cy q A nL cc own) (hr : meth.sig.returnType = some .long) (hlocks : meth.locks = false) (d : decode cc pc = .ok (.lreturn, 1)) (hP : Pq (some (gL x)) M) : G p l e R s m args below meth c D cy q A cells slots nL (MQ below (gQc D cy q A Pq) args s cells slots A) pc L [gL x] M := by
  intro H locs ls hw hPw hD hS hl
  exact W.lret hK.1.1 hK.1.2.1 hr (fun t ht _ => ⟨⟨some (gL x), M, rfl, hP, hw, by rw [ht]; exact hPw, hD⟩, hS.F ht⟩) hS.2.2 d hlocks
theorem g_vret (hK : OK p s m args c D cy q A nL cc own) (hr : meth.sig.returnType = none) (hlocks : meth.locks = false) (d : decode cc pc = .ok (.return_, 1)) (hP : Pq none M) : G p l e R s m args below meth c D cy q A cells slots nL (MQ below (gQc D cy q A Pq) args s cells slots A) pc L [] M := by
  intro H locs ls hw hPw hD hS hl
  exact W.vret hK.1.1 hK.1.2.1 hr (fun t ht _ => ⟨⟨none, M, rfl, hP, hw, by rw [ht]; exact hPw, hD⟩, hS.F ht⟩) hS.2.2 d hlocks
/-- behind a call -/
theorem g_run {a : Array Value} {H : Heap} {locs : List Loc} {ls : Array Slot} {st0 : List Value} (hr : va_Run p l e R s m args below meth c H locs cells slots 0 0 (F0 m pc ls st0) (st.map (cv q)) (gQc D cy q (va_A (wsM cy q M) H.size) (fun v M1 => G p l e R s m args below meth c D cy q A cells slots nL Q (pc + 3) L (v.toList ++ st) M1) a) (va_A (wsM cy q M) H.size)) (hS : va_S A s.heap H locs) (hin : ∀ a, va_A (wsM cy q M) H.size a → A a) (hl : lv_has ls nL (gM q L)) : W p l e R s m args below meth c H locs cells slots Q (F0 m pc ls st0) := by
  intro T hT X
  obtain ⟨v, st₀, t, T', L1, h0, X', hL, e1, e2, ⟨⟨v1, M1, hv, hp, hw1, hP1, hD1⟩, hz, hk⟩, stp⟩ := hr T hT X
  obtain rfl : v = v1.map (cv q) := by cases hv; rfl
  rw [h0] at hz hk
  rw [← e1] at hP1
  have hS1 : va_S A s.heap T'.heap (locs ++ L1) := ⟨Nat.le_trans hS.1 (by rw [e1]; exact hz), fun w h1 h2 => by rw [e1, hk w (Nat.lt_of_lt_of_le h1 hS.1) (fun z => h2 (hin w z))]; exact hS.2.1 w h1 h2, fun w hw => by
    rcases List.mem_append.mp hw with h | h
    · exact hS.2.2 w h
    · exact hin _ (hL w h)⟩
  have hD2 : va_D A (wsM cy q M1) := hD1.weaken (fun _ w _ h => hin _ h)
  have hgo := hp T'.heap (locs ++ L1) ls hw1 hP1 hD2 hS1 hl T' rfl X'
  have he : (v1.toList ++ st).map (cv q) = (v1.map (cv q)).toList ++ st.map (cv q) := by
    cases v1 <;> simp
  rw [he] at hgo
  obtain ⟨t2, a1, b1⟩ := hgo
  exact ⟨t2, stp t2 a1, b1⟩
section CALLS
variable {y : MethodName} {b : ByteArray} {n idx d k : Nat} {r : Option FieldType} {As st0 : List gV}
theorem gc_bl {sz : Nat} {B : Nat → Prop} : ∀ (a : Array Value) (U : State) (g : JFrame) (mk : MethodId), (U.heap.size = sz ∧ va_P D cls (wsM cy q M) U.heap ∧ va_K D cls (TY cy) U ∧ va_D (fun _ => True) (wsM cy q M) ∧ SX q B U) → ((U.calling g mk a).heap.size = sz ∧ va_P D cls (wsM cy q M) (U.calling g mk a).heap ∧ va_K D cls (TY cy) (U.calling g mk a) ∧ va_D (fun _ => True) (wsM cy q M) ∧ SX q B (U.calling g mk a)) := fun a U g mk h => ⟨h.1, h.2.1, va_K.moved (u := U) (U := U.calling g mk a) (Vm.Alike.refl U.vm) h.2.2.1, h.2.2.2.1, sx_c h.2.2.2.2⟩
theorem gc_pre (hK : OK p s m args c D cy q A nL cc own) {H : Heap} {locs : List Loc} (hP : va_P D cls (wsM cy q M) H) (hD : va_D A (wsM cy q M)) (hS : va_S A s.heap H locs) : ∀ U : State, U.heap = H → s.WarmedH U.vm → (U.heap.size = H.size ∧ va_P D cls (wsM cy q M) U.heap ∧ va_K D cls (TY cy) U ∧ va_D (fun _ => True) (wsM cy q M) ∧ SX q (va_A (wsM cy q M) H.size) U) := fun U hU hW => ⟨by rw [hU], by rw [hU]; exact hP, va_K.moved hW.alike hK.2.1, hD.weaken (fun _ _ _ _ => trivial), sx_go hS (gA_in hD hS hK.2.2.2) hU hW hK.2.2.1⟩
theorem g_callV {pos ci kc N : Nat} {C : String} {T : u_T} (hK : OK p s m args c D cy q A nL cc own) (w : WV own idx y b n r) (md : MD y k) (hc : cells ≤ R.cells ∧ slots ≤ R.slots) (hR : d + 1 ≤ R.frames ∧ 8 + (n + 11) + 100 * d ≤ R.locals) (hk : (KDm M)[pos]? = some (kc, .inl ci)) (hcl : cls[ci]? = some (C, T, N)) (hC : y.cls = C) (dcd : decode cc pc = .ok (.invokevirtual idx, 3)) (hn : As.length = k) (hst : st0 = As.reverse ++ gR kc :: st) (hW : (st.map gw).sum ≤ 8)
    (hM : gCtr l y b n r d (gR kc :: As) M (fun v M1 => G p l e R s m args below meth c D cy q A cells slots nL Q (pc + 3) L (v.toList ++ st) M1)) : G p l e R s m args below meth c D cy q A cells slots nL Q pc L st0 M := by
  intro H locs ls hw hP hD hS hl
  refine g_run (wk_rV (As.map (cv q)) (st.map (cv q)) hK.1 hl.1 w md (hM D cy q H.size hw) ⟨rfl, rfl⟩ hR gc_bl (gc_pre hK hP hD hS) (by rw [hC]; exact va_recv hK.2.1 hP hcl (ws_at hk)) (by simpa using hn) ?_ (by rw [gcat]; exact hW) dcd ⟨by simpa using hc.1, by simpa using hc.2⟩) hS (gA_in hD hS hK.2.2.2) hl
  rw [hst]
  simp [cv, va_rf]
theorem g_callT (hK : OK p s m args c D cy q A nL cc own) (w : WT own idx y b n r) (md : MD y k) (hc : cells ≤ R.cells ∧ slots ≤ R.slots) (hR : d + 1 ≤ R.frames ∧ 8 + (n + 11) + 100 * d ≤ R.locals) (dcd : decode cc pc = .ok (.invokestatic idx, 3)) (hn : As.length = k) (hst : st0 = As.reverse ++ st) (hW : (st.map gw).sum ≤ 8)
    (hM : gCtr l y b n r d As M (fun v M1 => G p l e R s m args below meth c D cy q A cells slots nL Q (pc + 3) L (v.toList ++ st) M1)) : G p l e R s m args below meth c D cy q A cells slots nL Q pc L st0 M := by
  intro H locs ls hw hP hD hS hl
  refine g_run (wk_rT (As.map (cv q)) (st.map (cv q)) hK.1 hl.1 w md (hM D cy q H.size hw) ⟨rfl, rfl⟩ hR gc_bl (gc_pre hK hP hD hS) (by simpa using hn) ?_ (by rw [gcat]; exact hW) dcd ⟨by simpa using hc.1, by simpa using hc.2⟩) hS (gA_in hD hS hK.2.2.2) hl
  rw [hst]
  simp
theorem g_callTN (hK : OK p s m args c D cy q A nL cc own) (w : WTN own idx y b n r) (md : MD y k) (hc : cells ≤ R.cells ∧ slots ≤ R.slots) (hR : d + 1 ≤ R.frames ∧ 8 + (n + 11) + 100 * d ≤ R.locals) (dcd : decode cc pc = .ok (.invokestatic idx, 3)) (hn : As.length = k) (hst : st0 = As.reverse ++ st) (hW : (st.map gw).sum ≤ 8)
    (hM : gCtr l y b n r d As M (fun v M1 => G p l e R s m args below meth c D cy q A cells slots nL Q (pc + 3) L (v.toList ++ st) M1)) : G p l e R s m args below meth c D cy q A cells slots nL Q pc L st0 M := by
  intro H locs ls hw hP hD hS hl
  refine g_run (wk_rTN (As.map (cv q)) (st.map (cv q)) hK.1 hK.2.2.1.1 hl.1 w md (hM D cy q H.size hw) ⟨rfl, rfl⟩ hR gc_bl (gc_pre hK hP hD hS) (by simpa using hn) ?_ (by rw [gcat]; exact hW) dcd ⟨by simpa using hc.1, by simpa using hc.2⟩) hS (gA_in hD hS hK.2.2.2) hl
  rw [hst]
  simp
end CALLS
/-- rows copied -/
def cpf (f g : Nat → Int) (sp dp n : Nat) : Nat → Int := fun j => if dp ≤ j ∧ j < dp + n then f (sp + (j - dp)) else g j
def cp (M : Mem) (k : Nat) (f : Nat → Int) (sp dp n : Nat) : Mem := fun a => if a = k then cpf f (M k) sp dp n else M a
theorem cp_o {M : Mem} {k a sp dp n : Nat} {f : Nat → Int} (h : a ≠ k) : cp M k f sp dp n a = M a := by simp [cp, h]
theorem cp_k {M : Mem} {k sp dp n : Nat} {f : Nat → Int} : cp M k f sp dp n k = cpf f (M k) sp dp n := by simp [cp]
theorem cp_wf {M : Mem} (h : wf M) {k sp dp n : Nat} {f : Nat → Int} (h1 : k ∉ lkL → ∀ j, inI (f j)) (h2 : k ∈ lkL → ∀ j, inL (f j)) : wf (cp M k f sp dp n) := by
  intro a i
  by_cases ha : a = k
  · subst ha
    rw [cp_k]
    unfold cpf
    by_cases hi : dp ≤ i ∧ i < dp + n
    · rw [if_pos hi]; exact ⟨fun z => h1 z _, fun z => h2 z _⟩
    · rw [if_neg hi]; exact h a i
  · rw [cp_o ha]; exact h a i
theorem cp_z {M : Mem} {k sp dp n : Nat} {f : Nat → Int} (h : k ≠ KO) : cp M k f sp dp n KO FEW = 0 ↔ M KO FEW = 0 := by rw [cp_o (Ne.symm h)]
theorem nn_lt {x : Int} (h0 : 0 ≤ x) (h1 : x ≤ 1000000) : ¬ Int32.ofInt x < 0 := fun z => by
  have := (oi_lt (x := x) (y := 0) ⟨by omega, by omega⟩ (by decide)).mp z
  omega
abbrev WCP (own : String) (idx : Nat) : Prop := Cond.methodLink own idx arraycopyName ∈ BW ∧ Cond.native arraycopyName ∈ BW ∧ Cond.static arraycopyName ∈ BW ∧ Cond.initialized "java/lang/System" ∈ BW
theorem g_copyi {k0 k1 p0 p1 n0 n1 idx : Nat} {sp dp n : Int} (hK : OK p s m args c D cy q A nL cc own) (w : WCP own idx) (h0 : (KDm M)[p0]? = some (k0, .inr (0, n0))) (h1 : (KDm M)[p1]? = some (k1, .inr (0, n1))) (hl0 : k0 ∉ lkL) (hl1 : k1 ∉ lkL) (hne : k1 ≠ KO) (hn0 : n0 ≤ 1000000) (hn1 : n1 ≤ 1000000) (a1 : 0 ≤ sp) (a2 : 0 ≤ dp) (a3 : 0 ≤ n) (a4 : sp + n ≤ n0) (a5 : dp + n ≤ n1) (hR : 1 ≤ R.frames ∧ 40 ≤ R.locals) (hW : (st.map gw).sum ≤ 8) (d : decode cc pc = .ok (.invokestatic idx, 3))
    (k : G p l e R s m args below meth c D cy q A cells slots nL Q (pc + 3) L st (cp M k1 (M k0) sp.toNat dp.toNat n.toNat)) : G p l e R s m args below meth c D cy q A cells slots nL Q pc L (gI n :: gI dp :: gR k1 :: gI sp :: gR k0 :: st) M := by
  intro H locs ls hw hP hD hS hl
  have e1 := oi_nc a1 (by omega)
  have e2 := oi_nc a2 (by omega)
  have e3 := oi_nc a3 (by omega)
  have he : (wsM cy q M).set p1 (q k1, .inl (cy 0, n1, .inl (va_cpy (fun j => Int32.ofInt (M k0 j)) (fun j => Int32.ofInt (M k1 j)) (Int32.ofInt sp).toNatClampNeg (Int32.ofInt dp).toNatClampNeg (Int32.ofInt n).toNatClampNeg))) = wsM cy q (cp M k1 (M k0) sp.toNat dp.toNat n.toNat) := by
    rw [e1, e2, e3]
    refine ws_set h1 (fun a ha => cp_o ha) (cp_z hne) ?_
    show _ = Sum.inl (cy 0, n1, gA q (cp M k1 (M k0) sp.toNat dp.toNat n.toNat) k1 0)
    rw [gA_i (by decide) (by decide)]
    congr 3
    congr 1
    funext j
    rw [cp_k]
    unfold va_cpy cpf
    by_cases c1 : dp.toNat ≤ j ∧ j < dp.toNat + n.toNat
    · rw [if_pos c1, if_pos c1]
    · rw [if_neg c1, if_neg c1]
  refine va_copyi hK.1.1 hK.1.2.1 (hK.1.2.2.1.trans hl.1.symm) hK.1.2.2.2.1 (hK.1.2.2.2.2 _ w.1) (hK.1.2.2.2.2 _ w.2.1) (hK.1.2.2.2.2 _ w.2.2.1) (hK.1.2.2.2.2 _ w.2.2.2) hK.2.1 hP hD hS p0 p1 0 0 (f := fun j => Int32.ofInt (M k0 j)) (g := fun j => Int32.ofInt (M k1 j)) (ws_at h0) (ws_at h1) rfl rfl rfl (nn_lt a1 (by omega)) (nn_lt a2 (by omega)) (nn_lt a3 (by omega)) (by rw [e1, e3]; omega) (by rw [e2, e3]; omega) (fun _ _ => rfl) hR.1 (by rw [gcat]; exact Nat.le_trans (Nat.add_le_add_right hW _) (Nat.le_trans (by decide +kernel) hR.2)) d (fun H1 locs1 hP1 hD1 hS1 => ?_)
  rw [he] at hP1 hD1
  exact k H1 locs1 ls (cp_wf hw (fun _ j => wf_i hw hl0 j) (fun z => absurd z hl1)) hP1 hD1 hS1 hl
theorem g_copyl {k0 k1 p0 p1 n0 n1 idx : Nat} {sp dp n : Int} (hK : OK p s m args c D cy q A nL cc own) (w : WCP own idx) (h0 : (KDm M)[p0]? = some (k0, .inr (2, n0))) (h1 : (KDm M)[p1]? = some (k1, .inr (2, n1))) (hl0 : k0 ∈ lkL) (hl1 : k1 ∈ lkL) (hne : k1 ≠ KO) (hn0 : n0 ≤ 1000000) (hn1 : n1 ≤ 1000000) (a1 : 0 ≤ sp) (a2 : 0 ≤ dp) (a3 : 0 ≤ n) (a4 : sp + n ≤ n0) (a5 : dp + n ≤ n1) (hR : 1 ≤ R.frames ∧ 40 ≤ R.locals) (hW : (st.map gw).sum ≤ 8) (d : decode cc pc = .ok (.invokestatic idx, 3))
    (k : G p l e R s m args below meth c D cy q A cells slots nL Q (pc + 3) L st (cp M k1 (M k0) sp.toNat dp.toNat n.toNat)) : G p l e R s m args below meth c D cy q A cells slots nL Q pc L (gI n :: gI dp :: gR k1 :: gI sp :: gR k0 :: st) M := by
  intro H locs ls hw hP hD hS hl
  have e1 := oi_nc a1 (by omega)
  have e2 := oi_nc a2 (by omega)
  have e3 := oi_nc a3 (by omega)
  have he : (wsM cy q M).set p1 (q k1, .inl (cy 2, n1, .inr (.inl (va_cpy (fun j => Int64.ofInt (M k0 j)) (fun j => Int64.ofInt (M k1 j)) (Int32.ofInt sp).toNatClampNeg (Int32.ofInt dp).toNatClampNeg (Int32.ofInt n).toNatClampNeg)))) = wsM cy q (cp M k1 (M k0) sp.toNat dp.toNat n.toNat) := by
    rw [e1, e2, e3]
    refine ws_set h1 (fun a ha => cp_o ha) (cp_z hne) ?_
    show _ = Sum.inl (cy 2, n1, Sum.inr (Sum.inl (fun j => Int64.ofInt (cp M k1 (M k0) sp.toNat dp.toNat n.toNat k1 j))))
    congr 4
    congr 1
    funext j
    rw [cp_k]
    unfold va_cpy cpf
    by_cases c1 : dp.toNat ≤ j ∧ j < dp.toNat + n.toNat
    · rw [if_pos c1, if_pos c1]
    · rw [if_neg c1, if_neg c1]
  refine va_copyl hK.1.1 hK.1.2.1 (hK.1.2.2.1.trans hl.1.symm) hK.1.2.2.2.1 (hK.1.2.2.2.2 _ w.1) (hK.1.2.2.2.2 _ w.2.1) (hK.1.2.2.2.2 _ w.2.2.1) (hK.1.2.2.2.2 _ w.2.2.2) hK.2.1 hP hD hS p0 p1 2 2 (f := fun j => Int64.ofInt (M k0 j)) (g := fun j => Int64.ofInt (M k1 j)) (ws_at h0) (ws_at h1) rfl rfl rfl (nn_lt a1 (by omega)) (nn_lt a2 (by omega)) (nn_lt a3 (by omega)) (by rw [e1, e3]; omega) (by rw [e2, e3]; omega) (fun _ _ => rfl) hR.1 (by rw [gcat]; exact Nat.le_trans (Nat.add_le_add_right hW _) (Nat.le_trans (by decide +kernel) hR.2)) d (fun H1 locs1 hP1 hD1 hS1 => ?_)
  rw [he] at hP1 hD1
  exact k H1 locs1 ls (cp_wf hw (fun z => absurd hl1 z) (fun _ j => wf_l hw hl0 j)) hP1 hD1 hS1 hl
theorem g_copyx {k0 k1 p1 n0 n1 idx : Nat} {C nm : String} {f : Nat → Int} (i0 : Nat) (he0 : STs[i0]? = some (k0, C, nm, n0, f)) (hf0 : ∀ j, inI (f j)) {sp dp n : Int} (hK : OK p s m args c D cy q A nL cc own) (w : WCP own idx) (h1 : (KDm M)[p1]? = some (k1, .inr (0, n1))) (hl1 : k1 ∉ lkL) (hne : k1 ≠ KO) (hn0 : n0 ≤ 1000000) (hn1 : n1 ≤ 1000000) (a1 : 0 ≤ sp) (a2 : 0 ≤ dp) (a3 : 0 ≤ n) (a4 : sp + n ≤ n0) (a5 : dp + n ≤ n1) (hR : 1 ≤ R.frames ∧ 40 ≤ R.locals) (hW : (st.map gw).sum ≤ 8) (d : decode cc pc = .ok (.invokestatic idx, 3))
    (k : G p l e R s m args below meth c D cy q A cells slots nL Q (pc + 3) L st (cp M k1 f sp.toNat dp.toNat n.toNat)) : G p l e R s m args below meth c D cy q A cells slots nL Q pc L (gI n :: gI dp :: gR k1 :: gI sp :: gR k0 :: st) M := by
  intro H locs ls hw hP hD hS hl
  have e1 := oi_nc a1 (by omega)
  have e2 := oi_nc a2 (by omega)
  have e3 := oi_nc a3 (by omega)
  have he : (wsM cy q M).set p1 (q k1, .inl (cy 0, n1, .inl (va_cpy (fun j => Int32.ofInt (f j)) (fun j => Int32.ofInt (M k1 j)) (Int32.ofInt sp).toNatClampNeg (Int32.ofInt dp).toNatClampNeg (Int32.ofInt n).toNatClampNeg))) = wsM cy q (cp M k1 f sp.toNat dp.toNat n.toNat) := by
    rw [e1, e2, e3]
    refine ws_set h1 (fun a ha => cp_o ha) (cp_z hne) ?_
    show _ = Sum.inl (cy 0, n1, gA q (cp M k1 f sp.toNat dp.toNat n.toNat) k1 0)
    rw [gA_i (by decide) (by decide)]
    congr 3
    congr 1
    funext j
    rw [cp_k]
    unfold va_cpy cpf
    by_cases c1 : dp.toNat ≤ j ∧ j < dp.toNat + n.toNat
    · rw [if_pos c1, if_pos c1]
    · rw [if_neg c1, if_neg c1]
  obtain ⟨z1, z2, z3, z4⟩ := sx_at hK.2.2.1 i0 he0
  refine va_copyx hK.1.1 hK.1.2.1 (hK.1.2.2.1.trans hl.1.symm) hK.1.2.2.2.1 (hK.1.2.2.2.2 _ w.1) (hK.1.2.2.2.2 _ w.2.1) (hK.1.2.2.2.2 _ w.2.2.1) (hK.1.2.2.2.2 _ w.2.2.2) hK.2.1 hP hD hS z2 z3 z4 p1 0 (g := fun j => Int32.ofInt (M k1 j)) (ws_at h1) rfl (nn_lt a1 (by omega)) (nn_lt a2 (by omega)) (nn_lt a3 (by omega)) (by rw [e1, e3]; omega) (by rw [e2, e3]; omega) hR.1 (by rw [gcat]; exact Nat.le_trans (Nat.add_le_add_right hW _) (Nat.le_trans (by decide +kernel) hR.2)) d (fun H1 locs1 hP1 hD1 hS1 => ?_)
  rw [he] at hP1 hD1
  exact k H1 locs1 ls (cp_wf hw (fun _ j => hf0 j) (fun z => absurd z hl1)) hP1 hD1 hS1 hl
end GC
