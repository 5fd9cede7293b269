/-! the law: what its own instructions want -/
section GLW
variable {p : Program} {l : Launch} {e : Env} {R : Room} {s : State} {m : MethodId} {args : Array Value} {below : List Frame} {meth : Method} {c : Code} {D : va_G} {cy : Nat → ClassId} {q : Nat → Nat} {A : Nat → Prop} {cells slots nL : Nat} {Q : State → Prop} {cc : ByteArray} {own : String}
variable {pc : Nat} {L : List (Nat × gV)} {st : List gV} {M : Mem} {Pq : Option gV → Mem → Prop}
theorem g_scr (hK : OK p s m args c D cy q A nL cc own) {b Ln : Nat} {xs : Nat → Int32} {i : Int} (hX : va_X b Ln xs s s.heap) (hbl : b < s.heap.size) (hbA : ¬ A b) (hq : q 300 = b) (hn : Ln ≤ 1000000) (d : decode cc pc = .ok (.iaload, 1)) (h0 : 0 ≤ i) (h1 : i < Ln) (k : G p l e R s m args below meth c D cy q A cells slots nL Q (pc + 1) L (gI (xs i.toNat).toInt :: st) M) : G p l e R s m args below meth c D cy q A cells slots nL Q pc L (gI i :: gR 300 :: st) M := by
  intro H locs ls hw hP hD hS hl
  subst hq
  refine va_sld hK.1.1 hK.1.2.1 hX hbl hbA hS (oi_in h0 h1 hn) d ?_
  rw [oi_nc h0 (by omega)]
  exact wk_int (by rw [Int32.ofInt_toInt]) (k H locs ls hw hP hD hS hl)
theorem g_slen (hK : OK p s m args c D cy q A nL cc own) {b Ln : Nat} {xs : Nat → Int32} (hX : va_X b Ln xs s s.heap) (hbl : b < s.heap.size) (hbA : ¬ A b) (hq : q 300 = b) (d : decode cc pc = .ok (.arraylength, 1)) (k : G p l e R s m args below meth c D cy q A cells slots nL Q (pc + 1) L (gI (Ln : Int) :: st) M) : G p l e R s m args below meth c D cy q A cells slots nL Q pc L (gR 300 :: st) M := by
  intro H locs ls hw hP hD hS hl
  subst hq
  refine va_slen hK.1.1 hK.1.2.1 hX hbl hbA hS d ?_
  exact wk_int (by rw [Int32.ofInt_eq_ofNat]) (k H locs ls hw hP hD hS hl)
theorem g_same (hK : OK p s m args c D cy q A nL cc own) {x : Int} {off : Int} {tgt : Nat} (d : decode cc pc = .ok (.if_icmp .eq off, 3)) (ht : (pc : Int) + off = (tgt : Int)) (k : G p l e R s m args below meth c D cy q A cells slots nL Q tgt L st M) : G p l e R s m args below meth c D cy q A cells slots nL Q pc L (gI x :: gI x :: st) M := by
  intro H locs ls hw hP hD hS hl
  exact lv_icmp_eq hK.1.1 hK.1.2.1 d ht (fun _ => k H locs ls hw hP hD hS hl) (fun z => absurd rfl z)
theorem g_sameL (hK : OK p s m args c D cy q A nL cc own) {x : Int} (d : decode cc pc = .ok (.lcmp, 1)) (k : G p l e R s m args below meth c D cy q A cells slots nL Q (pc + 1) L (gI 0 :: st) M) : G p l e R s m args below meth c D cy q A cells slots nL Q pc L (gL x :: gL x :: st) M := by
  intro H locs ls hw hP hD hS hl
  refine W.lcmp hK.1.1 hK.1.2.1 d (wk_int ?_ (k H locs ls hw hP hD hS hl))
  unfold lg_cmp
  have h : ¬ Int64.ofInt x > Int64.ofInt x := fun z => by
    rw [gt_iff_lt, Int64.lt_iff_toInt_lt] at z
    omega
  rw [if_neg h, if_pos rfl]
  rfl
theorem g_runN {a : Array Value} {H : Heap} {locs : List Loc} {ls : Array Slot} {st0 : List Value} (hr : va_Run p l e R s m args below meth c H locs cells slots 1 310000 (F0 m pc ls st0) (st.map (cv q)) (gQcN D cy q (va_A (wsM cy q M) H.size) Pq a) (va_A (wsM cy q M) H.size)) (hS : va_S A s.heap H locs) (hin : ∀ a, va_A (wsM cy q M) H.size a → A a) (hl : lv_has ls nL (gM q L)) (hLq : ∀ q1 : Nat → Nat, (∀ k, k ≠ 251 → q1 k = q k) → gM q1 L = gM q L ∧ st.map (cv q1) = st.map (cv q))
    (hp : ∀ (q1 : Nat → Nat) (v : Option gV) (M1 : Mem), (∀ k, k ≠ 251 → q1 k = q k) → Pq v M1 → G p l e R s m args below meth c D cy q1 A (cells + 1) (slots + 310000) nL Q (pc + 3) L (v.toList ++ st) M1) : W p l e R s m args below meth c H locs cells slots Q (F0 m pc ls st0) := by
  intro T hT X
  obtain ⟨v, st₀, t, T', L1, h0, X', hL, e1, e2, ⟨⟨v1, M1, q1, hv, hp1, hq1, hw1, hP1, hD1⟩, hz, hk⟩, stp⟩ := hr T hT X
  obtain rfl : v = v1.map (cv q1) := by cases hv; rfl
  rw [h0] at hz hk
  rw [← e1] at hP1
  have hS1 : va_S A s.heap T'.heap (locs ++ L1) := ⟨Nat.le_trans hS.1 (by rw [e1]; exact hz), fun w h1 h2 => by rw [e1, hk w (Nat.lt_of_lt_of_le h1 hS.1) (fun z => h2 (hin w z))]; exact hS.2.1 w h1 h2, fun w hw => by
    rcases List.mem_append.mp hw with h | h
    · exact hS.2.2 w h
    · exact hin _ (hL w h)⟩
  have hD2 : va_D A (wsM cy q1 M1) := hD1.weaken (fun _ w _ h => hin _ h)
  have hgo := hp q1 v1 M1 hq1 hp1 T'.heap (locs ++ L1) ls hw1 hP1 hD2 hS1 (by rw [(hLq q1 hq1).1]; exact hl) T' rfl X'
  have he : (v1.toList ++ st).map (cv q1) = (v1.map (cv q1)).toList ++ st.map (cv q) := by
    cases v1 <;> simp [(hLq q1 hq1).2]
  rw [he] at hgo
  obtain ⟨t2, a1, b1⟩ := hgo
  exact ⟨t2, stp t2 a1, b1⟩
variable {y : MethodName} {bb : ByteArray} {n idx d k : Nat} {r : Option FieldType} {As st0 : List gV}
theorem g_callVN {pos ci kc N : Nat} {C : String} {T : u_T} (hK : OK p s m args c D cy q A nL cc own) (w : WV own idx y bb n r) (md : MD y k) (hc : cells + 1 ≤ R.cells ∧ slots + 310000 ≤ R.slots) (hR : d + 1 ≤ R.frames ∧ 8 + (n + 11) + 100 * d ≤ R.locals) (hk : (KDm M)[pos]? = some (kc, .inl ci)) (hcl : cls[ci]? = some (C, T, N)) (hC : y.cls = C) (dcd : decode cc pc = .ok (.invokevirtual idx, 3)) (hn : As.length = k) (hst : st0 = As.reverse ++ gR kc :: st) (hW : (st.map gw).sum ≤ 8)
    (hLq : ∀ q1 : Nat → Nat, (∀ k, k ≠ 251 → q1 k = q k) → gM q1 L = gM q L ∧ st.map (cv q1) = st.map (cv q))
    (hM : gCtrN l y bb n r d (gR kc :: As) M Pq)
    (hp : ∀ (q1 : Nat → Nat) (v : Option gV) (M1 : Mem), (∀ k, k ≠ 251 → q1 k = q k) → Pq v M1 → G p l e R s m args below meth c D cy q1 A (cells + 1) (slots + 310000) nL Q (pc + 3) L (v.toList ++ st) M1) : G p l e R s m args below meth c D cy q A cells slots nL Q pc L st0 M := by
  intro H locs ls hw hP hD hS hl
  refine g_runN (wk_rV (As.map (cv q)) (st.map (cv q)) hK.1 hl.1 w md (hM D cy q H.size hw) ⟨rfl, rfl⟩ hR gc_bl (gc_pre hK hP hD hS) (by rw [hC]; exact va_recv hK.2.1 hP hcl (ws_at hk)) (by simpa using hn) ?_ (by rw [gcat]; exact hW) dcd hc) hS (gA_in hD hS hK.2.2.2) hl hLq hp
  rw [hst]
  simp [cv, va_rf]
end GLW
theorem jand63 (x : Int) : 0 ≤ jand x 63 ∧ jand x 63 ≤ 63 := by
  unfold jand
  have e : (Int32.ofInt x &&& Int32.ofInt 63).toBitVec.toNat ≤ 63 := by
    rw [Int32.toBitVec_and, BitVec.toNat_and]
    exact Nat.and_le_right
  rw [i32_nat (by omega)]
  omega
