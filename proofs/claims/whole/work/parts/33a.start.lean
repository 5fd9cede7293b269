section STA
variable {s : State} {b : Nat}
theorem tb_bw (hts : ∀ w ∈ lw_tbl, w.before #[Value.ref b] s = true) : ∀ w ∈ BW, w.before #[Value.ref b] s = true := fun w h => hts w (List.mem_filter.mp h).1
set_option maxRecDepth 100000 in
theorem nn_in : ∀ q ∈ NNl, Cond.methodLinkNest q.1 q.2.1 q.2.2 "WhiteElephants" ∈ lw_tbl := by decide +kernel
theorem nn_start (hts : ∀ w ∈ lw_tbl, w.before #[Value.ref b] s = true) : NN s := fun q hq => va_Nw.of rfl (hts _ (nn_in q hq))
theorem ao_start (hts : ∀ w ∈ lw_tbl, w.before #[Value.ref b] s = true) : va_AO "WhiteElephants$Shelf" s := va_AO.of (hts (.arrayOver (.object "WhiteElephants$Shelf")) (List.mem_of_getElem? (i := 91) (by decide +kernel)))
theorem ar_start (a : ArrayType) (h : (Cond.arrayClass (newarray.typeOf a)).before #[Value.ref b] s = true) : ∃ cA : ClassId, ArrOfT s cA (newarray.typeOf a) ∧ va_RA s cA (newarray.typeOf a) := by
  obtain ⟨cA, kA, comp, h1, h2, h3⟩ := Cond.arrayClass_spec h
  exact ⟨cA, fun n z => ⟨fun k h => (by cases h), kA, h2, comp, h3⟩, by cases a <;> exact h1⟩
set_option maxRecDepth 100000 in
theorem k_start (hts : ∀ w ∈ lw_tbl, w.before #[Value.ref b] s = true) : ∃ D : va_G, ∀ (k : Nat) (q : vw_C), cls[k]? = some q → u_Kn s q.1 q.2.1 q.2.2 (D.1 k) (D.2 k) := by
  obtain ⟨c0, i0, h0⟩ := u_known (C := "WhiteElephants$Buyers") (T := ET0) (N := 6) (n := 6) (tb_bw hts) ef_0.1 (hts (.instantiable "WhiteElephants$Buyers" 6) (List.mem_of_getElem? (i := 214) (by decide +kernel)))
  obtain ⟨c1, i1, h1⟩ := u_known (C := "WhiteElephants$Hall") (T := ET1) (N := 14) (n := 14) (tb_bw hts) ef_1.1 (hts (.instantiable "WhiteElephants$Hall" 14) (List.mem_of_getElem? (i := 115) (by decide +kernel)))
  obtain ⟨c2, i2, h2⟩ := u_known (C := "WhiteElephants$Ladies") (T := ET2) (N := 4) (n := 4) (tb_bw hts) ef_2.1 (hts (.instantiable "WhiteElephants$Ladies" 4) (List.mem_of_getElem? (i := 171) (by decide +kernel)))
  obtain ⟨c3, i3, h3⟩ := u_known (C := "WhiteElephants$Laws") (T := ET3) (N := 3) (n := 3) (tb_bw hts) ef_3.1 (hts (.instantiable "WhiteElephants$Laws" 3) (List.mem_of_getElem? (i := 196) (by decide +kernel)))
  obtain ⟨c4, i4, h4⟩ := u_known (C := "WhiteElephants$Picks") (T := ET4) (N := 2) (n := 2) (tb_bw hts) ef_4.1 (hts (.instantiable "WhiteElephants$Picks" 2) (List.mem_of_getElem? (i := 411) (by decide +kernel)))
  obtain ⟨c5, i5, h5⟩ := u_known (C := "WhiteElephants$Sale") (T := ET5) (N := 9) (n := 9) (tb_bw hts) ef_5.1 (hts (.instantiable "WhiteElephants$Sale" 9) (List.mem_of_getElem? (i := 377) (by decide +kernel)))
  obtain ⟨c6, i6, h6⟩ := u_known (C := "WhiteElephants$Secrets") (T := ET6) (N := 9) (n := 9) (tb_bw hts) ef_6.1 (hts (.instantiable "WhiteElephants$Secrets" 9) (List.mem_of_getElem? (i := 283) (by decide +kernel)))
  obtain ⟨c7, i7, h7⟩ := u_known (C := "WhiteElephants$Shelf") (T := ET7) (N := 3) (n := 3) (tb_bw hts) ef_7.1 (hts (.instantiable "WhiteElephants$Shelf" 3) (List.mem_of_getElem? (i := 423) (by decide +kernel)))
  obtain ⟨c8, i8, h8⟩ := u_known (C := "WhiteElephants$Sightings") (T := ET8) (N := 8) (n := 8) (tb_bw hts) ef_8.1 (hts (.instantiable "WhiteElephants$Sightings" 8) (List.mem_of_getElem? (i := 251) (by decide +kernel)))
  obtain ⟨c9, i9, h9⟩ := u_known (C := "WhiteElephants$Tape") (T := ET9) (N := 4) (n := 4) (tb_bw hts) ef_9.1 (hts (.instantiable "WhiteElephants$Tape" 4) (List.mem_of_getElem? (i := 93) (by decide +kernel)))
  obtain ⟨c10, i10, h10⟩ := u_known (C := "WhiteElephants$Things") (T := ET10) (N := 8) (n := 8) (tb_bw hts) ef_10.1 (hts (.instantiable "WhiteElephants$Things" 8) (List.mem_of_getElem? (i := 121) (by decide +kernel)))
  obtain ⟨c11, i11, h11⟩ := u_known (C := "WhiteElephants") (T := ET11) (N := 8) (n := 8) (tb_bw hts) ef_11.1 (hts (.instantiable "WhiteElephants" 8) (List.mem_of_getElem? (i := 83) (by decide +kernel)))
  obtain ⟨c12, i12, h12⟩ := u_known (C := "WhiteElephantsModel") (T := ET12) (N := 51) (n := 51) (tb_bw hts) ef_12.1 (hts (.instantiable "WhiteElephantsModel" 51) (List.mem_of_getElem? (i := 1156) (by decide +kernel)))
  refine ⟨(fun k => ([c0, c1, c2, c3, c4, c5, c6, c7, c8, c9, c10, c11, c12] : List ClassId).getD k 0, fun k => ([i0, i1, i2, i3, i4, i5, i6, i7, i8, i9, i10, i11, i12] : List (Nat → Nat)).getD k (fun _ => 0)), ?_⟩
  intro k q hq
  match k, hq with
  | 0, hq => cases hq; exact h0
  | 1, hq => cases hq; exact h1
  | 2, hq => cases hq; exact h2
  | 3, hq => cases hq; exact h3
  | 4, hq => cases hq; exact h4
  | 5, hq => cases hq; exact h5
  | 6, hq => cases hq; exact h6
  | 7, hq => cases hq; exact h7
  | 8, hq => cases hq; exact h8
  | 9, hq => cases hq; exact h9
  | 10, hq => cases hq; exact h10
  | 11, hq => cases hq; exact h11
  | 12, hq => cases hq; exact h12
  | k + 13, hq => simp [cls] at hq
theorem len_small {tm : Term} {args : Array Value} {k : Int32} {t : Addr} {cell : Cell} (ht : tm.eval args s none [] s = some (.ref t)) (hat : s.arrayAt? t = some cell) (hlen : (Term.length tm).eval args s none [] s = some (.int k)) : cell.slots.size < 2 ^ 31 := by
  simp only [Term.eval, ht, hat, Option.bind_eq_bind, Option.bind_some] at hlen
  by_cases hlt : cell.slots.size < 2147483648
  · exact hlt
  · simp [hlt] at hlen
theorem at1 {A : Nat → Prop} {C n : String} {N : Nat} {f : Nat → Int} (hN : N < 2 ^ 31) (hlay : (Cond.laysStatic C n "[I").before #[Value.ref b] s = true) (hini : (Cond.initialized C).before #[Value.ref b] s = true) (harr : (Cond.arrayOf (.static C n "[I") .int).before #[Value.ref b] s = true) (hl : (Cond.eq (.length (.static C n "[I")) (.int (Int32.ofNat N))).before #[Value.ref b] s = true) (hel : ∀ j : Nat, j < N → (Cond.eq (.elem (.static C n "[I") (.int (Int32.ofNat j))) (.int (Int32.ofInt (f j)))).before #[Value.ref b] s = true) (hA : ∀ a : Nat, a < s.heap.size → ¬ A a) : ∃ t : Nat, AT t C n N f A s := by
  have hlen : (Term.length (.static C n "[I")).eval #[Value.ref b] s none [] s = some (.int (Int32.ofNat N)) := va_eqt hl
  obtain ⟨t, ht, cell1, hc1, -, -, -, -, hv1, hnA⟩ := va_Tof (ty := .int) (N := N) (f := fun j => .int (Int32.ofInt (f j))) hN harr hlen (fun j hj => va_eqt (hel j hj)) hA
  have hlen2 := hlen
  obtain ⟨t2, cell, ht2, hat, hv⟩ := Term.length_spec hlen
  cases ht.symm.trans ht2
  obtain ⟨hcell, hkn, -, -⟩ := State.arrayAt?_spec hat
  obtain ⟨hof, -⟩ := Cond.arrayOf_spec harr ht hcell
  have e1 : cell1 = cell := Option.some.inj (hc1.symm.trans hcell)
  subst e1
  have hsz : cell1.slots.size < 2 ^ 31 := len_small ht hat hlen2
  have hs5 : cell1.slots.size = N := by
    have e2 : (nI N).toInt = (nI cell1.slots.size).toInt := congrArg Int32.toInt (Value.int.inj hv)
    rw [nI_toInt hN, nI_toInt hsz] at e2
    omega
  exact ⟨t, va_Zref hlay hini ht hA, ⟨cell1, hcell, hof, hkn, hs5, hv1⟩, (Array.getElem?_eq_some_iff.mp hcell).1, hnA⟩
theorem str1 {A : Nat → Prop} {C : String} {i n : Nat} {f : Nat → Int} (hn : n < 2 ^ 31) (hex : (Cond.exactly (.string C i) "java/lang/String").before #[Value.ref b] s = true) (hco : (Cond.eq (.field (.string C i) "java/lang/String" "coder" "B") (.int 0)).before #[Value.ref b] s = true) (har : (Cond.arrayOf (.field (.string C i) "java/lang/String" "value" "[B") .byte).before #[Value.ref b] s = true) (hle : (Cond.eq (.length (.field (.string C i) "java/lang/String" "value" "[B")) (.int (Int32.ofNat n))).before #[Value.ref b] s = true) (hel : ∀ j : Nat, j < n → (Cond.eq (.elem (.field (.string C i) "java/lang/String" "value" "[B") (.int (Int32.ofNat j))) (.int (Int32.ofInt (f j)))).before #[Value.ref b] s = true) (hA : ∀ a : Nat, a < s.heap.size → ¬ A a) : ∃ w : Nat, ST w n f A s ∧ (Term.string C i).eval #[Value.ref b] s none [] s = some (.ref w) := by
  obtain ⟨a, c, cA, kA, q1, q2, q3, q4, q5, q6, -⟩ := Cond.exactly_spec (args := #[Value.ref b]) (first := s) (o := none) (s := s) (idx := []) (t := .string C i) (cls := "java/lang/String") hex
  obtain ⟨t, ht, hT⟩ := va_Tof (f := fun j => .int (Int32.ofInt (f j))) (A := A) hn har (va_eqt hle) (fun j hj => va_eqt (hel j hj)) hA
  exact ⟨a, ⟨⟨cA, q3, q5, by rw [q6]; exact q2, hA a (Array.getElem?_eq_some_iff.mp q3).1⟩, vk_OFof q1 (va_eqt hco) hA, t, vk_OFof q1 ht hA, hT⟩, q1⟩
theorem at_400 {A : Nat → Prop} (hts : ∀ w ∈ lw_tbl, w.before #[Value.ref b] s = true) (hgv : (Jvm.Cond.and given_1 narrow_1).before #[Value.ref b] s = true) (hA : ∀ a : Nat, a < s.heap.size → ¬ A a) : ∃ t : Nat, AT t "WhiteElephants$Laws" "AT_FIRST" 5 (fun j => ([100, 50, 1, 0, 999] : List Int).getD j 0) A s := by
  have fl := flat_of_before _ hgv
  refine at1 (by decide) (hts (.laysStatic "WhiteElephants$Laws" "AT_FIRST" "[I") (List.mem_of_getElem? (i := 671) (by decide +kernel))) (hts (.initialized "WhiteElephants$Laws") (List.mem_of_getElem? (i := 66) (by decide +kernel))) (fl (Cond.arrayOf (.static "WhiteElephants$Laws" "AT_FIRST" "[I") .int) (by decide +kernel)) (fl (Cond.eq (.length (.static "WhiteElephants$Laws" "AT_FIRST" "[I")) (.int 5)) (by decide +kernel)) (fun j hj => ?_) hA
  · 
    match j, hj with
    | 0, _ => exact fl (Cond.eq (.elem (.static "WhiteElephants$Laws" "AT_FIRST" "[I") (.int 0)) (.int 100)) (by decide +kernel)
    | 1, _ => exact fl (Cond.eq (.elem (.static "WhiteElephants$Laws" "AT_FIRST" "[I") (.int 1)) (.int 50)) (by decide +kernel)
    | 2, _ => exact fl (Cond.eq (.elem (.static "WhiteElephants$Laws" "AT_FIRST" "[I") (.int 2)) (.int 1)) (by decide +kernel)
    | 3, _ => exact fl (Cond.eq (.elem (.static "WhiteElephants$Laws" "AT_FIRST" "[I") (.int 3)) (.int 0)) (by decide +kernel)
    | 4, _ => exact fl (Cond.eq (.elem (.static "WhiteElephants$Laws" "AT_FIRST" "[I") (.int 4)) (.int 999)) (by decide +kernel)
    | j + 5, hj => exact absurd hj (by omega)
theorem at_401 {A : Nat → Prop} (hts : ∀ w ∈ lw_tbl, w.before #[Value.ref b] s = true) (hgv : (Jvm.Cond.and given_1 narrow_1).before #[Value.ref b] s = true) (hA : ∀ a : Nat, a < s.heap.size → ¬ A a) : ∃ t : Nat, AT t "WhiteElephants$Laws" "AT_LEAST" 5 (fun j => ([0, 0, 1, 0, 0] : List Int).getD j 0) A s := by
  have fl := flat_of_before _ hgv
  refine at1 (by decide) (hts (.laysStatic "WhiteElephants$Laws" "AT_LEAST" "[I") (List.mem_of_getElem? (i := 752) (by decide +kernel))) (hts (.initialized "WhiteElephants$Laws") (List.mem_of_getElem? (i := 66) (by decide +kernel))) (fl (Cond.arrayOf (.static "WhiteElephants$Laws" "AT_LEAST" "[I") .int) (by decide +kernel)) (fl (Cond.eq (.length (.static "WhiteElephants$Laws" "AT_LEAST" "[I")) (.int 5)) (by decide +kernel)) (fun j hj => ?_) hA
  · 
    match j, hj with
    | 0, _ => exact fl (Cond.eq (.elem (.static "WhiteElephants$Laws" "AT_LEAST" "[I") (.int 0)) (.int 0)) (by decide +kernel)
    | 1, _ => exact fl (Cond.eq (.elem (.static "WhiteElephants$Laws" "AT_LEAST" "[I") (.int 1)) (.int 0)) (by decide +kernel)
    | 2, _ => exact fl (Cond.eq (.elem (.static "WhiteElephants$Laws" "AT_LEAST" "[I") (.int 2)) (.int 1)) (by decide +kernel)
    | 3, _ => exact fl (Cond.eq (.elem (.static "WhiteElephants$Laws" "AT_LEAST" "[I") (.int 3)) (.int 0)) (by decide +kernel)
    | 4, _ => exact fl (Cond.eq (.elem (.static "WhiteElephants$Laws" "AT_LEAST" "[I") (.int 4)) (.int 0)) (by decide +kernel)
    | j + 5, hj => exact absurd hj (by omega)
theorem at_402 {A : Nat → Prop} (hts : ∀ w ∈ lw_tbl, w.before #[Value.ref b] s = true) (hgv : (Jvm.Cond.and given_1 narrow_1).before #[Value.ref b] s = true) (hA : ∀ a : Nat, a < s.heap.size → ¬ A a) : ∃ t : Nat, AT t "WhiteElephants$Laws" "AT_MOST" 5 (fun j => ([200, 200, 50, 999, 999] : List Int).getD j 0) A s := by
  have fl := flat_of_before _ hgv
  refine at1 (by decide) (hts (.laysStatic "WhiteElephants$Laws" "AT_MOST" "[I") (List.mem_of_getElem? (i := 754) (by decide +kernel))) (hts (.initialized "WhiteElephants$Laws") (List.mem_of_getElem? (i := 66) (by decide +kernel))) (fl (Cond.arrayOf (.static "WhiteElephants$Laws" "AT_MOST" "[I") .int) (by decide +kernel)) (fl (Cond.eq (.length (.static "WhiteElephants$Laws" "AT_MOST" "[I")) (.int 5)) (by decide +kernel)) (fun j hj => ?_) hA
  · 
    match j, hj with
    | 0, _ => exact fl (Cond.eq (.elem (.static "WhiteElephants$Laws" "AT_MOST" "[I") (.int 0)) (.int 200)) (by decide +kernel)
    | 1, _ => exact fl (Cond.eq (.elem (.static "WhiteElephants$Laws" "AT_MOST" "[I") (.int 1)) (.int 200)) (by decide +kernel)
    | 2, _ => exact fl (Cond.eq (.elem (.static "WhiteElephants$Laws" "AT_MOST" "[I") (.int 2)) (.int 50)) (by decide +kernel)
    | 3, _ => exact fl (Cond.eq (.elem (.static "WhiteElephants$Laws" "AT_MOST" "[I") (.int 3)) (.int 999)) (by decide +kernel)
    | 4, _ => exact fl (Cond.eq (.elem (.static "WhiteElephants$Laws" "AT_MOST" "[I") (.int 4)) (.int 999)) (by decide +kernel)
    | j + 5, hj => exact absurd hj (by omega)
theorem at_403 {A : Nat → Prop} (hts : ∀ w ∈ lw_tbl, w.before #[Value.ref b] s = true) (hgv : (Jvm.Cond.and given_1 narrow_1).before #[Value.ref b] s = true) (hA : ∀ a : Nat, a < s.heap.size → ¬ A a) : ∃ t : Nat, AT t "WhiteElephants$Things" "UNDER" 6 (fun j => ([-1, 0, 1, 2, 0, 0] : List Int).getD j 0) A s := by
  have fl := flat_of_before _ hgv
  refine at1 (by decide) (hts (.laysStatic "WhiteElephants$Things" "UNDER" "[I") (List.mem_of_getElem? (i := 562) (by decide +kernel))) (hts (.initialized "WhiteElephants$Things") (List.mem_of_getElem? (i := 64) (by decide +kernel))) (fl (Cond.arrayOf (.static "WhiteElephants$Things" "UNDER" "[I") .int) (by decide +kernel)) (fl (Cond.eq (.length (.static "WhiteElephants$Things" "UNDER" "[I")) (.int 6)) (by decide +kernel)) (fun j hj => ?_) hA
  · 
    match j, hj with
    | 0, _ => exact fl (Cond.eq (.elem (.static "WhiteElephants$Things" "UNDER" "[I") (.int 0)) (.int (-1))) (by decide +kernel)
    | 1, _ => exact fl (Cond.eq (.elem (.static "WhiteElephants$Things" "UNDER" "[I") (.int 1)) (.int 0)) (by decide +kernel)
    | 2, _ => exact fl (Cond.eq (.elem (.static "WhiteElephants$Things" "UNDER" "[I") (.int 2)) (.int 1)) (by decide +kernel)
    | 3, _ => exact fl (Cond.eq (.elem (.static "WhiteElephants$Things" "UNDER" "[I") (.int 3)) (.int 2)) (by decide +kernel)
    | 4, _ => exact fl (Cond.eq (.elem (.static "WhiteElephants$Things" "UNDER" "[I") (.int 4)) (.int 0)) (by decide +kernel)
    | 5, _ => exact fl (Cond.eq (.elem (.static "WhiteElephants$Things" "UNDER" "[I") (.int 5)) (.int 0)) (by decide +kernel)
    | j + 6, hj => exact absurd hj (by omega)
theorem at_404 {A : Nat → Prop} (hts : ∀ w ∈ lw_tbl, w.before #[Value.ref b] s = true) (hgv : (Jvm.Cond.and given_1 narrow_1).before #[Value.ref b] s = true) (hA : ∀ a : Nat, a < s.heap.size → ¬ A a) : ∃ t : Nat, AT t "WhiteElephants$Things" "LIKED" 3 (fun j => ([63, 48, 14] : List Int).getD j 0) A s := by
  have fl := flat_of_before _ hgv
  refine at1 (by decide) (hts (.laysStatic "WhiteElephants$Things" "LIKED" "[I") (List.mem_of_getElem? (i := 1100) (by decide +kernel))) (hts (.initialized "WhiteElephants$Things") (List.mem_of_getElem? (i := 64) (by decide +kernel))) (fl (Cond.arrayOf (.static "WhiteElephants$Things" "LIKED" "[I") .int) (by decide +kernel)) (fl (Cond.eq (.length (.static "WhiteElephants$Things" "LIKED" "[I")) (.int 3)) (by decide +kernel)) (fun j hj => ?_) hA
  · 
    match j, hj with
    | 0, _ => exact fl (Cond.eq (.elem (.static "WhiteElephants$Things" "LIKED" "[I") (.int 0)) (.int 63)) (by decide +kernel)
    | 1, _ => exact fl (Cond.eq (.elem (.static "WhiteElephants$Things" "LIKED" "[I") (.int 1)) (.int 48)) (by decide +kernel)
    | 2, _ => exact fl (Cond.eq (.elem (.static "WhiteElephants$Things" "LIKED" "[I") (.int 2)) (.int 14)) (by decide +kernel)
    | j + 3, hj => exact absurd hj (by omega)
theorem tx_410 {A : Nat → Prop} (hts : ∀ w ∈ lw_tbl, w.before #[Value.ref b] s = true) (hgv : (Jvm.Cond.and given_1 narrow_1).before #[Value.ref b] s = true) (hA : ∀ a : Nat, a < s.heap.size → ¬ A a) : ∃ w : Nat, vk_R "WhiteElephants$Tape" 55 "known" w s ∧ ST w 5 (fun j => ([107, 110, 111, 119, 110] : List Int).getD j 0) A s := by
  have fl := flat_of_before _ hgv
  obtain ⟨w, h1, h2⟩ := str1 (C := "WhiteElephants$Tape") (i := 55) (n := 5) (f := fun j => ([107, 110, 111, 119, 110] : List Int).getD j 0) (A := A) (b := b) (s := s) (by decide) (fl (Cond.exactly (.string "WhiteElephants$Tape" 55) "java/lang/String") (by decide +kernel)) (fl (Cond.eq (.field (.string "WhiteElephants$Tape" 55) "java/lang/String" "coder" "B") (.int 0)) (by decide +kernel)) (fl (Cond.arrayOf (.field (.string "WhiteElephants$Tape" 55) "java/lang/String" "value" "[B") .byte) (by decide +kernel)) (fl (Cond.eq (.length (.field (.string "WhiteElephants$Tape" 55) "java/lang/String" "value" "[B")) (.int 5)) (by decide +kernel)) (fun j hj => by
    match j, hj with
    | 0, _ => exact fl (Cond.eq (.elem (.field (.string "WhiteElephants$Tape" 55) "java/lang/String" "value" "[B") (.int 0)) (.int 107)) (by decide +kernel)
    | 1, _ => exact fl (Cond.eq (.elem (.field (.string "WhiteElephants$Tape" 55) "java/lang/String" "value" "[B") (.int 1)) (.int 110)) (by decide +kernel)
    | 2, _ => exact fl (Cond.eq (.elem (.field (.string "WhiteElephants$Tape" 55) "java/lang/String" "value" "[B") (.int 2)) (.int 111)) (by decide +kernel)
    | 3, _ => exact fl (Cond.eq (.elem (.field (.string "WhiteElephants$Tape" 55) "java/lang/String" "value" "[B") (.int 3)) (.int 119)) (by decide +kernel)
    | 4, _ => exact fl (Cond.eq (.elem (.field (.string "WhiteElephants$Tape" 55) "java/lang/String" "value" "[B") (.int 4)) (.int 110)) (by decide +kernel)
    | j + 5, hj => exact absurd hj (by omega)) hA
  exact ⟨w, vk_R.of (hts (.stringRef "WhiteElephants$Tape" 55 "known") (List.mem_of_getElem? (i := 687) (by decide +kernel))) h2, h1⟩
theorem tx_411 {A : Nat → Prop} (hts : ∀ w ∈ lw_tbl, w.before #[Value.ref b] s = true) (hgv : (Jvm.Cond.and given_1 narrow_1).before #[Value.ref b] s = true) (hA : ∀ a : Nat, a < s.heap.size → ¬ A a) : ∃ w : Nat, vk_R "WhiteElephants$Tape" 61 "strange" w s ∧ ST w 7 (fun j => ([115, 116, 114, 97, 110, 103, 101] : List Int).getD j 0) A s := by
  have fl := flat_of_before _ hgv
  obtain ⟨w, h1, h2⟩ := str1 (C := "WhiteElephants$Tape") (i := 61) (n := 7) (f := fun j => ([115, 116, 114, 97, 110, 103, 101] : List Int).getD j 0) (A := A) (b := b) (s := s) (by decide) (fl (Cond.exactly (.string "WhiteElephants$Tape" 61) "java/lang/String") (by decide +kernel)) (fl (Cond.eq (.field (.string "WhiteElephants$Tape" 61) "java/lang/String" "coder" "B") (.int 0)) (by decide +kernel)) (fl (Cond.arrayOf (.field (.string "WhiteElephants$Tape" 61) "java/lang/String" "value" "[B") .byte) (by decide +kernel)) (fl (Cond.eq (.length (.field (.string "WhiteElephants$Tape" 61) "java/lang/String" "value" "[B")) (.int 7)) (by decide +kernel)) (fun j hj => by
    match j, hj with
    | 0, _ => exact fl (Cond.eq (.elem (.field (.string "WhiteElephants$Tape" 61) "java/lang/String" "value" "[B") (.int 0)) (.int 115)) (by decide +kernel)
    | 1, _ => exact fl (Cond.eq (.elem (.field (.string "WhiteElephants$Tape" 61) "java/lang/String" "value" "[B") (.int 1)) (.int 116)) (by decide +kernel)
    | 2, _ => exact fl (Cond.eq (.elem (.field (.string "WhiteElephants$Tape" 61) "java/lang/String" "value" "[B") (.int 2)) (.int 114)) (by decide +kernel)
    | 3, _ => exact fl (Cond.eq (.elem (.field (.string "WhiteElephants$Tape" 61) "java/lang/String" "value" "[B") (.int 3)) (.int 97)) (by decide +kernel)
    | 4, _ => exact fl (Cond.eq (.elem (.field (.string "WhiteElephants$Tape" 61) "java/lang/String" "value" "[B") (.int 4)) (.int 110)) (by decide +kernel)
    | 5, _ => exact fl (Cond.eq (.elem (.field (.string "WhiteElephants$Tape" 61) "java/lang/String" "value" "[B") (.int 5)) (.int 103)) (by decide +kernel)
    | 6, _ => exact fl (Cond.eq (.elem (.field (.string "WhiteElephants$Tape" 61) "java/lang/String" "value" "[B") (.int 6)) (.int 101)) (by decide +kernel)
    | j + 7, hj => exact absurd hj (by omega)) hA
  exact ⟨w, vk_R.of (hts (.stringRef "WhiteElephants$Tape" 61 "strange") (List.mem_of_getElem? (i := 740) (by decide +kernel))) h2, h1⟩
theorem tx_412 {A : Nat → Prop} (hts : ∀ w ∈ lw_tbl, w.before #[Value.ref b] s = true) (hgv : (Jvm.Cond.and given_1 narrow_1).before #[Value.ref b] s = true) (hA : ∀ a : Nat, a < s.heap.size → ¬ A a) : ∃ w : Nat, vk_R "WhiteElephants$Tape" 63 "round" w s ∧ ST w 5 (fun j => ([114, 111, 117, 110, 100] : List Int).getD j 0) A s := by
  have fl := flat_of_before _ hgv
  obtain ⟨w, h1, h2⟩ := str1 (C := "WhiteElephants$Tape") (i := 63) (n := 5) (f := fun j => ([114, 111, 117, 110, 100] : List Int).getD j 0) (A := A) (b := b) (s := s) (by decide) (fl (Cond.exactly (.string "WhiteElephants$Tape" 63) "java/lang/String") (by decide +kernel)) (fl (Cond.eq (.field (.string "WhiteElephants$Tape" 63) "java/lang/String" "coder" "B") (.int 0)) (by decide +kernel)) (fl (Cond.arrayOf (.field (.string "WhiteElephants$Tape" 63) "java/lang/String" "value" "[B") .byte) (by decide +kernel)) (fl (Cond.eq (.length (.field (.string "WhiteElephants$Tape" 63) "java/lang/String" "value" "[B")) (.int 5)) (by decide +kernel)) (fun j hj => by
    match j, hj with
    | 0, _ => exact fl (Cond.eq (.elem (.field (.string "WhiteElephants$Tape" 63) "java/lang/String" "value" "[B") (.int 0)) (.int 114)) (by decide +kernel)
    | 1, _ => exact fl (Cond.eq (.elem (.field (.string "WhiteElephants$Tape" 63) "java/lang/String" "value" "[B") (.int 1)) (.int 111)) (by decide +kernel)
    | 2, _ => exact fl (Cond.eq (.elem (.field (.string "WhiteElephants$Tape" 63) "java/lang/String" "value" "[B") (.int 2)) (.int 117)) (by decide +kernel)
    | 3, _ => exact fl (Cond.eq (.elem (.field (.string "WhiteElephants$Tape" 63) "java/lang/String" "value" "[B") (.int 3)) (.int 110)) (by decide +kernel)
    | 4, _ => exact fl (Cond.eq (.elem (.field (.string "WhiteElephants$Tape" 63) "java/lang/String" "value" "[B") (.int 4)) (.int 100)) (by decide +kernel)
    | j + 5, hj => exact absurd hj (by omega)) hA
  exact ⟨w, vk_R.of (hts (.stringRef "WhiteElephants$Tape" 63 "round") (List.mem_of_getElem? (i := 741) (by decide +kernel))) h2, h1⟩
theorem tx_413 {A : Nat → Prop} (hts : ∀ w ∈ lw_tbl, w.before #[Value.ref b] s = true) (hgv : (Jvm.Cond.and given_1 narrow_1).before #[Value.ref b] s = true) (hA : ∀ a : Nat, a < s.heap.size → ¬ A a) : ∃ w : Nat, vk_R "WhiteElephants$Tape" 65 "least" w s ∧ ST w 5 (fun j => ([108, 101, 97, 115, 116] : List Int).getD j 0) A s := by
  have fl := flat_of_before _ hgv
  obtain ⟨w, h1, h2⟩ := str1 (C := "WhiteElephants$Tape") (i := 65) (n := 5) (f := fun j => ([108, 101, 97, 115, 116] : List Int).getD j 0) (A := A) (b := b) (s := s) (by decide) (fl (Cond.exactly (.string "WhiteElephants$Tape" 65) "java/lang/String") (by decide +kernel)) (fl (Cond.eq (.field (.string "WhiteElephants$Tape" 65) "java/lang/String" "coder" "B") (.int 0)) (by decide +kernel)) (fl (Cond.arrayOf (.field (.string "WhiteElephants$Tape" 65) "java/lang/String" "value" "[B") .byte) (by decide +kernel)) (fl (Cond.eq (.length (.field (.string "WhiteElephants$Tape" 65) "java/lang/String" "value" "[B")) (.int 5)) (by decide +kernel)) (fun j hj => by
    match j, hj with
    | 0, _ => exact fl (Cond.eq (.elem (.field (.string "WhiteElephants$Tape" 65) "java/lang/String" "value" "[B") (.int 0)) (.int 108)) (by decide +kernel)
    | 1, _ => exact fl (Cond.eq (.elem (.field (.string "WhiteElephants$Tape" 65) "java/lang/String" "value" "[B") (.int 1)) (.int 101)) (by decide +kernel)
    | 2, _ => exact fl (Cond.eq (.elem (.field (.string "WhiteElephants$Tape" 65) "java/lang/String" "value" "[B") (.int 2)) (.int 97)) (by decide +kernel)
    | 3, _ => exact fl (Cond.eq (.elem (.field (.string "WhiteElephants$Tape" 65) "java/lang/String" "value" "[B") (.int 3)) (.int 115)) (by decide +kernel)
    | 4, _ => exact fl (Cond.eq (.elem (.field (.string "WhiteElephants$Tape" 65) "java/lang/String" "value" "[B") (.int 4)) (.int 116)) (by decide +kernel)
    | j + 5, hj => exact absurd hj (by omega)) hA
  exact ⟨w, vk_R.of (hts (.stringRef "WhiteElephants$Tape" 65 "least") (List.mem_of_getElem? (i := 742) (by decide +kernel))) h2, h1⟩
theorem tx_414 {A : Nat → Prop} (hts : ∀ w ∈ lw_tbl, w.before #[Value.ref b] s = true) (hgv : (Jvm.Cond.and given_1 narrow_1).before #[Value.ref b] s = true) (hA : ∀ a : Nat, a < s.heap.size → ¬ A a) : ∃ w : Nat, vk_R "WhiteElephants$Tape" 67 "most" w s ∧ ST w 4 (fun j => ([109, 111, 115, 116] : List Int).getD j 0) A s := by
  have fl := flat_of_before _ hgv
  obtain ⟨w, h1, h2⟩ := str1 (C := "WhiteElephants$Tape") (i := 67) (n := 4) (f := fun j => ([109, 111, 115, 116] : List Int).getD j 0) (A := A) (b := b) (s := s) (by decide) (fl (Cond.exactly (.string "WhiteElephants$Tape" 67) "java/lang/String") (by decide +kernel)) (fl (Cond.eq (.field (.string "WhiteElephants$Tape" 67) "java/lang/String" "coder" "B") (.int 0)) (by decide +kernel)) (fl (Cond.arrayOf (.field (.string "WhiteElephants$Tape" 67) "java/lang/String" "value" "[B") .byte) (by decide +kernel)) (fl (Cond.eq (.length (.field (.string "WhiteElephants$Tape" 67) "java/lang/String" "value" "[B")) (.int 4)) (by decide +kernel)) (fun j hj => by
    match j, hj with
    | 0, _ => exact fl (Cond.eq (.elem (.field (.string "WhiteElephants$Tape" 67) "java/lang/String" "value" "[B") (.int 0)) (.int 109)) (by decide +kernel)
    | 1, _ => exact fl (Cond.eq (.elem (.field (.string "WhiteElephants$Tape" 67) "java/lang/String" "value" "[B") (.int 1)) (.int 111)) (by decide +kernel)
    | 2, _ => exact fl (Cond.eq (.elem (.field (.string "WhiteElephants$Tape" 67) "java/lang/String" "value" "[B") (.int 2)) (.int 115)) (by decide +kernel)
    | 3, _ => exact fl (Cond.eq (.elem (.field (.string "WhiteElephants$Tape" 67) "java/lang/String" "value" "[B") (.int 3)) (.int 116)) (by decide +kernel)
    | j + 4, hj => exact absurd hj (by omega)) hA
  exact ⟨w, vk_R.of (hts (.stringRef "WhiteElephants$Tape" 67 "most") (List.mem_of_getElem? (i := 743) (by decide +kernel))) h2, h1⟩
theorem tx_420 {A : Nat → Prop} (hts : ∀ w ∈ lw_tbl, w.before #[Value.ref b] s = true) (hgv : (Jvm.Cond.and given_1 narrow_1).before #[Value.ref b] s = true) (hA : ∀ a : Nat, a < s.heap.size → ¬ A a) : ∃ w : Nat, vk_R "WhiteElephantsModel" 202 "known" w s ∧ ST w 5 (fun j => ([107, 110, 111, 119, 110] : List Int).getD j 0) A s := by
  have fl := flat_of_before _ hgv
  obtain ⟨w, h1, h2⟩ := str1 (C := "WhiteElephantsModel") (i := 202) (n := 5) (f := fun j => ([107, 110, 111, 119, 110] : List Int).getD j 0) (A := A) (b := b) (s := s) (by decide) (fl (Cond.exactly (.string "WhiteElephantsModel" 202) "java/lang/String") (by decide +kernel)) (fl (Cond.eq (.field (.string "WhiteElephantsModel" 202) "java/lang/String" "coder" "B") (.int 0)) (by decide +kernel)) (fl (Cond.arrayOf (.field (.string "WhiteElephantsModel" 202) "java/lang/String" "value" "[B") .byte) (by decide +kernel)) (fl (Cond.eq (.length (.field (.string "WhiteElephantsModel" 202) "java/lang/String" "value" "[B")) (.int 5)) (by decide +kernel)) (fun j hj => by
    match j, hj with
    | 0, _ => exact fl (Cond.eq (.elem (.field (.string "WhiteElephantsModel" 202) "java/lang/String" "value" "[B") (.int 0)) (.int 107)) (by decide +kernel)
    | 1, _ => exact fl (Cond.eq (.elem (.field (.string "WhiteElephantsModel" 202) "java/lang/String" "value" "[B") (.int 1)) (.int 110)) (by decide +kernel)
    | 2, _ => exact fl (Cond.eq (.elem (.field (.string "WhiteElephantsModel" 202) "java/lang/String" "value" "[B") (.int 2)) (.int 111)) (by decide +kernel)
    | 3, _ => exact fl (Cond.eq (.elem (.field (.string "WhiteElephantsModel" 202) "java/lang/String" "value" "[B") (.int 3)) (.int 119)) (by decide +kernel)
    | 4, _ => exact fl (Cond.eq (.elem (.field (.string "WhiteElephantsModel" 202) "java/lang/String" "value" "[B") (.int 4)) (.int 110)) (by decide +kernel)
    | j + 5, hj => exact absurd hj (by omega)) hA
  exact ⟨w, vk_R.of (hts (.stringRef "WhiteElephantsModel" 202 "known") (List.mem_of_getElem? (i := 1450) (by decide +kernel))) h2, h1⟩
theorem tx_421 {A : Nat → Prop} (hts : ∀ w ∈ lw_tbl, w.before #[Value.ref b] s = true) (hgv : (Jvm.Cond.and given_1 narrow_1).before #[Value.ref b] s = true) (hA : ∀ a : Nat, a < s.heap.size → ¬ A a) : ∃ w : Nat, vk_R "WhiteElephantsModel" 208 "strange" w s ∧ ST w 7 (fun j => ([115, 116, 114, 97, 110, 103, 101] : List Int).getD j 0) A s := by
  have fl := flat_of_before _ hgv
  obtain ⟨w, h1, h2⟩ := str1 (C := "WhiteElephantsModel") (i := 208) (n := 7) (f := fun j => ([115, 116, 114, 97, 110, 103, 101] : List Int).getD j 0) (A := A) (b := b) (s := s) (by decide) (fl (Cond.exactly (.string "WhiteElephantsModel" 208) "java/lang/String") (by decide +kernel)) (fl (Cond.eq (.field (.string "WhiteElephantsModel" 208) "java/lang/String" "coder" "B") (.int 0)) (by decide +kernel)) (fl (Cond.arrayOf (.field (.string "WhiteElephantsModel" 208) "java/lang/String" "value" "[B") .byte) (by decide +kernel)) (fl (Cond.eq (.length (.field (.string "WhiteElephantsModel" 208) "java/lang/String" "value" "[B")) (.int 7)) (by decide +kernel)) (fun j hj => by
    match j, hj with
    | 0, _ => exact fl (Cond.eq (.elem (.field (.string "WhiteElephantsModel" 208) "java/lang/String" "value" "[B") (.int 0)) (.int 115)) (by decide +kernel)
    | 1, _ => exact fl (Cond.eq (.elem (.field (.string "WhiteElephantsModel" 208) "java/lang/String" "value" "[B") (.int 1)) (.int 116)) (by decide +kernel)
    | 2, _ => exact fl (Cond.eq (.elem (.field (.string "WhiteElephantsModel" 208) "java/lang/String" "value" "[B") (.int 2)) (.int 114)) (by decide +kernel)
    | 3, _ => exact fl (Cond.eq (.elem (.field (.string "WhiteElephantsModel" 208) "java/lang/String" "value" "[B") (.int 3)) (.int 97)) (by decide +kernel)
    | 4, _ => exact fl (Cond.eq (.elem (.field (.string "WhiteElephantsModel" 208) "java/lang/String" "value" "[B") (.int 4)) (.int 110)) (by decide +kernel)
    | 5, _ => exact fl (Cond.eq (.elem (.field (.string "WhiteElephantsModel" 208) "java/lang/String" "value" "[B") (.int 5)) (.int 103)) (by decide +kernel)
    | 6, _ => exact fl (Cond.eq (.elem (.field (.string "WhiteElephantsModel" 208) "java/lang/String" "value" "[B") (.int 6)) (.int 101)) (by decide +kernel)
    | j + 7, hj => exact absurd hj (by omega)) hA
  exact ⟨w, vk_R.of (hts (.stringRef "WhiteElephantsModel" 208 "strange") (List.mem_of_getElem? (i := 1457) (by decide +kernel))) h2, h1⟩
theorem tx_422 {A : Nat → Prop} (hts : ∀ w ∈ lw_tbl, w.before #[Value.ref b] s = true) (hgv : (Jvm.Cond.and given_1 narrow_1).before #[Value.ref b] s = true) (hA : ∀ a : Nat, a < s.heap.size → ¬ A a) : ∃ w : Nat, vk_R "WhiteElephantsModel" 210 "round" w s ∧ ST w 5 (fun j => ([114, 111, 117, 110, 100] : List Int).getD j 0) A s := by
  have fl := flat_of_before _ hgv
  obtain ⟨w, h1, h2⟩ := str1 (C := "WhiteElephantsModel") (i := 210) (n := 5) (f := fun j => ([114, 111, 117, 110, 100] : List Int).getD j 0) (A := A) (b := b) (s := s) (by decide) (fl (Cond.exactly (.string "WhiteElephantsModel" 210) "java/lang/String") (by decide +kernel)) (fl (Cond.eq (.field (.string "WhiteElephantsModel" 210) "java/lang/String" "coder" "B") (.int 0)) (by decide +kernel)) (fl (Cond.arrayOf (.field (.string "WhiteElephantsModel" 210) "java/lang/String" "value" "[B") .byte) (by decide +kernel)) (fl (Cond.eq (.length (.field (.string "WhiteElephantsModel" 210) "java/lang/String" "value" "[B")) (.int 5)) (by decide +kernel)) (fun j hj => by
    match j, hj with
    | 0, _ => exact fl (Cond.eq (.elem (.field (.string "WhiteElephantsModel" 210) "java/lang/String" "value" "[B") (.int 0)) (.int 114)) (by decide +kernel)
    | 1, _ => exact fl (Cond.eq (.elem (.field (.string "WhiteElephantsModel" 210) "java/lang/String" "value" "[B") (.int 1)) (.int 111)) (by decide +kernel)
    | 2, _ => exact fl (Cond.eq (.elem (.field (.string "WhiteElephantsModel" 210) "java/lang/String" "value" "[B") (.int 2)) (.int 117)) (by decide +kernel)
    | 3, _ => exact fl (Cond.eq (.elem (.field (.string "WhiteElephantsModel" 210) "java/lang/String" "value" "[B") (.int 3)) (.int 110)) (by decide +kernel)
    | 4, _ => exact fl (Cond.eq (.elem (.field (.string "WhiteElephantsModel" 210) "java/lang/String" "value" "[B") (.int 4)) (.int 100)) (by decide +kernel)
    | j + 5, hj => exact absurd hj (by omega)) hA
  exact ⟨w, vk_R.of (hts (.stringRef "WhiteElephantsModel" 210 "round") (List.mem_of_getElem? (i := 1458) (by decide +kernel))) h2, h1⟩
theorem tx_423 {A : Nat → Prop} (hts : ∀ w ∈ lw_tbl, w.before #[Value.ref b] s = true) (hgv : (Jvm.Cond.and given_1 narrow_1).before #[Value.ref b] s = true) (hA : ∀ a : Nat, a < s.heap.size → ¬ A a) : ∃ w : Nat, vk_R "WhiteElephantsModel" 212 "least" w s ∧ ST w 5 (fun j => ([108, 101, 97, 115, 116] : List Int).getD j 0) A s := by
  have fl := flat_of_before _ hgv
  obtain ⟨w, h1, h2⟩ := str1 (C := "WhiteElephantsModel") (i := 212) (n := 5) (f := fun j => ([108, 101, 97, 115, 116] : List Int).getD j 0) (A := A) (b := b) (s := s) (by decide) (fl (Cond.exactly (.string "WhiteElephantsModel" 212) "java/lang/String") (by decide +kernel)) (fl (Cond.eq (.field (.string "WhiteElephantsModel" 212) "java/lang/String" "coder" "B") (.int 0)) (by decide +kernel)) (fl (Cond.arrayOf (.field (.string "WhiteElephantsModel" 212) "java/lang/String" "value" "[B") .byte) (by decide +kernel)) (fl (Cond.eq (.length (.field (.string "WhiteElephantsModel" 212) "java/lang/String" "value" "[B")) (.int 5)) (by decide +kernel)) (fun j hj => by
    match j, hj with
    | 0, _ => exact fl (Cond.eq (.elem (.field (.string "WhiteElephantsModel" 212) "java/lang/String" "value" "[B") (.int 0)) (.int 108)) (by decide +kernel)
    | 1, _ => exact fl (Cond.eq (.elem (.field (.string "WhiteElephantsModel" 212) "java/lang/String" "value" "[B") (.int 1)) (.int 101)) (by decide +kernel)
    | 2, _ => exact fl (Cond.eq (.elem (.field (.string "WhiteElephantsModel" 212) "java/lang/String" "value" "[B") (.int 2)) (.int 97)) (by decide +kernel)
    | 3, _ => exact fl (Cond.eq (.elem (.field (.string "WhiteElephantsModel" 212) "java/lang/String" "value" "[B") (.int 3)) (.int 115)) (by decide +kernel)
    | 4, _ => exact fl (Cond.eq (.elem (.field (.string "WhiteElephantsModel" 212) "java/lang/String" "value" "[B") (.int 4)) (.int 116)) (by decide +kernel)
    | j + 5, hj => exact absurd hj (by omega)) hA
  exact ⟨w, vk_R.of (hts (.stringRef "WhiteElephantsModel" 212 "least") (List.mem_of_getElem? (i := 1459) (by decide +kernel))) h2, h1⟩
theorem tx_424 {A : Nat → Prop} (hts : ∀ w ∈ lw_tbl, w.before #[Value.ref b] s = true) (hgv : (Jvm.Cond.and given_1 narrow_1).before #[Value.ref b] s = true) (hA : ∀ a : Nat, a < s.heap.size → ¬ A a) : ∃ w : Nat, vk_R "WhiteElephantsModel" 214 "most" w s ∧ ST w 4 (fun j => ([109, 111, 115, 116] : List Int).getD j 0) A s := by
  have fl := flat_of_before _ hgv
  obtain ⟨w, h1, h2⟩ := str1 (C := "WhiteElephantsModel") (i := 214) (n := 4) (f := fun j => ([109, 111, 115, 116] : List Int).getD j 0) (A := A) (b := b) (s := s) (by decide) (fl (Cond.exactly (.string "WhiteElephantsModel" 214) "java/lang/String") (by decide +kernel)) (fl (Cond.eq (.field (.string "WhiteElephantsModel" 214) "java/lang/String" "coder" "B") (.int 0)) (by decide +kernel)) (fl (Cond.arrayOf (.field (.string "WhiteElephantsModel" 214) "java/lang/String" "value" "[B") .byte) (by decide +kernel)) (fl (Cond.eq (.length (.field (.string "WhiteElephantsModel" 214) "java/lang/String" "value" "[B")) (.int 4)) (by decide +kernel)) (fun j hj => by
    match j, hj with
    | 0, _ => exact fl (Cond.eq (.elem (.field (.string "WhiteElephantsModel" 214) "java/lang/String" "value" "[B") (.int 0)) (.int 109)) (by decide +kernel)
    | 1, _ => exact fl (Cond.eq (.elem (.field (.string "WhiteElephantsModel" 214) "java/lang/String" "value" "[B") (.int 1)) (.int 111)) (by decide +kernel)
    | 2, _ => exact fl (Cond.eq (.elem (.field (.string "WhiteElephantsModel" 214) "java/lang/String" "value" "[B") (.int 2)) (.int 115)) (by decide +kernel)
    | 3, _ => exact fl (Cond.eq (.elem (.field (.string "WhiteElephantsModel" 214) "java/lang/String" "value" "[B") (.int 3)) (.int 116)) (by decide +kernel)
    | j + 4, hj => exact absurd hj (by omega)) hA
  exact ⟨w, vk_R.of (hts (.stringRef "WhiteElephantsModel" 214 "most") (List.mem_of_getElem? (i := 1460) (by decide +kernel))) h2, h1⟩
theorem sx_start {A : Nat → Prop} (hts : ∀ w ∈ lw_tbl, w.before #[Value.ref b] s = true) (hgv : (Jvm.Cond.and given_1 narrow_1).before #[Value.ref b] s = true) (hA : ∀ a : Nat, a < s.heap.size → ¬ A a) : ∃ ad : Nat → Nat, ∀ q : Nat → Nat, (∀ k, 400 ≤ k → q k = ad k) → SX q A s := by
  have fl := flat_of_before _ hgv
  obtain ⟨t400, h400⟩ := at_400 hts hgv hA
  obtain ⟨t401, h401⟩ := at_401 hts hgv hA
  obtain ⟨t402, h402⟩ := at_402 hts hgv hA
  obtain ⟨t403, h403⟩ := at_403 hts hgv hA
  obtain ⟨t404, h404⟩ := at_404 hts hgv hA
  obtain ⟨t410, h410⟩ := tx_410 hts hgv hA
  obtain ⟨t411, h411⟩ := tx_411 hts hgv hA
  obtain ⟨t412, h412⟩ := tx_412 hts hgv hA
  obtain ⟨t413, h413⟩ := tx_413 hts hgv hA
  obtain ⟨t414, h414⟩ := tx_414 hts hgv hA
  obtain ⟨t420, h420⟩ := tx_420 hts hgv hA
  obtain ⟨t421, h421⟩ := tx_421 hts hgv hA
  obtain ⟨t422, h422⟩ := tx_422 hts hgv hA
  obtain ⟨t423, h423⟩ := tx_423 hts hgv hA
  obtain ⟨t424, h424⟩ := tx_424 hts hgv hA
  refine ⟨fun k => if k = 400 then t400 else if k = 401 then t401 else if k = 402 then t402 else if k = 403 then t403 else if k = 404 then t404 else if k = 410 then t410 else if k = 411 then t411 else if k = 412 then t412 else if k = 413 then t413 else if k = 414 then t414 else if k = 420 then t420 else if k = 421 then t421 else if k = 422 then t422 else if k = 423 then t423 else if k = 424 then t424 else 0, fun q hq => ⟨nn_start hts, va_Zof (hts (.laysStatic "java/lang/String" "COMPACT_STRINGS" "Z") (List.mem_of_getElem? (i := 701) (by decide +kernel))) (hts (.initialized "java/lang/String") (List.mem_of_getElem? (i := 78) (by decide +kernel))) (va_eqi (fl (Cond.eq (.static "java/lang/String" "COMPACT_STRINGS" "Z") (.int 1)) (by decide +kernel))) hA, va_Zqof (hts (.laysStatic "jdk/internal/util/Preconditions" "SIOOBE_FORMATTER" "Ljava/util/function/BiFunction;") (List.mem_of_getElem? (i := 717) (by decide +kernel))) (hts (.initialized "jdk/internal/util/Preconditions") (List.mem_of_getElem? (i := 80) (by decide +kernel))) (fl (Cond.isRef (.static "jdk/internal/util/Preconditions" "SIOOBE_FORMATTER" "Ljava/util/function/BiFunction;")) (by decide +kernel)) hA, fun e he => ?_, fun e he => ?_⟩⟩
  · simp only [STs, List.mem_cons, List.not_mem_nil, or_false] at he
    rcases he with rfl | rfl | rfl | rfl | rfl
    · have e : q 400 = t400 := hq 400 (by decide)
      show AT (q 400) _ _ _ _ A s
      rw [e]
      exact h400
    · have e : q 401 = t401 := hq 401 (by decide)
      show AT (q 401) _ _ _ _ A s
      rw [e]
      exact h401
    · have e : q 402 = t402 := hq 402 (by decide)
      show AT (q 402) _ _ _ _ A s
      rw [e]
      exact h402
    · have e : q 403 = t403 := hq 403 (by decide)
      show AT (q 403) _ _ _ _ A s
      rw [e]
      exact h403
    · have e : q 404 = t404 := hq 404 (by decide)
      show AT (q 404) _ _ _ _ A s
      rw [e]
      exact h404
  · simp only [STw, List.mem_cons, List.not_mem_nil, or_false] at he
    rcases he with rfl | rfl | rfl | rfl | rfl | rfl | rfl | rfl | rfl | rfl
    · have e : q 410 = t410 := hq 410 (by decide)
      show vk_R _ _ _ (q 410) s ∧ ST (q 410) _ _ A s
      rw [e]
      exact h410
    · have e : q 411 = t411 := hq 411 (by decide)
      show vk_R _ _ _ (q 411) s ∧ ST (q 411) _ _ A s
      rw [e]
      exact h411
    · have e : q 412 = t412 := hq 412 (by decide)
      show vk_R _ _ _ (q 412) s ∧ ST (q 412) _ _ A s
      rw [e]
      exact h412
    · have e : q 413 = t413 := hq 413 (by decide)
      show vk_R _ _ _ (q 413) s ∧ ST (q 413) _ _ A s
      rw [e]
      exact h413
    · have e : q 414 = t414 := hq 414 (by decide)
      show vk_R _ _ _ (q 414) s ∧ ST (q 414) _ _ A s
      rw [e]
      exact h414
    · have e : q 420 = t420 := hq 420 (by decide)
      show vk_R _ _ _ (q 420) s ∧ ST (q 420) _ _ A s
      rw [e]
      exact h420
    · have e : q 421 = t421 := hq 421 (by decide)
      show vk_R _ _ _ (q 421) s ∧ ST (q 421) _ _ A s
      rw [e]
      exact h421
    · have e : q 422 = t422 := hq 422 (by decide)
      show vk_R _ _ _ (q 422) s ∧ ST (q 422) _ _ A s
      rw [e]
      exact h422
    · have e : q 423 = t423 := hq 423 (by decide)
      show vk_R _ _ _ (q 423) s ∧ ST (q 423) _ _ A s
      rw [e]
      exact h423
    · have e : q 424 = t424 := hq 424 (by decide)
      show vk_R _ _ _ (q 424) s ∧ ST (q 424) _ _ A s
      rw [e]
      exact h424
end STA
