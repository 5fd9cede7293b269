section STA
variable {s : State} {b : Nat}
theorem tb_bw (hts : ∀ w ∈ lw_tbl, w.before #[Value.ref b] s = true) : ∀ w ∈ BW, w.before #[Value.ref b] s = true := fun w h => hts w (List.mem_filter.mp h).1
set_option maxRecDepth 100000 in
theorem nn_in : ∀ q ∈ NNl, Cond.methodLinkNest q.1 q.2.1 q.2.2 "WhiteElephants" ∈ lw_tbl := by decide +kernel
theorem nn_start (hts : ∀ w ∈ lw_tbl, w.before #[Value.ref b] s = true) : NN s := fun q hq => va_Nw.of rfl (hts _ (nn_in q hq))
theorem ao_start (hts : ∀ w ∈ lw_tbl, w.before #[Value.ref b] s = true) : va_AO "WhiteElephants$Shelf" s := va_AO.of (hts (.arrayOver (.object "WhiteElephants$Shelf")) (List.mem_of_getElem? (i := 91) (by decide +kernel)))
theorem ar_start (a : ArrayType) (h : (Cond.arrayClass (newarray.typeOf a)).before #[Value.ref b] s = true) : ∃ cA : ClassId, ArrOfT s cA (newarray.typeOf a) ∧ va_RA s cA (newarray.typeOf a) := by
  obtain ⟨cA, kA, comp, h1, h2, h3⟩ := Cond.arrayClass_spec h
  exact ⟨cA, fun n z => ⟨fun k h => (by cases h), kA, h2, comp, h3⟩, by cases a <;> exact h1⟩
set_option maxRecDepth 100000 in
theorem k_start (hts : ∀ w ∈ lw_tbl, w.before #[Value.ref b] s = true) : ∃ D : va_G, ∀ (k : Nat) (q : vw_C), cls[k]? = some q → u_Kn s q.1 q.2.1 q.2.2 (D.1 k) (D.2 k) := by
  obtain ⟨c0, i0, h0⟩ := u_known (C := "WhiteElephants$Buyers") (T := ET0) (N := 6) (n := 6) (tb_bw hts) ef_0.1 (hts (.instantiable "WhiteElephants$Buyers" 6) (List.mem_of_getElem? (i := 214) (by decide +kernel)))
  obtain ⟨c1, i1, h1⟩ := u_known (C := "WhiteElephants$Hall") (T := ET1) (N := 14) (n := 14) (tb_bw hts) ef_1.1 (hts (.instantiable "WhiteElephants$Hall" 14) (List.mem_of_getElem? (i := 115) (by decide +kernel)))
  obtain ⟨c2, i2, h2⟩ := u_known (C := "WhiteElephants$Ladies") (T := ET2) (N := 4) (n := 4) (tb_bw hts) ef_2.1 (hts (.instantiable "WhiteElephants$Ladies" 4) (List.mem_of_getElem? (i := 171) (by decide +kernel)))
  obtain ⟨c3, i3, h3⟩ := u_known (C := "WhiteElephants$Laws") (T := ET3) (N := 3) (n := 3) (tb_bw hts) ef_3.1 (hts (.instantiable "WhiteElephants$Laws" 3) (List.mem_of_getElem? (i := 196) (by decide +kernel)))
  obtain ⟨c4, i4, h4⟩ := u_known (C := "WhiteElephants$Picks") (T := ET4) (N := 2) (n := 2) (tb_bw hts) ef_4.1 (hts (.instantiable "WhiteElephants$Picks" 2) (List.mem_of_getElem? (i := 411) (by decide +kernel)))
  obtain ⟨c5, i5, h5⟩ := u_known (C := "WhiteElephants$Sale") (T := ET5) (N := 9) (n := 9) (tb_bw hts) ef_5.1 (hts (.instantiable "WhiteElephants$Sale" 9) (List.mem_of_getElem? (i := 377) (by decide +kernel)))
  obtain ⟨c6, i6, h6⟩ := u_known (C := "WhiteElephants$Secrets") (T := ET6) (N := 9) (n := 9) (tb_bw hts) ef_6.1 (hts (.instantiable "WhiteElephants$Secrets" 9) (List.mem_of_getElem? (i := 283) (by decide +kernel)))
  obtain ⟨c7, i7, h7⟩ := u_known (C := "WhiteElephants$Shelf") (T := ET7) (N := 3) (n := 3) (tb_bw hts) ef_7.1 (hts (.instantiable "WhiteElephants$Shelf" 3) (List.mem_of_getElem? (i := 423) (by decide +kernel)))
  obtain ⟨c8, i8, h8⟩ := u_known (C := "WhiteElephants$Sightings") (T := ET8) (N := 8) (n := 8) (tb_bw hts) ef_8.1 (hts (.instantiable "WhiteElephants$Sightings" 8) (List.mem_of_getElem? (i := 251) (by decide +kernel)))
  obtain ⟨c9, i9, h9⟩ := u_known (C := "WhiteElephants$Tape") (T := ET9) (N := 4) (n := 4) (tb_bw hts) ef_9.1 (hts (.instantiable "WhiteElephants$Tape" 4) (List.mem_of_getElem? (i := 93) (by decide +kernel)))
  obtain ⟨c10, i10, h10⟩ := u_known (C := "WhiteElephants$Things") (T := ET10) (N := 8) (n := 8) (tb_bw hts) ef_10.1 (hts (.instantiable "WhiteElephants$Things" 8) (List.mem_of_getElem? (i := 121) (by decide +kernel)))
  obtain ⟨c11, i11, h11⟩ := u_known (C := "WhiteElephants") (T := ET11) (N := 8) (n := 8) (tb_bw hts) ef_11.1 (hts (.instantiable "WhiteElephants" 8) (List.mem_of_getElem? (i := 83) (by decide +kernel)))
  obtain ⟨c12, i12, h12⟩ := u_known (C := "WhiteElephantsModel") (T := ET12) (N := 51) (n := 51) (tb_bw hts) ef_12.1 (hts (.instantiable "WhiteElephantsModel" 51) (List.mem_of_getElem? (i := 1156) (by decide +kernel)))
  refine ⟨(fun k => ([c0, c1, c2, c3, c4, c5, c6, c7, c8, c9, c10, c11, c12] : List ClassId).getD k 0, fun k => ([i0, i1, i2, i3, i4, i5, i6, i7, i8, i9, i10, i11, i12] : List (Nat → Nat)).getD k (fun _ => 0)), ?_⟩
  intro k q hq
  match k, hq with
  | 0, hq => cases hq; exact h0
  | 1, hq => cases hq; exact h1
  | 2, hq => cases hq; exact h2
  | 3, hq => cases hq; exact h3
  | 4, hq => cases hq; exact h4
  | 5, hq => cases hq; exact h5
  | 6, hq => cases hq; exact h6
  | 7, hq => cases hq; exact h7
  | 8, hq => cases hq; exact h8
  | 9, hq => cases hq; exact h9
  | 10, hq => cases hq; exact h10
  | 11, hq => cases hq; exact h11
  | 12, hq => cases hq; exact h12
  | k + 13, hq => simp [cls] at hq
theorem len_small {tm : Term} {args : Array Value} {k : Int32} {t : Addr} {cell : Cell} (ht : tm.eval args s none [] s = some (.ref t)) (hat : s.arrayAt? t = some cell) (hlen : (Term.length tm).eval args s none [] s = some (.int k)) : cell.slots.size < 2 ^ 31 := by
  simp only [Term.eval, ht, hat, Option.bind_eq_bind, Option.bind_some] at hlen
  by_cases hlt : cell.slots.size < 2147483648
  · exact hlt
  · simp [hlt] at hlen
theorem at_start {A : Nat → Prop} (hts : ∀ w ∈ lw_tbl, w.before #[Value.ref b] s = true) (hgv : (Jvm.Cond.and given_1 narrow_1).before #[Value.ref b] s = true) (hA : ∀ a : Nat, a < s.heap.size → ¬ A a) : AT A s := by
  have fl := flat_of_before _ hgv
  have harr := fl (Cond.arrayOf (.static "WhiteElephants$Laws" "AT_FIRST" "[I") .int) (by decide +kernel)
  have hlen : (Term.length (.static "WhiteElephants$Laws" "AT_FIRST" "[I")).eval #[Value.ref b] s none [] s = some (.int (Int32.ofNat 5)) := va_eqt (fl (Cond.eq (.length (.static "WhiteElephants$Laws" "AT_FIRST" "[I")) (.int 5)) (by decide +kernel))
  have hel : ∀ j : Nat, j < 5 → (Term.elem (.static "WhiteElephants$Laws" "AT_FIRST" "[I") (.int (Int32.ofNat j))).eval #[Value.ref b] s none [] s = some (.int (atf j)) := by
    intro j hj
    match j, hj with
    | 0, _ => exact va_eqt (fl (Cond.eq (.elem (.static "WhiteElephants$Laws" "AT_FIRST" "[I") (.int 0)) (.int 100)) (by decide +kernel))
    | 1, _ => exact va_eqt (fl (Cond.eq (.elem (.static "WhiteElephants$Laws" "AT_FIRST" "[I") (.int 1)) (.int 50)) (by decide +kernel))
    | 2, _ => exact va_eqt (fl (Cond.eq (.elem (.static "WhiteElephants$Laws" "AT_FIRST" "[I") (.int 2)) (.int 1)) (by decide +kernel))
    | 3, _ => exact va_eqt (fl (Cond.eq (.elem (.static "WhiteElephants$Laws" "AT_FIRST" "[I") (.int 3)) (.int 0)) (by decide +kernel))
    | 4, _ => exact va_eqt (fl (Cond.eq (.elem (.static "WhiteElephants$Laws" "AT_FIRST" "[I") (.int 4)) (.int 999)) (by decide +kernel))
    | j + 5, hj => exact absurd hj (by omega)
  obtain ⟨t, ht, cell1, hc1, -, -, -, -, hv1, hnA⟩ := va_Tof (ty := .int) (N := 5) (f := fun j => .int (atf j)) (by decide) harr hlen hel hA
  have hlen2 := hlen
  obtain ⟨t2, cell, ht2, hat, hv⟩ := Term.length_spec hlen
  cases ht.symm.trans ht2
  obtain ⟨hcell, hkn, -, -⟩ := State.arrayAt?_spec hat
  obtain ⟨hof, -⟩ := Cond.arrayOf_spec harr ht hcell
  have e1 : cell1 = cell := Option.some.inj (hc1.symm.trans hcell)
  subst e1
  have hsz : cell1.slots.size < 2 ^ 31 := len_small ht hat hlen2
  have hs5 : cell1.slots.size = 5 := by
    have e2 : (nI 5).toInt = (nI cell1.slots.size).toInt := congrArg Int32.toInt (Value.int.inj hv)
    rw [nI_toInt (by decide), nI_toInt hsz] at e2
    omega
  exact ⟨t, va_Zref (hts (.laysStatic "WhiteElephants$Laws" "AT_FIRST" "[I") (List.mem_of_getElem? (i := 671) (by decide +kernel))) (hts (.initialized "WhiteElephants$Laws") (List.mem_of_getElem? (i := 66) (by decide +kernel))) ht hA, ⟨cell1, hcell, hof, hkn, hs5, hv1⟩, (Array.getElem?_eq_some_iff.mp hcell).1, hnA⟩
def s5 : List Nat := [55, 61, 63, 65, 67]
def n5 : List Nat := [5, 7, 5, 5, 4]
def b5 : List (List Int32) := [[107, 110, 111, 119, 110], [115, 116, 114, 97, 110, 103, 101], [114, 111, 117, 110, 100], [108, 101, 97, 115, 116], [109, 111, 115, 116]]
theorem str_start {A : Nat → Prop} (hgv : (Jvm.Cond.and given_1 narrow_1).before #[Value.ref b] s = true) (hA : ∀ a : Nat, a < s.heap.size → ¬ A a) : ∃ adK adV : Nat → Nat, vk_S 5 n5 b5 adK adV A s s.heap ∧ ∀ i : Nat, i < 5 → (Term.string "WhiteElephants$Tape" (s5.getD i 0)).eval #[Value.ref b] s none [] s = some (.ref (adK i)) := by
  have fl := flat_of_before _ hgv
  refine vk_Sof (N := 5) (tm := fun i => Term.string "WhiteElephants$Tape" (s5.getD i 0)) (len := n5) (byt := b5) (by decide) ?_ ?_ ?_ ?_ ?_ ?_ hA
  · intro i hi
    match i, hi with
    | 0, _ => exact fl (Cond.exactly (.string "WhiteElephants$Tape" 55) "java/lang/String") (by decide +kernel)
    | 1, _ => exact fl (Cond.exactly (.string "WhiteElephants$Tape" 61) "java/lang/String") (by decide +kernel)
    | 2, _ => exact fl (Cond.exactly (.string "WhiteElephants$Tape" 63) "java/lang/String") (by decide +kernel)
    | 3, _ => exact fl (Cond.exactly (.string "WhiteElephants$Tape" 65) "java/lang/String") (by decide +kernel)
    | 4, _ => exact fl (Cond.exactly (.string "WhiteElephants$Tape" 67) "java/lang/String") (by decide +kernel)
    | i + 5, hi => exact absurd hi (by omega)
  · intro i hi
    match i, hi with
    | 0, _ => exact fl (Cond.eq (.field (.string "WhiteElephants$Tape" 55) "java/lang/String" "coder" "B") (.int 0)) (by decide +kernel)
    | 1, _ => exact fl (Cond.eq (.field (.string "WhiteElephants$Tape" 61) "java/lang/String" "coder" "B") (.int 0)) (by decide +kernel)
    | 2, _ => exact fl (Cond.eq (.field (.string "WhiteElephants$Tape" 63) "java/lang/String" "coder" "B") (.int 0)) (by decide +kernel)
    | 3, _ => exact fl (Cond.eq (.field (.string "WhiteElephants$Tape" 65) "java/lang/String" "coder" "B") (.int 0)) (by decide +kernel)
    | 4, _ => exact fl (Cond.eq (.field (.string "WhiteElephants$Tape" 67) "java/lang/String" "coder" "B") (.int 0)) (by decide +kernel)
    | i + 5, hi => exact absurd hi (by omega)
  · intro i hi
    match i, hi with
    | 0, _ => exact fl (Cond.arrayOf (.field (.string "WhiteElephants$Tape" 55) "java/lang/String" "value" "[B") .byte) (by decide +kernel)
    | 1, _ => exact fl (Cond.arrayOf (.field (.string "WhiteElephants$Tape" 61) "java/lang/String" "value" "[B") .byte) (by decide +kernel)
    | 2, _ => exact fl (Cond.arrayOf (.field (.string "WhiteElephants$Tape" 63) "java/lang/String" "value" "[B") .byte) (by decide +kernel)
    | 3, _ => exact fl (Cond.arrayOf (.field (.string "WhiteElephants$Tape" 65) "java/lang/String" "value" "[B") .byte) (by decide +kernel)
    | 4, _ => exact fl (Cond.arrayOf (.field (.string "WhiteElephants$Tape" 67) "java/lang/String" "value" "[B") .byte) (by decide +kernel)
    | i + 5, hi => exact absurd hi (by omega)
  · intro i hi
    match i, hi with
    | 0, _ => exact fl (Cond.eq (.length (.field (.string "WhiteElephants$Tape" 55) "java/lang/String" "value" "[B")) (.int 5)) (by decide +kernel)
    | 1, _ => exact fl (Cond.eq (.length (.field (.string "WhiteElephants$Tape" 61) "java/lang/String" "value" "[B")) (.int 7)) (by decide +kernel)
    | 2, _ => exact fl (Cond.eq (.length (.field (.string "WhiteElephants$Tape" 63) "java/lang/String" "value" "[B")) (.int 5)) (by decide +kernel)
    | 3, _ => exact fl (Cond.eq (.length (.field (.string "WhiteElephants$Tape" 65) "java/lang/String" "value" "[B")) (.int 5)) (by decide +kernel)
    | 4, _ => exact fl (Cond.eq (.length (.field (.string "WhiteElephants$Tape" 67) "java/lang/String" "value" "[B")) (.int 4)) (by decide +kernel)
    | i + 5, hi => exact absurd hi (by omega)
  · intro i hi j hj
    match i, hi with
    | 0, _ =>
      match j, hj with
      | 0, _ => exact fl (Cond.eq (.elem (.field (.string "WhiteElephants$Tape" 55) "java/lang/String" "value" "[B") (.int 0)) (.int 107)) (by decide +kernel)
      | 1, _ => exact fl (Cond.eq (.elem (.field (.string "WhiteElephants$Tape" 55) "java/lang/String" "value" "[B") (.int 1)) (.int 110)) (by decide +kernel)
      | 2, _ => exact fl (Cond.eq (.elem (.field (.string "WhiteElephants$Tape" 55) "java/lang/String" "value" "[B") (.int 2)) (.int 111)) (by decide +kernel)
      | 3, _ => exact fl (Cond.eq (.elem (.field (.string "WhiteElephants$Tape" 55) "java/lang/String" "value" "[B") (.int 3)) (.int 119)) (by decide +kernel)
      | 4, _ => exact fl (Cond.eq (.elem (.field (.string "WhiteElephants$Tape" 55) "java/lang/String" "value" "[B") (.int 4)) (.int 110)) (by decide +kernel)
      | j + 5, hj => exact absurd (show j + 5 < 5 from hj) (by omega)
    | 1, _ =>
      match j, hj with
      | 0, _ => exact fl (Cond.eq (.elem (.field (.string "WhiteElephants$Tape" 61) "java/lang/String" "value" "[B") (.int 0)) (.int 115)) (by decide +kernel)
      | 1, _ => exact fl (Cond.eq (.elem (.field (.string "WhiteElephants$Tape" 61) "java/lang/String" "value" "[B") (.int 1)) (.int 116)) (by decide +kernel)
      | 2, _ => exact fl (Cond.eq (.elem (.field (.string "WhiteElephants$Tape" 61) "java/lang/String" "value" "[B") (.int 2)) (.int 114)) (by decide +kernel)
      | 3, _ => exact fl (Cond.eq (.elem (.field (.string "WhiteElephants$Tape" 61) "java/lang/String" "value" "[B") (.int 3)) (.int 97)) (by decide +kernel)
      | 4, _ => exact fl (Cond.eq (.elem (.field (.string "WhiteElephants$Tape" 61) "java/lang/String" "value" "[B") (.int 4)) (.int 110)) (by decide +kernel)
      | 5, _ => exact fl (Cond.eq (.elem (.field (.string "WhiteElephants$Tape" 61) "java/lang/String" "value" "[B") (.int 5)) (.int 103)) (by decide +kernel)
      | 6, _ => exact fl (Cond.eq (.elem (.field (.string "WhiteElephants$Tape" 61) "java/lang/String" "value" "[B") (.int 6)) (.int 101)) (by decide +kernel)
      | j + 7, hj => exact absurd (show j + 7 < 7 from hj) (by omega)
    | 2, _ =>
      match j, hj with
      | 0, _ => exact fl (Cond.eq (.elem (.field (.string "WhiteElephants$Tape" 63) "java/lang/String" "value" "[B") (.int 0)) (.int 114)) (by decide +kernel)
      | 1, _ => exact fl (Cond.eq (.elem (.field (.string "WhiteElephants$Tape" 63) "java/lang/String" "value" "[B") (.int 1)) (.int 111)) (by decide +kernel)
      | 2, _ => exact fl (Cond.eq (.elem (.field (.string "WhiteElephants$Tape" 63) "java/lang/String" "value" "[B") (.int 2)) (.int 117)) (by decide +kernel)
      | 3, _ => exact fl (Cond.eq (.elem (.field (.string "WhiteElephants$Tape" 63) "java/lang/String" "value" "[B") (.int 3)) (.int 110)) (by decide +kernel)
      | 4, _ => exact fl (Cond.eq (.elem (.field (.string "WhiteElephants$Tape" 63) "java/lang/String" "value" "[B") (.int 4)) (.int 100)) (by decide +kernel)
      | j + 5, hj => exact absurd (show j + 5 < 5 from hj) (by omega)
    | 3, _ =>
      match j, hj with
      | 0, _ => exact fl (Cond.eq (.elem (.field (.string "WhiteElephants$Tape" 65) "java/lang/String" "value" "[B") (.int 0)) (.int 108)) (by decide +kernel)
      | 1, _ => exact fl (Cond.eq (.elem (.field (.string "WhiteElephants$Tape" 65) "java/lang/String" "value" "[B") (.int 1)) (.int 101)) (by decide +kernel)
      | 2, _ => exact fl (Cond.eq (.elem (.field (.string "WhiteElephants$Tape" 65) "java/lang/String" "value" "[B") (.int 2)) (.int 97)) (by decide +kernel)
      | 3, _ => exact fl (Cond.eq (.elem (.field (.string "WhiteElephants$Tape" 65) "java/lang/String" "value" "[B") (.int 3)) (.int 115)) (by decide +kernel)
      | 4, _ => exact fl (Cond.eq (.elem (.field (.string "WhiteElephants$Tape" 65) "java/lang/String" "value" "[B") (.int 4)) (.int 116)) (by decide +kernel)
      | j + 5, hj => exact absurd (show j + 5 < 5 from hj) (by omega)
    | 4, _ =>
      match j, hj with
      | 0, _ => exact fl (Cond.eq (.elem (.field (.string "WhiteElephants$Tape" 67) "java/lang/String" "value" "[B") (.int 0)) (.int 109)) (by decide +kernel)
      | 1, _ => exact fl (Cond.eq (.elem (.field (.string "WhiteElephants$Tape" 67) "java/lang/String" "value" "[B") (.int 1)) (.int 111)) (by decide +kernel)
      | 2, _ => exact fl (Cond.eq (.elem (.field (.string "WhiteElephants$Tape" 67) "java/lang/String" "value" "[B") (.int 2)) (.int 115)) (by decide +kernel)
      | 3, _ => exact fl (Cond.eq (.elem (.field (.string "WhiteElephants$Tape" 67) "java/lang/String" "value" "[B") (.int 3)) (.int 116)) (by decide +kernel)
      | j + 4, hj => exact absurd (show j + 4 < 4 from hj) (by omega)
    | i + 5, hi => exact absurd hi (by omega)
  · intro i j hi hj hij
    match i, hi, j, hj with
    | 0, _, 0, _ => exact absurd rfl hij
    | 0, _, 1, _ => exact Or.inl (fl (Cond.not (Cond.eq (.string "WhiteElephants$Tape" 55) (.string "WhiteElephants$Tape" 61))) (by decide +kernel))
    | 0, _, 2, _ => exact Or.inl (fl (Cond.not (Cond.eq (.string "WhiteElephants$Tape" 55) (.string "WhiteElephants$Tape" 63))) (by decide +kernel))
    | 0, _, 3, _ => exact Or.inl (fl (Cond.not (Cond.eq (.string "WhiteElephants$Tape" 55) (.string "WhiteElephants$Tape" 65))) (by decide +kernel))
    | 0, _, 4, _ => exact Or.inl (fl (Cond.not (Cond.eq (.string "WhiteElephants$Tape" 55) (.string "WhiteElephants$Tape" 67))) (by decide +kernel))
    | 1, _, 0, _ => exact Or.inr (fl (Cond.not (Cond.eq (.string "WhiteElephants$Tape" 55) (.string "WhiteElephants$Tape" 61))) (by decide +kernel))
    | 1, _, 1, _ => exact absurd rfl hij
    | 1, _, 2, _ => exact Or.inl (fl (Cond.not (Cond.eq (.string "WhiteElephants$Tape" 61) (.string "WhiteElephants$Tape" 63))) (by decide +kernel))
    | 1, _, 3, _ => exact Or.inl (fl (Cond.not (Cond.eq (.string "WhiteElephants$Tape" 61) (.string "WhiteElephants$Tape" 65))) (by decide +kernel))
    | 1, _, 4, _ => exact Or.inl (fl (Cond.not (Cond.eq (.string "WhiteElephants$Tape" 61) (.string "WhiteElephants$Tape" 67))) (by decide +kernel))
    | 2, _, 0, _ => exact Or.inr (fl (Cond.not (Cond.eq (.string "WhiteElephants$Tape" 55) (.string "WhiteElephants$Tape" 63))) (by decide +kernel))
    | 2, _, 1, _ => exact Or.inr (fl (Cond.not (Cond.eq (.string "WhiteElephants$Tape" 61) (.string "WhiteElephants$Tape" 63))) (by decide +kernel))
    | 2, _, 2, _ => exact absurd rfl hij
    | 2, _, 3, _ => exact Or.inl (fl (Cond.not (Cond.eq (.string "WhiteElephants$Tape" 63) (.string "WhiteElephants$Tape" 65))) (by decide +kernel))
    | 2, _, 4, _ => exact Or.inl (fl (Cond.not (Cond.eq (.string "WhiteElephants$Tape" 63) (.string "WhiteElephants$Tape" 67))) (by decide +kernel))
    | 3, _, 0, _ => exact Or.inr (fl (Cond.not (Cond.eq (.string "WhiteElephants$Tape" 55) (.string "WhiteElephants$Tape" 65))) (by decide +kernel))
    | 3, _, 1, _ => exact Or.inr (fl (Cond.not (Cond.eq (.string "WhiteElephants$Tape" 61) (.string "WhiteElephants$Tape" 65))) (by decide +kernel))
    | 3, _, 2, _ => exact Or.inr (fl (Cond.not (Cond.eq (.string "WhiteElephants$Tape" 63) (.string "WhiteElephants$Tape" 65))) (by decide +kernel))
    | 3, _, 3, _ => exact absurd rfl hij
    | 3, _, 4, _ => exact Or.inl (fl (Cond.not (Cond.eq (.string "WhiteElephants$Tape" 65) (.string "WhiteElephants$Tape" 67))) (by decide +kernel))
    | 4, _, 0, _ => exact Or.inr (fl (Cond.not (Cond.eq (.string "WhiteElephants$Tape" 55) (.string "WhiteElephants$Tape" 67))) (by decide +kernel))
    | 4, _, 1, _ => exact Or.inr (fl (Cond.not (Cond.eq (.string "WhiteElephants$Tape" 61) (.string "WhiteElephants$Tape" 67))) (by decide +kernel))
    | 4, _, 2, _ => exact Or.inr (fl (Cond.not (Cond.eq (.string "WhiteElephants$Tape" 63) (.string "WhiteElephants$Tape" 67))) (by decide +kernel))
    | 4, _, 3, _ => exact Or.inr (fl (Cond.not (Cond.eq (.string "WhiteElephants$Tape" 65) (.string "WhiteElephants$Tape" 67))) (by decide +kernel))
    | 4, _, 4, _ => exact absurd rfl hij
    | i + 5, hi, _, _ => exact absurd hi (by omega)
    | 0, _, j + 5, hj => exact absurd hj (by omega)
    | 1, _, j + 5, hj => exact absurd hj (by omega)
    | 2, _, j + 5, hj => exact absurd hj (by omega)
    | 3, _, j + 5, hj => exact absurd hj (by omega)
    | 4, _, j + 5, hj => exact absurd hj (by omega)
theorem lx_start {A : Nat → Prop} (hts : ∀ w ∈ lw_tbl, w.before #[Value.ref b] s = true) (hgv : (Jvm.Cond.and given_1 narrow_1).before #[Value.ref b] s = true) (hA : ∀ a : Nat, a < s.heap.size → ¬ A a) : LX A s := by
  have fl := flat_of_before _ hgv
  obtain ⟨adK, adV, hv, he⟩ := str_start hgv hA
  refine ⟨⟨nn_start hts, va_Zof (hts (.laysStatic "java/lang/String" "COMPACT_STRINGS" "Z") (List.mem_of_getElem? (i := 701) (by decide +kernel))) (hts (.initialized "java/lang/String") (List.mem_of_getElem? (i := 78) (by decide +kernel))) (va_eqi (fl (Cond.eq (.static "java/lang/String" "COMPACT_STRINGS" "Z") (.int 1)) (by decide +kernel))) hA, ?_⟩, at_start hts hgv hA⟩
  intro q hq
  simp only [tapeL, List.mem_cons, List.not_mem_nil, or_false] at hq
  rcases hq with rfl | rfl | rfl | rfl | rfl
  · exact ⟨adK 0, adV 0, vk_R.of (hts (.stringRef "WhiteElephants$Tape" 55 "known") (List.mem_of_getElem? (i := 687) (by decide +kernel))) (he 0 (by decide)), (hv.1 0 (by decide)).1, (hv.1 0 (by decide)).2.1, (hv.1 0 (by decide)).2.2.1, _, (hv.1 0 (by decide)).2.2.2⟩
  · exact ⟨adK 1, adV 1, vk_R.of (hts (.stringRef "WhiteElephants$Tape" 61 "strange") (List.mem_of_getElem? (i := 740) (by decide +kernel))) (he 1 (by decide)), (hv.1 1 (by decide)).1, (hv.1 1 (by decide)).2.1, (hv.1 1 (by decide)).2.2.1, _, (hv.1 1 (by decide)).2.2.2⟩
  · exact ⟨adK 2, adV 2, vk_R.of (hts (.stringRef "WhiteElephants$Tape" 63 "round") (List.mem_of_getElem? (i := 741) (by decide +kernel))) (he 2 (by decide)), (hv.1 2 (by decide)).1, (hv.1 2 (by decide)).2.1, (hv.1 2 (by decide)).2.2.1, _, (hv.1 2 (by decide)).2.2.2⟩
  · exact ⟨adK 3, adV 3, vk_R.of (hts (.stringRef "WhiteElephants$Tape" 65 "least") (List.mem_of_getElem? (i := 742) (by decide +kernel))) (he 3 (by decide)), (hv.1 3 (by decide)).1, (hv.1 3 (by decide)).2.1, (hv.1 3 (by decide)).2.2.1, _, (hv.1 3 (by decide)).2.2.2⟩
  · exact ⟨adK 4, adV 4, vk_R.of (hts (.stringRef "WhiteElephants$Tape" 67 "most") (List.mem_of_getElem? (i := 743) (by decide +kernel))) (he 4 (by decide)), (hv.1 4 (by decide)).1, (hv.1 4 (by decide)).2.1, (hv.1 4 (by decide)).2.2.1, _, (hv.1 4 (by decide)).2.2.2⟩
end STA
set_option maxHeartbeats 4000000 in
set_option maxRecDepth 100000 in
/-- the loop, from its head, over two fresh objects -/
theorem law_head {p : Program} {e : Env} {s : State} {m : MethodId} {below : List Frame} {meth : Method} {c : Code} (l : Launch) (D : va_G) (cy : Nat → ClassId) (q u : Nat → Nat) (A : Nat → Prop) (hAe : ∀ w, A w → s.heap.size ≤ w) (hA : ∀ w, s.heap.size ≤ w → A w) {b L : Nat} {xs : Nat → Int32} (hL : L ≤ 6) (Sx : CallFix p m c code 4 s #[Value.ref b] BW "WhiteElephantsLaw") (hr : meth.sig.returnType = ret) (hlocks : meth.locks = false) (hK : va_K D cls (TY cy) s) (hX : LX A s) (hSc : va_X b L xs s s.heap) (hbl : b < s.heap.size) {H : Heap} {locs : List Loc} {ls : Array Slot} (hl : lv_has ls 4 [(3, .int 0), (2, .ref (u 60)), (1, .ref (q 0)), (0, .ref b)]) (hP : va_P D cls (wX cy q ++ wM cy u) H) (hD : va_D A (wX cy q ++ wM cy u)) (hS : va_S A s.heap H locs) : W p l e room_1 s m #[Value.ref b] below meth c H locs 155 19939 (lw_Z below #[Value.ref b] s) (F0 m 18 ls []) := by
  have hx := Sx.1
  have hb := Sx.2.1
  have hbA : ¬ A b := fun h => absurd (hAe b h) (Nat.not_le.mpr hbl)
  refine lv_iload_n hx hb dd_L_law_18 rfl (lv_at hl 0 rfl) ?_
  refine lv_aload_n hx hb dd_L_law_19 rfl (lv_at hl 3 rfl) ?_
  refine va_slen hx hb hSc hbl hbA hS dd_L_law_20 ?_
  refine lv_bipush (v := 6) hx hb dd_L_law_21 (by decide) ?_
  refine lv_isub hx hb dd_L_law_23 ?_
  rcases (show L = 0 ∨ L = 1 ∨ L = 2 ∨ L = 3 ∨ L = 4 ∨ L = 5 ∨ L = 6 by omega) with rfl | rfl | rfl | rfl | rfl | rfl | rfl
  · refine lv_icmp_gt (tgt := 1737) hx hb dd_L_law_24 (by decide) (fun _ => ?_) (fun c => absurd (by decide) c)
    exact law_exit l A hAe Sx hr hlocks hS (Nat.le_of_ble_eq_true rfl) (Nat.le_of_ble_eq_true rfl)
  · refine lv_icmp_gt (tgt := 1737) hx hb dd_L_law_24 (by decide) (fun _ => ?_) (fun c => absurd (by decide) c)
    exact law_exit l A hAe Sx hr hlocks hS (Nat.le_of_ble_eq_true rfl) (Nat.le_of_ble_eq_true rfl)
  · refine lv_icmp_gt (tgt := 1737) hx hb dd_L_law_24 (by decide) (fun _ => ?_) (fun c => absurd (by decide) c)
    exact law_exit l A hAe Sx hr hlocks hS (Nat.le_of_ble_eq_true rfl) (Nat.le_of_ble_eq_true rfl)
  · refine lv_icmp_gt (tgt := 1737) hx hb dd_L_law_24 (by decide) (fun _ => ?_) (fun c => absurd (by decide) c)
    exact law_exit l A hAe Sx hr hlocks hS (Nat.le_of_ble_eq_true rfl) (Nat.le_of_ble_eq_true rfl)
  · refine lv_icmp_gt (tgt := 1737) hx hb dd_L_law_24 (by decide) (fun _ => ?_) (fun c => absurd (by decide) c)
    exact law_exit l A hAe Sx hr hlocks hS (Nat.le_of_ble_eq_true rfl) (Nat.le_of_ble_eq_true rfl)
  · refine lv_icmp_gt (tgt := 1737) hx hb dd_L_law_24 (by decide) (fun _ => ?_) (fun c => absurd (by decide) c)
    exact law_exit l A hAe Sx hr hlocks hS (Nat.le_of_ble_eq_true rfl) (Nat.le_of_ble_eq_true rfl)
  · refine lv_icmp_gt (tgt := 1737) hx hb dd_L_law_24 (by decide) (fun c => absurd c (by decide)) (fun _ => ?_)
    refine lv_aload_n hx hb dd_L_law_27 rfl (lv_at hl 3 rfl) ?_
    refine lv_iload_n hx hb dd_L_law_28 rfl (lv_at hl 0 rfl) ?_
    refine va_sld hx hb hSc hbl hbA hS (i := 0) (vi_of (by decide)) dd_L_law_29 ?_
    refine wk_int (v := xs 0) rfl ?_
    refine lv_bipush (v := 63) hx hb dd_L_law_30 (by decide) ?_
    refine lv_iand hx hb dd_L_law_32 ?_
    obtain ⟨j, hj, ej⟩ := pk_andE (xs 0) (m := 63) 6 (by decide)
    refine wk_int ej ?_
    have hj64 : j < 64 := hj
    rcases (show j = 0 ∨ j = 1 ∨ j = 2 ∨ j = 3 ∨ j = 4 ∨ j = 5 ∨ j = 6 ∨ j = 7 ∨ j = 8 ∨ j = 9 ∨ j = 10 ∨ j = 11 ∨ j = 12 ∨ j = 13 ∨ j = 14 ∨ j = 15 ∨ j = 16 ∨ j = 17 ∨ j = 18 ∨ j = 19 ∨ j = 20 ∨ j = 21 ∨ j = 22 ∨ j = 23 ∨ j = 24 ∨ j = 25 ∨ j = 26 ∨ j = 27 ∨ j = 28 ∨ j = 29 ∨ j = 30 ∨ j = 31 ∨ j = 32 ∨ j = 33 ∨ j = 34 ∨ j = 35 ∨ j = 36 ∨ j = 37 ∨ j = 38 ∨ j = 39 ∨ j = 40 ∨ j = 41 ∨ j = 42 ∨ j = 43 ∨ j = 44 ∨ j = 45 ∨ j = 46 ∨ j = 47 ∨ 48 ≤ j by omega) with rfl | rfl | rfl | rfl | rfl | rfl | rfl | rfl | rfl | rfl | rfl | rfl | rfl | rfl | rfl | rfl | rfl | rfl | rfl | rfl | rfl | rfl | rfl | rfl | rfl | rfl | rfl | rfl | rfl | rfl | rfl | rfl | rfl | rfl | rfl | rfl | rfl | rfl | rfl | rfl | rfl | rfl | rfl | rfl | rfl | rfl | rfl | rfl | hj48
    · refine lv_tableIn (off := 207) (tgt := 240) hx hb dd_L_law_33 (by decide) (by decide) rfl (by decide) ?_
      exact law_case_0 l D cy q u A hAe hA Sx hr hlocks hK hX hSc hbl hl hP hD hS
    · refine lv_tableIn (off := 250) (tgt := 283) hx hb dd_L_law_33 (by decide) (by decide) rfl (by decide) ?_
      exact law_case_1 l D cy q u A hAe hA Sx hr hlocks hK hX hSc hbl hl hP hD hS
    · refine lv_tableIn (off := 323) (tgt := 356) hx hb dd_L_law_33 (by decide) (by decide) rfl (by decide) ?_
      exact law_case_2 l D cy q u A hAe hA Sx hr hlocks hK hX hSc hbl hl hP hD hS
    · refine lv_tableIn (off := 386) (tgt := 419) hx hb dd_L_law_33 (by decide) (by decide) rfl (by decide) ?_
      exact law_case_3 l D cy q u A hAe hA Sx hr hlocks hK hX hSc hbl hl hP hD hS
    · refine lv_tableIn (off := 420) (tgt := 453) hx hb dd_L_law_33 (by decide) (by decide) rfl (by decide) ?_
      exact law_case_4 l D cy q u A hAe hA Sx hr hlocks hK hX hSc hbl hl hP hD hS
    · refine lv_tableIn (off := 443) (tgt := 476) hx hb dd_L_law_33 (by decide) (by decide) rfl (by decide) ?_
      exact law_case_5 l D cy q u A hAe hA Sx hr hlocks hK hX hSc hbl hl hP hD hS
    · refine lv_tableIn (off := 476) (tgt := 509) hx hb dd_L_law_33 (by decide) (by decide) rfl (by decide) ?_
      exact law_case_6 l D cy q u A hAe hA Sx hr hlocks hK hX hSc hbl hl hP hD hS
    · refine lv_tableIn (off := 509) (tgt := 542) hx hb dd_L_law_33 (by decide) (by decide) rfl (by decide) ?_
      exact law_case_7 l D cy q u A hAe hA Sx hr hlocks hK hX hSc hbl hl hP hD hS
    · refine lv_tableIn (off := 552) (tgt := 585) hx hb dd_L_law_33 (by decide) (by decide) rfl (by decide) ?_
      exact law_case_8 l D cy q u A hAe hA Sx hr hlocks hK hX hSc hbl hl hP hD hS
    · refine lv_tableIn (off := 595) (tgt := 628) hx hb dd_L_law_33 (by decide) (by decide) rfl (by decide) ?_
      exact law_case_9 l D cy q u A hAe hA Sx hr hlocks hK hX hSc hbl hl hP hD hS
    · refine lv_tableIn (off := 628) (tgt := 661) hx hb dd_L_law_33 (by decide) (by decide) rfl (by decide) ?_
      exact law_case_10 l D cy q u A hAe hA Sx hr hlocks hK hX hSc hbl hl hP hD hS
    · refine lv_tableIn (off := 661) (tgt := 694) hx hb dd_L_law_33 (by decide) (by decide) rfl (by decide) ?_
      exact law_case_11 l D cy q u A hAe hA Sx hr hlocks hK hX hSc hbl hl hP hD hS
    · refine lv_tableIn (off := 694) (tgt := 727) hx hb dd_L_law_33 (by decide) (by decide) rfl (by decide) ?_
      exact law_case_12 l D cy q u A hAe hA Sx hr hlocks hK hX hSc hbl hl hP hD hS
    · refine lv_tableIn (off := 727) (tgt := 760) hx hb dd_L_law_33 (by decide) (by decide) rfl (by decide) ?_
      exact law_case_13 l D cy q u A hAe hA Sx hr hlocks hK hX hSc hbl hl hP hD hS
    · refine lv_tableIn (off := 760) (tgt := 793) hx hb dd_L_law_33 (by decide) (by decide) rfl (by decide) ?_
      exact law_case_14 l D cy q u A hAe hA Sx hr hlocks hK hX hSc hbl hl hP hD hS
    · refine lv_tableIn (off := 773) (tgt := 806) hx hb dd_L_law_33 (by decide) (by decide) rfl (by decide) ?_
      exact law_case_15 l D cy q u A hAe hA Sx hr hlocks hK hX hSc hbl hl hP hD hS
    · refine lv_tableIn (off := 786) (tgt := 819) hx hb dd_L_law_33 (by decide) (by decide) rfl (by decide) ?_
      exact law_case_16 l D cy q u A hAe hA Sx hr hlocks hK hX hSc hbl hl hP hD hS
    · refine lv_tableIn (off := 819) (tgt := 852) hx hb dd_L_law_33 (by decide) (by decide) rfl (by decide) ?_
      exact law_case_17 l D cy q u A hAe hA Sx hr hlocks hK hX hSc hbl hl hP hD hS
    · refine lv_tableIn (off := 878) (tgt := 911) hx hb dd_L_law_33 (by decide) (by decide) rfl (by decide) ?_
      exact law_case_18 l D cy q u A hAe hA Sx hr hlocks hK hX hSc hbl hl hP hD hS
    · refine lv_tableIn (off := 911) (tgt := 944) hx hb dd_L_law_33 (by decide) (by decide) rfl (by decide) ?_
      exact law_case_19 l D cy q u A hAe hA Sx hr hlocks hK hX hSc hbl hl hP hD hS
    · refine lv_tableIn (off := 944) (tgt := 977) hx hb dd_L_law_33 (by decide) (by decide) rfl (by decide) ?_
      exact law_case_20 l D cy q u A hAe hA Sx hr hlocks hK hX hSc hbl hl hP hD hS
    · refine lv_tableIn (off := 997) (tgt := 1030) hx hb dd_L_law_33 (by decide) (by decide) rfl (by decide) ?_
      exact law_case_21 l D cy q u A hAe hA Sx hr hlocks hK hX hSc hbl hl hP hD hS
    · refine lv_tableIn (off := 1030) (tgt := 1063) hx hb dd_L_law_33 (by decide) (by decide) rfl (by decide) ?_
      exact law_case_22 l D cy q u A hAe hA Sx hr hlocks hK hX hSc hbl hl hP hD hS
    · refine lv_tableIn (off := 1063) (tgt := 1096) hx hb dd_L_law_33 (by decide) (by decide) rfl (by decide) ?_
      exact law_case_23 l D cy q u A hAe hA Sx hr hlocks hK hX hSc hbl hl hP hD hS
    · refine lv_tableIn (off := 1096) (tgt := 1129) hx hb dd_L_law_33 (by decide) (by decide) rfl (by decide) ?_
      exact law_case_24 l D cy q u A hAe hA Sx hr hlocks hK hX hSc hbl hl hP hD hS
    · refine lv_tableIn (off := 1129) (tgt := 1162) hx hb dd_L_law_33 (by decide) (by decide) rfl (by decide) ?_
      exact law_case_25 l D cy q u A hAe hA Sx hr hlocks hK hX hSc hbl hl hP hD hS
    · refine lv_tableIn (off := 1162) (tgt := 1195) hx hb dd_L_law_33 (by decide) (by decide) rfl (by decide) ?_
      exact law_case_26 l D cy q u A hAe hA Sx hr hlocks hK hX hSc hbl hl hP hD hS
    · refine lv_tableIn (off := 1175) (tgt := 1208) hx hb dd_L_law_33 (by decide) (by decide) rfl (by decide) ?_
      exact law_case_27 l D cy q u A hAe hA Sx hr hlocks hK hX hSc hbl hl hP hD hS
    · refine lv_tableIn (off := 1198) (tgt := 1231) hx hb dd_L_law_33 (by decide) (by decide) rfl (by decide) ?_
      exact law_case_28 l D cy q u A hAe hA Sx hr hlocks hK hX hSc hbl hl hP hD hS
    · refine lv_tableIn (off := 1221) (tgt := 1254) hx hb dd_L_law_33 (by decide) (by decide) rfl (by decide) ?_
      exact law_case_29 l D cy q u A hAe hA Sx hr hlocks hK hX hSc hbl hl hP hD hS
    · refine lv_tableIn (off := 1254) (tgt := 1287) hx hb dd_L_law_33 (by decide) (by decide) rfl (by decide) ?_
      exact law_case_30 l D cy q u A hAe hA Sx hr hlocks hK hX hSc hbl hl hP hD hS
    · refine lv_tableIn (off := 1277) (tgt := 1310) hx hb dd_L_law_33 (by decide) (by decide) rfl (by decide) ?_
      exact law_case_31 l D cy q u A hAe hA Sx hr hlocks hK hX hSc hbl hl hP hD hS
    · refine lv_tableIn (off := 1300) (tgt := 1333) hx hb dd_L_law_33 (by decide) (by decide) rfl (by decide) ?_
      exact law_case_32 l D cy q u A hAe hA Sx hr hlocks hK hX hSc hbl hl hP hD hS
    · refine lv_tableIn (off := 1313) (tgt := 1346) hx hb dd_L_law_33 (by decide) (by decide) rfl (by decide) ?_
      exact law_case_33 l D cy q u A hAe hA Sx hr hlocks hK hX hSc hbl hl hP hD hS
    · refine lv_tableIn (off := 1336) (tgt := 1369) hx hb dd_L_law_33 (by decide) (by decide) rfl (by decide) ?_
      exact law_case_34 l D cy q u A hAe hA Sx hr hlocks hK hX hSc hbl hl hP hD hS
    · refine lv_tableIn (off := 1359) (tgt := 1392) hx hb dd_L_law_33 (by decide) (by decide) rfl (by decide) ?_
      exact law_case_35 l D cy q u A hAe hA Sx hr hlocks hK hX hSc hbl hl hP hD hS
    · refine lv_tableIn (off := 1382) (tgt := 1415) hx hb dd_L_law_33 (by decide) (by decide) rfl (by decide) ?_
      exact law_case_36 l D cy q u A hAe hA Sx hr hlocks hK hX hSc hbl hl hP hD hS
    · refine lv_tableIn (off := 1435) (tgt := 1468) hx hb dd_L_law_33 (by decide) (by decide) rfl (by decide) ?_
      exact law_case_37 l D cy q u A hAe hA Sx hr hlocks hK hX hSc hbl hl hP hD hS
    · refine lv_tableIn (off := 1468) (tgt := 1501) hx hb dd_L_law_33 (by decide) (by decide) rfl (by decide) ?_
      exact law_case_38 l D cy q u A hAe hA Sx hr hlocks hK hX hSc hbl hl hP hD hS
    · refine lv_tableIn (off := 1481) (tgt := 1514) hx hb dd_L_law_33 (by decide) (by decide) rfl (by decide) ?_
      exact law_case_39 l D cy q u A hAe hA Sx hr hlocks hK hX hSc hbl hl hP hD hS
    · refine lv_tableIn (off := 1494) (tgt := 1527) hx hb dd_L_law_33 (by decide) (by decide) rfl (by decide) ?_
      exact law_case_40 l D cy q u A hAe hA Sx hr hlocks hK hX hSc hbl hl hP hD hS
    · refine lv_tableIn (off := 1527) (tgt := 1560) hx hb dd_L_law_33 (by decide) (by decide) rfl (by decide) ?_
      exact law_case_41 l D cy q u A hAe hA Sx hr hlocks hK hX hSc hbl hl hP hD hS
    · refine lv_tableIn (off := 1560) (tgt := 1593) hx hb dd_L_law_33 (by decide) (by decide) rfl (by decide) ?_
      exact law_case_42 l D cy q u A hAe hA Sx hr hlocks hK hX hSc hbl hl hP hD hS
    · refine lv_tableIn (off := 1593) (tgt := 1626) hx hb dd_L_law_33 (by decide) (by decide) rfl (by decide) ?_
      exact law_case_43 l D cy q u A hAe hA Sx hr hlocks hK hX hSc hbl hl hP hD hS
    · refine lv_tableIn (off := 1616) (tgt := 1649) hx hb dd_L_law_33 (by decide) (by decide) rfl (by decide) ?_
      exact law_case_44 l D cy q u A hAe hA Sx hr hlocks hK hX hSc hbl hl hP hD hS
    · refine lv_tableIn (off := 1649) (tgt := 1682) hx hb dd_L_law_33 (by decide) (by decide) rfl (by decide) ?_
      exact law_case_45 l D cy q u A hAe hA Sx hr hlocks hK hX hSc hbl hl hP hD hS
    · refine lv_tableIn (off := 1662) (tgt := 1695) hx hb dd_L_law_33 (by decide) (by decide) rfl (by decide) ?_
      exact law_case_46 l D cy q u A hAe hA Sx hr hlocks hK hX hSc hbl hl hP hD hS
    · refine lv_tableIn (off := 1675) (tgt := 1708) hx hb dd_L_law_33 (by decide) (by decide) rfl (by decide) ?_
      exact law_case_47 l D cy q u A hAe hA Sx hr hlocks hK hX hSc hbl hl hP hD hS
    · refine lv_tableOut (tgt := 1731) hx hb dd_L_law_33 (Or.inr (by rw [nI_toInt (by omega)]; omega)) (by decide) ?_
      exact law_again l A hAe Sx hr hlocks hSc hbl hS ls (lv_sub hl [0, 3] rfl)
set_option maxHeartbeats 4000000 in
set_option maxRecDepth 100000 in
theorem whole_start {p : Program} {e : Env} {s : State} {m : MethodId} {below : List Frame} {meth : Method} {c : Code} (l : Launch) (hflags : l.flags = flags0) {b L : Nat} {xs : Nat → Int32} (hL : L ≤ 6) (C0 : lw_At p s m meth c b L xs) : W p l e room_1 s m #[Value.ref b] below meth c s.heap [] 0 0 (lw_Z below #[Value.ref b] s) (entryFrame m ([Value.ref b] : List Value).toArray 4) := by
  obtain ⟨hx, hb, hr, hml, hown, hts, hSc, hbl, hlocks, hgv⟩ := id C0
  obtain ⟨D, hKc⟩ := k_start hts
  obtain ⟨cI, aI, rI⟩ := ar_start .int (hts (.arrayClass .int) (List.mem_of_getElem? (i := 112) (by decide +kernel)))
  obtain ⟨cB, aB, rB⟩ := ar_start .byte (hts (.arrayClass .byte) (List.mem_of_getElem? (i := 113) (by decide +kernel)))
  obtain ⟨cJ, aJ, rJ⟩ := ar_start .long (hts (.arrayClass .long) (List.mem_of_getElem? (i := 441) (by decide +kernel)))
  obtain ⟨cZ, aZ, rZ⟩ := ar_start .boolean (hts (.arrayClass .boolean) (List.mem_of_getElem? (i := 1315) (by decide +kernel)))
  obtain ⟨A, hAd⟩ : ∃ A : Nat → Prop, A = fun w => s.heap.size ≤ w := ⟨_, rfl⟩
  have hAe : ∀ w, A w → s.heap.size ≤ w := by rw [hAd]; exact fun _ h => h
  have hA : ∀ w, s.heap.size ≤ w → A w := by rw [hAd]; exact fun _ h => h
  have hX : LX A s := lx_start hts hgv (fun a h1 h2 => absurd (hAe a h2) (Nat.not_le.mpr h1))
  have hNN := nn_start hts
  have hAO := ao_start hts
  obtain ⟨cy, hcy⟩ : ∃ z : Nat → ClassId, z = fun k => ([cI, cB, cJ, cZ] : List ClassId).getD k 0 := ⟨_, rfl⟩
  have hK : va_K D cls (TY4 cy) s := by
    subst hcy
    refine ⟨hKc, fun k q hk => ?_⟩
    match k, hk with
    | 0, hk => cases hk; exact ⟨aI, rI⟩
    | 1, hk => cases hk; exact ⟨aB, rB⟩
    | 2, hk => cases hk; exact ⟨aJ, rJ⟩
    | 3, hk => cases hk; exact ⟨aZ, rZ⟩
    | k + 4, hk => simp at hk
  clear hcy
  have hS : va_S A s.heap s.heap [] := va_S.rf
  have Sx : CallFix p m c code 4 s #[Value.ref b] BW "WhiteElephantsLaw" := ⟨hx, hb, hml, hown, tb_bw hts⟩
  have hl := lv_entry ([.ref b]) (n := 4) (Nat.le_of_ble_eq_true rfl)
  rw [lg_entry_eq]
  generalize (lg_sl ([.ref b]) ++ List.replicate (4 - (lg_sl ([.ref b])).length) Slot.unset).toArray = ls at hl ⊢
  have hl : lv_has ls 4 [(0, .ref b)] := hl
  have hP : va_P D cls [] s.heap := p_nil
  have hD : va_D A [] := d_nil
  refine wk_new (fs := [.null, .null, .null, .null, .null, .null, .null, .int 0]) (c1 := 1) (s1 := 8) Sx ef_11 hK hP hD hS hA (ci := 11) rfl kk_22 kk_23 kk_1 nd_11 (Nat.le_of_ble_eq_true rfl) (Nat.le_of_ble_eq_true rfl) rfl rfl dd_L_law_0 (fun n1 H hP hD hS => ?_)
  have hP : va_P D cls [(n1, .inr (11, [.null, .null, .null, .null, .null, .null, .null, .int 0]))] H := hP
  have hD : va_D A [(n1, .inr (11, [.null, .null, .null, .null, .null, .null, .null, .int 0]))] := hD
  refine lv_dup hx hb dd_L_law_3 rfl ?_
  refine hk_vK (wr := []) (c1 := 113) (s1 := 12135) [0] [] (hc_I [] [.ref n1] [0] Sx hl.1 ws_L_9 md_X11_init rfl (c_init_X l D cy n1) ⟨Nat.le_of_ble_eq_true rfl, Nat.le_of_ble_eq_true rfl⟩ hP hD rfl (by decide) hK (fun _ _ U _ _ h => ⟨NN.call h.1, va_AO.moved (Vm.Alike.refl U.vm) h.2⟩) (fun U _ hW => ⟨NN.warm hW hNN, va_AO.moved hW.alike hAO⟩) rfl rfl (Nat.le_of_ble_eq_true rfl) dd_L_law_4 ⟨Nat.le_of_ble_eq_true rfl, Nat.le_of_ble_eq_true rfl⟩) hS hA hP hD rfl rfl (by decide) (by decide) rfl rfl (fun u H locs hw hP' hD' hK' hS' => ?_)
  replace hS := hS'
  clear hP hD hS' hK
  obtain ⟨cS, q⟩ := u
  have hw : q 0 = n1 := hw
  subst hw
  have hP : va_P D cls (wX (cyS cy cS) q) H := hP'
  have hD : va_D A (wX (cyS cy cS) q) := hD'
  have hK : va_K D cls (TY (cyS cy cS)) s := hK'
  clear hP' hD' hK'
  generalize cyS cy cS = cy at hP hD hK
  refine lv_astore_n (lv' := [(1, .ref (q 0)), (0, .ref b)]) hx hb dd_L_law_7 rfl hl (by decide) rfl (fun ls hl => ?_)
  refine wk_new (fs := [.null, .null, .null, .int 0, .null, .null, .null, .null, .null, .null, .int 0, .null, .null, .null, .int 0, .null, .int 0, .null, .int 0, .null, .null, .null, .null, .null, .int 0, .null, .int 0, .null, .null, .null, .null, .int 0, .null, .null, .null, .null, .null, .int 0, .null, .null, .null, .null, .null, .null, .null, .null, .null, .null, .null, .null, .null]) (c1 := 114) (s1 := 12186) Sx ef_12 hK hP hD hS hA (ci := 12) rfl kk_1095 kk_1096 kk_13 nd_12 (Nat.le_of_ble_eq_true rfl) (Nat.le_of_ble_eq_true rfl) rfl rfl dd_L_law_8 (fun n2 H hP1 hD1 hS1 => ?_)
  refine lv_dup hx hb dd_L_law_11 rfl ?_
  refine hk_v (wr := wX cy q) (c1 := 155) (s1 := 19939) [113] [0, 1, 2, 3, 4, 5, 6, 7, 8, 9, 10, 11, 12, 13, 14, 15, 16, 17, 18, 19, 20, 21, 22, 23, 24, 25, 26, 27, 28, 29, 30, 31, 32, 33, 34, 35, 36, 37, 38, 39, 40, 41, 42, 43, 44, 45, 46, 47, 48, 49, 50, 51, 52, 53, 54, 55, 56, 57, 58, 59, 60, 61, 62, 63, 64, 65, 66, 67, 68, 69, 70, 71, 72, 73, 74, 75, 76, 77, 78, 79, 80, 81, 82, 83, 84, 85, 86, 87, 88, 89, 90, 91, 92, 93, 94, 95, 96, 97, 98, 99, 100, 101, 102, 103, 104, 105, 106, 107, 108, 109, 110, 111, 112] (hc_I [] [.ref n2] [113] Sx hl.1 ws_L_12 md_X12_init rfl (c_init_M l D cy n2) ⟨Nat.le_of_ble_eq_true rfl, Nat.le_of_ble_eq_true rfl⟩ hP1 hD1 rfl (by decide) hK nx_b (nx_w hNN) rfl rfl (Nat.le_of_ble_eq_true rfl) dd_L_law_12 ⟨Nat.le_of_ble_eq_true rfl, Nat.le_of_ble_eq_true rfl⟩) hS1 hA hP1 hD1 rfl rfl (by decide +kernel) (by decide +kernel) rfl rfl (fun u H locs hw hP' hD' hS' => ?_)
  clear hP1 hD1 hS1 hP hD hS
  have hw : u 60 = n2 := hw
  subst hw
  have hP : va_P D cls (wX cy q ++ wM cy u) H := hP'
  have hD : va_D A (wX cy q ++ wM cy u) := hD'
  clear hP' hD'
  refine lv_astore_n (lv' := [(2, .ref (u 60)), (1, .ref (q 0)), (0, .ref b)]) hx hb dd_L_law_15 rfl hl (by decide) rfl (fun ls hl => ?_)
  refine lv_iconst (v := 0) hx hb dd_L_law_16 (by decide) ?_
  refine lv_istore_n (lv' := [(3, .int 0), (2, .ref (u 60)), (1, .ref (q 0)), (0, .ref b)]) hx hb dd_L_law_17 rfl hl (by decide) rfl (fun ls hl => ?_)
  exact law_head l D cy q u A hAe hA hL Sx hr hlocks hK hX hSc hbl hl hP hD hS'
set_option maxHeartbeats 4000000 in
theorem lw_walk (l : Launch) (hflags : l.flags = flags0) (b : Addr) (xs : List Int32) : MetFree l x (headSpec (Jvm.Cond.code x code maxLocals ret :: tables_1) room_1) (lw_P b xs) (fun _ _ _ _ _ => True) lw_Q := by
  refine MetFree.of_bodyS (code := code) (maxLocals := maxLocals) (ret := ret) (by decide) ?_ ?_
  · intro args s m h hn
    obtain ⟨meth, c, h1, h2, h3, h4, h5, h6, -, -⟩ := Cond.code_spec hn (atoms_spec (ws := Jvm.Cond.code x code maxLocals ret :: tables_1) h _ List.mem_cons_self)
    exact ⟨meth, c, h1, h2, h3, h4, h5, h6⟩
  · intro p e s m args below meth c s₁ B hml0 hP _
    obtain ⟨rfl, hx, hbd, hgv⟩ := hP
    obtain ⟨scr, harrAt, hlist, hof, hsmall⟩ := hx
    obtain ⟨hcb, hkn, -, -⟩ := State.arrayAt?_spec harrAt
    have hown : s.vm.findClass R_law = some m.cls := findClass_of_methodNamed B.named
    have hts0 : ∀ c ∈ (Jvm.Cond.code x code maxLocals ret :: tables_1), c.before #[Value.ref b] s = true := atoms_spec (ws := Jvm.Cond.code x code maxLocals ret :: tables_1) B.pre
    have hts : ∀ w ∈ lw_tbl, w.before #[Value.ref b] s = true := k2_hts_sels lw_privs (fun w hw => hts0 w (List.mem_cons_of_mem _ hw)) lw_privs_ok
    have hml : c.maxLocals = 4 := B.maxLocals_eq (hts0 _ List.mem_cons_self)
    have X₀ : Stand p l e room_1 s m #[Value.ref b] below meth c s₁ [] 0 0 := Stand.of_body B
    have hh0 : s₁.heap = s.heap := by rw [B.state]; rfl
    have hsz : scr.slots.size = xs.length := by rw [← Array.length_toList, hlist, List.length_map]
    have hval : ∀ j : Nat, j < xs.length → scr.slots[j]? = some (.int (xs.getD j 0)) := fun j hj => by
      rw [← Array.getElem?_toList, hlist]
      simp [hj]
    have hbl : b < s.heap.size := (Array.getElem?_eq_some_iff.mp hcb).1
    have hX : va_X b xs.length (fun j => xs.getD j 0) s s.heap := ⟨scr, hcb, hof, hkn, hsz, hval⟩
    have K : W p l e room_1 s m #[Value.ref b] below meth c s₁.heap [] 0 0 (lw_Z below #[Value.ref b] s) (entryFrame m ([Value.ref b] : List Value).toArray 4) := by
      rw [hh0]
      exact whole_start l hflags hbd ⟨B.exec, B.bytes, B.returns, hml, hown, hts, hX, hbl, B.notSynchronized, hgv⟩
    obtain ⟨t, a1, o, b1, b2, b3⟩ := K s₁ rfl X₀
    exact ⟨t, o, a1, b1, b2, b3⟩
theorem lw_pre_spec {args : Array Value} {s : State} (h : (Jvm.Cond.and given_1 narrow_1).before args s = true) (hr : rest_1_c.before args s = true) : ∃ (b : Addr) (xs : List Int32), lw_P b xs args s := by
  have hs := flat_of_before _ h
  have hq := flat_of_before _ hr
  have hc : (Cond.count 1).before args s = true := hs _ (by decide +kernel)
  have harr : (Cond.arrayOf (.arg 0) .int).before args s = true := hs _ (by decide +kernel)
  have hle : (Cond.le (.length (.arg 0)) (.int 6)).before args s = true := hs _ (by decide +kernel)
  have hlen : (Cond.isInt (.length (.arg 0))).before args s = true := hq _ (by decide +kernel)
  have hall : (Cond.all (.arg 0) (.isInt (.elem (.arg 0) (.index 0)))).before args s = true := hq _ (by decide +kernel)
  obtain ⟨b, xs, hb, hx⟩ := State.ints_of_pre rfl harr hlen hall
  have hsm : xs.length < 2 ^ 31 := hx.choose_spec.2.2.2
  have hev : (Term.length (.arg 0)).eval args s none [] s = some (.int xs.length.toInt32) := hx.length_eval hb
  have hv := Cond.le_ints hev (show (Term.int 6).eval args s none [] s = some (.int 6) from rfl)
  have hd : xs.length.toInt32 ≤ 6 := by
    simpa [Cond.before, Cond.holds, hv] using hle
  have hN : xs.length ≤ 6 := (Int32.ofNat_le_ofNat hsm (by decide)).mp (show Int32.ofNat xs.length ≤ Int32.ofNat 6 from hd)
  exact ⟨b, xs, Cond.one_arg hc (show args[0]? = some (.ref b) from hb), hx, hN, h⟩
theorem lw_comes (l : Launch) (hflags : l.flags = flags0) : Comes l x (Jvm.Cond.code x code maxLocals ret :: tables_1) room_1 (fun tb e args s => Calls_1 tb e args s ∧ rest_1 tb e args s ∧ Pre_1 tb e args s)
    (fun _ _ args s o t => lw_Q args s o t) := by
  intro p e ha hc hk s m args below hf hfit hheap happ hpre
  obtain ⟨b, xs, hP⟩ := lw_pre_spec hpre.2.2 hpre.2.1
  obtain ⟨k, o, h1, h2, h3, hQ⟩ := lw_walk l hflags b xs p e ha hc hk s m args below hf ((Spec.applies_iff_loose hf).mp happ).1 hP trivial
  exact ⟨k, o, h1, h2, h3, hQ⟩
theorem lw_frame {s t : State} {o : Outcome} {args : Array Value} (h : Framed s o t [] 600000 7302250) :
    Framed s o t (fieldLocs frame_1_writes args s ++ arrayLocs frame_1_arrays args s ++ staticLocs frame_1_statics s) 600000 7302250 := h
theorem lw_limb (L : Cond) (hL : ∀ (args : Array Value) (s t : State), L.after args s (.returned (some (.int 1))) t = true) :
    ArmFor flags0 classFile x code maxLocals ret World_1 tables_1 room_1 Calls_1 rest_1 Pre_1
      (fun tb e a s o t => postC L tb e a s o t ∧ Framed s o t (fieldLocs frame_1_writes a s ++ arrayLocs frame_1_arrays a s ++ staticLocs frame_1_statics s) 600000 7302250) := by
  intro l hflags _ _ p e ha hc hk s m args below hf hfit hheap happ hpre
  obtain ⟨k, o, h1, h2, h3, rfl, hF⟩ := lw_comes l hflags p e ha hc hk s m args below hf hfit hheap happ hpre
  exact ⟨k, _, h1, h2, h3, hL args s _, lw_frame hF⟩
theorem i_vc : Claimed_1_1 ∧ Claimed_1_2 := ⟨lw_limb limb_1_1 (fun args s t => by simp [limb_1_1, Cond.after, Cond.holds, Cond.value]), lw_limb limb_1_2 (fun args s t => Cond.after_iff.mpr (by
  first | (rw [show limb_1_2 = Cond.eq .result (.int 1) from rfl, Cond.eq_ints (x := 1) (y := 1) rfl rfl]; simp; done) | (simp [limb_1_2, Cond.value, Term.eval]; done)))⟩
