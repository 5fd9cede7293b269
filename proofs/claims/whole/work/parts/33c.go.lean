/-! from the law's entry to its loop -/
set_option maxHeartbeats 4000000 in
set_option maxRecDepth 100000 in
theorem lw_go {p : Program} {e : Env} {s : State} {m : MethodId} {below : List Frame} {meth : Method} {c : Code} (l : Launch) {b L : Nat} {xs : Nat → Int32} (hL : L ≤ 3072) (hx : p.tables.exec = Jvm.exec) (hb : c.code = code) (hr : meth.sig.returnType = ret) (hml : c.maxLocals = 4) (hown : s.vm.findClass "WhiteElephantsLaw" = some m.cls) (hts : ∀ w ∈ lw_tbl, w.before #[Value.ref b] s = true) (hSc : va_X b L xs s s.heap) (hbl : b < s.heap.size) (hlocks : meth.locks = false) (hgv : (Jvm.Cond.and given_1 narrow_1).before #[Value.ref b] s = true) : W p l e room_1 s m #[Value.ref b] below meth c s.heap [] 0 0 (lwE below b s) (entryFrame m ([Value.ref b] : List Value).toArray 4) := by
  obtain ⟨D, hKc⟩ := k_start hts
  obtain ⟨cI, aI, rI⟩ := ar_start .int (hts (.arrayClass .int) (List.mem_of_getElem? (i := 112) (by decide +kernel)))
  obtain ⟨cB, aB, rB⟩ := ar_start .byte (hts (.arrayClass .byte) (List.mem_of_getElem? (i := 113) (by decide +kernel)))
  obtain ⟨cJ, aJ, rJ⟩ := ar_start .long (hts (.arrayClass .long) (List.mem_of_getElem? (i := 441) (by decide +kernel)))
  obtain ⟨cZ, aZ, rZ⟩ := ar_start .boolean (hts (.arrayClass .boolean) (List.mem_of_getElem? (i := 1315) (by decide +kernel)))
  obtain ⟨A, hAd⟩ : ∃ A : Nat → Prop, A = fun w => s.heap.size ≤ w := ⟨_, rfl⟩
  have hAe : ∀ w, A w → s.heap.size ≤ w := by rw [hAd]; exact fun _ h => h
  have hA : ∀ w, s.heap.size ≤ w → A w := by rw [hAd]; exact fun _ h => h
  obtain ⟨ad, hX⟩ := sx_start hts hgv (A := A) (fun a h1 h2 => absurd (hAe a h2) (Nat.not_le.mpr h1))
  have hNN := nn_start hts
  have hAO := ao_start hts
  obtain ⟨cy, hcy⟩ : ∃ z : Nat → ClassId, z = fun k => ([cI, cB, cJ, cZ] : List ClassId).getD k 0 := ⟨_, rfl⟩
  have hK : va_K D cls (TY4 cy) s := by
    subst hcy
    refine ⟨hKc, fun k q hk => ?_⟩
    match k, hk with
    | 0, hk => cases hk; exact ⟨aI, rI⟩
    | 1, hk => cases hk; exact ⟨aB, rB⟩
    | 2, hk => cases hk; exact ⟨aJ, rJ⟩
    | 3, hk => cases hk; exact ⟨aZ, rZ⟩
    | k + 4, hk => simp at hk
  clear hcy
  have hS : va_S A s.heap s.heap [] := va_S.rf
  have Sx : CallFix p m c code 4 s #[Value.ref b] BW "WhiteElephantsLaw" := ⟨hx, hb, hml, hown, tb_bw hts⟩
  have hl := lv_entry ([.ref b]) (n := 4) (Nat.le_of_ble_eq_true rfl)
  rw [lg_entry_eq]
  generalize (lg_sl ([.ref b]) ++ List.replicate (4 - (lg_sl ([.ref b])).length) Slot.unset).toArray = ls at hl ⊢
  have hl : lv_has ls 4 [(0, .ref b)] := hl
  have hP : va_P D cls [] s.heap := p_nil
  have hD : va_D A [] := d_nil
  refine wk_new (fs := [.null, .null, .null, .null, .null, .null, .null, .int 0]) (c1 := 1) (s1 := 8) Sx ef_11 hK hP hD hS hA (ci := 11) rfl kk_22 kk_23 kk_1 nd_11 (Nat.le_of_ble_eq_true rfl) (Nat.le_of_ble_eq_true rfl) rfl rfl dd_L_law_0 (fun n1 H hP hD hS => ?_)
  have hP : va_P D cls [(n1, .inr (11, [.null, .null, .null, .null, .null, .null, .null, .int 0]))] H := hP
  have hD : va_D A [(n1, .inr (11, [.null, .null, .null, .null, .null, .null, .null, .int 0]))] := hD
  refine lv_dup hx hb dd_L_law_3 rfl ?_
  refine hk_vK (wr := []) (c1 := 113) (s1 := 12135) [0] [] (hc_I [] [.ref n1] [0] Sx hl.1 ws_L_9 md_X11_init rfl (c_init_X l D cy n1) ⟨Nat.le_of_ble_eq_true rfl, Nat.le_of_ble_eq_true rfl⟩ hP hD rfl (by decide) hK (fun _ _ U _ _ h => ⟨NN.call h.1, va_AO.moved (Vm.Alike.refl U.vm) h.2⟩) (fun U _ hW => ⟨NN.warm hW hNN, va_AO.moved hW.alike hAO⟩) rfl rfl (Nat.le_of_ble_eq_true rfl) dd_L_law_4 ⟨Nat.le_of_ble_eq_true rfl, Nat.le_of_ble_eq_true rfl⟩) hS hA hP hD rfl rfl (by decide) (by decide) rfl rfl (fun u H locs hw hP' hD' hK' hS' => ?_)
  replace hS := hS'
  clear hP hD hS' hK
  obtain ⟨cS, q⟩ := u
  have hw : q 0 = n1 := hw
  subst hw
  have hP : va_P D cls (wX (cyS cy cS) q) H := hP'
  have hD : va_D A (wX (cyS cy cS) q) := hD'
  have hK : va_K D cls (TY (cyS cy cS)) s := hK'
  clear hP' hD' hK'
  generalize cyS cy cS = cy at hP hD hK
  refine lv_astore_n (lv' := [(1, .ref (q 0)), (0, .ref b)]) hx hb dd_L_law_7 rfl hl (by decide) rfl (fun ls hl => ?_)
  refine wk_new (fs := [.null, .null, .null, .int 0, .null, .null, .null, .null, .null, .null, .int 0, .null, .null, .null, .int 0, .null, .int 0, .null, .int 0, .null, .null, .null, .null, .null, .int 0, .null, .int 0, .null, .null, .null, .null, .int 0, .null, .null, .null, .null, .null, .int 0, .null, .null, .null, .null, .null, .null, .null, .null, .null, .null, .null, .null, .null]) (c1 := 114) (s1 := 12186) Sx ef_12 hK hP hD hS hA (ci := 12) rfl kk_1095 kk_1096 kk_13 nd_12 (Nat.le_of_ble_eq_true rfl) (Nat.le_of_ble_eq_true rfl) rfl rfl dd_L_law_8 (fun n2 H hP1 hD1 hS1 => ?_)
  refine lv_dup hx hb dd_L_law_11 rfl ?_
  refine hk_v (wr := wX cy q) (c1 := 155) (s1 := 19939) [113] [0, 1, 2, 3, 4, 5, 6, 7, 8, 9, 10, 11, 12, 13, 14, 15, 16, 17, 18, 19, 20, 21, 22, 23, 24, 25, 26, 27, 28, 29, 30, 31, 32, 33, 34, 35, 36, 37, 38, 39, 40, 41, 42, 43, 44, 45, 46, 47, 48, 49, 50, 51, 52, 53, 54, 55, 56, 57, 58, 59, 60, 61, 62, 63, 64, 65, 66, 67, 68, 69, 70, 71, 72, 73, 74, 75, 76, 77, 78, 79, 80, 81, 82, 83, 84, 85, 86, 87, 88, 89, 90, 91, 92, 93, 94, 95, 96, 97, 98, 99, 100, 101, 102, 103, 104, 105, 106, 107, 108, 109, 110, 111, 112] (hc_I [] [.ref n2] [113] Sx hl.1 ws_L_12 md_X12_init rfl (c_init_M l D cy n2) ⟨Nat.le_of_ble_eq_true rfl, Nat.le_of_ble_eq_true rfl⟩ hP1 hD1 rfl (by decide) hK nx_b (nx_w hNN) rfl rfl (Nat.le_of_ble_eq_true rfl) dd_L_law_12 ⟨Nat.le_of_ble_eq_true rfl, Nat.le_of_ble_eq_true rfl⟩) hS1 hA hP1 hD1 rfl rfl (by decide +kernel) (by decide +kernel) rfl rfl (fun u H locs hw hP' hD' hS' => ?_)
  clear hP1 hD1 hS1 hP hD hS
  have hw : u 60 = n2 := hw
  subst hw
  have hP : va_P D cls (wX cy q ++ wM cy u) H := hP'
  have hD : va_D A (wX cy q ++ wM cy u) := hD'
  clear hP' hD'
  refine lv_astore_n (lv' := [(2, .ref (u 60)), (1, .ref (q 0)), (0, .ref b)]) hx hb dd_L_law_15 rfl hl (by decide) rfl (fun ls hl => ?_)
  refine lv_iconst (v := 0) hx hb dd_L_law_16 (by decide) ?_
  refine lv_istore_n (lv' := [(3, .int 0), (2, .ref (u 60)), (1, .ref (q 0)), (0, .ref b)]) hx hb dd_L_law_17 rfl hl (by decide) rfl (fun ls hl => ?_)
  have w0 := w0_P (b := b) (ad := ad) hP hD
  have hl4 : lv_has ls 4 (gM (Qn q u b ad) [(0, gR 300), (1, gR 0), (2, gR 200), (3, gI (6 * ((0 : Nat) : Int)))]) := lv_sub hl [3, 2, 1, 0] rfl
  exact lw_loop (l := l) (e := e) (D := D) (cy := cy) (A := A) hSc hbl hAe hr hlocks hL 512 0 (q := Qn q u b ad) (cells := 155) (slots := 19939) (M := M0) (by omega) (by omega) ⟨Sx, hK, hX (Qn q u b ad) (fun k hk => by show (if k < 113 then q k else if k = 200 then u 60 else if k < 300 then u (k - 201) else if k = 300 then b else ad k) = ad k; rw [if_neg (by omega), if_neg (by omega), if_neg (by omega), if_neg (by omega)]), fun a ha => hA a ha⟩ rfl ⟨by decide, by decide⟩ (fun _ => ⟨by decide, by decide⟩) rel_0 H _ ls m0_wf w0.1 w0.2 hS' hl4
