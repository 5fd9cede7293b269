/-! the law's loop -/
def lwE (below : List Frame) (b : Nat) (s : State) : State → Prop := fun t => ∃ o, t.status = .running ∧ Ended t below o ∧ (o = .returned (some (.int 1)) ∧ Framed s o t [] 600000 7302250)
/-- the law's own end, with 1 on the stack -/
theorem lw_end {p : Program} {l : Launch} {e : Env} {s : State} {m : MethodId} {below : List Frame} {meth : Method} {c : Code} {b : Nat} (hx : p.tables.exec = Jvm.exec) (hb : c.code = code) (hr : meth.sig.returnType = ret) (hlocks : meth.locks = false) {pc : Nat} {H : Heap} {ls : Array Slot} (hdg : decode code pc = .ok (.ireturn, 1)) : W p l e room_1 s m #[Value.ref b] below meth c H [] 600000 7302250 (lwE below b s) (F0 m pc ls [.int 1]) := by
  intro T hT X
  obtain ⟨fs, hret, hrun, hended, hW, hframe⟩ := X.leave (v := some (.int 1)) (hlocks := hlocks) (fun h => by rw [hr] at h; cases h)
  have hmeth' : T.vm.method? m = some meth := X.method'
  refine ⟨T.setFrames fs, ?_, .returned (some (.int 1)), hrun, hended, rfl, ⟨_, rfl⟩, hW, hframe⟩
  jvm_step X.here [X.here.top, hx, hb, hdg, hmeth', hr, ret, narrow_b1]
  (try refine ⟨rfl, ?_⟩); (try refine ⟨rfl, ?_⟩)
  first | (intro acts; rw [hret _ acts rfl rfl rfl]) | rw [hret _ _ rfl rfl rfl]
  exact Steps.refl _
theorem lw_exit {p : Program} {l : Launch} {e : Env} {s : State} {m : MethodId} {below : List Frame} {meth : Method} {c : Code} {D : va_G} {cy : Nat → ClassId} {q : Nat → Nat} {A : Nat → Prop} {cells slots b : Nat} {M : Mem} {i : Int} (hK : OK p s m #[Value.ref b] c D cy q A 4 code "WhiteElephantsLaw") (hAe : ∀ w, A w → s.heap.size ≤ w) (hr : meth.sig.returnType = ret) (hlocks : meth.locks = false) (hcs : cells ≤ 600000 ∧ slots ≤ 7302250) : G p l e room_1 s m #[Value.ref b] below meth c D cy q A cells slots 4 (lwE below b s) 1737 [(0, gR 300), (1, gR 0), (2, gR 200), (3, gI i)] [] M := by
  intro H locs ls hw hP hD hS hl
  refine va_forget (fun w hw => hAe _ (hS.2.2 w hw)) ?_
  refine W.widen (k := 600000) (n := 7302250) hcs.1 hcs.2 ?_
  refine lv_iconst (v := 1) hK.1.1 hK.1.2.1 dd_L_law_1737 (by decide) ?_
  exact lw_end hK.1.1 hK.1.2.1 hr hlocks dd_L_law_1738
set_option maxHeartbeats 2000000 in
set_option maxRecDepth 100000 in
theorem lw_turn {p : Program} {l : Launch} {e : Env} {s : State} {m : MethodId} {below : List Frame} {meth : Method} {c : Code} {D : va_G} {cy : Nat → ClassId} {q : Nat → Nat} {A : Nat → Prop} {cells slots b Ln nn : Nat} {xs : Nat → Int32} {M : Mem} {i : Int} (hK : OK p s m #[Value.ref b] c D cy q A 4 code "WhiteElephantsLaw") (hX : va_X b Ln xs s s.heap) (hbl : b < s.heap.size) (hbA : ¬ A b) (hq : q 300 = b) (hLn : Ln ≤ 1000000) (hcs : cells ≤ 600000 ∧ slots ≤ 7302250) (hcn : M 200 50 = 0 → cells + 1 ≤ 600000 ∧ slots + 310000 ≤ 7302250) (hR : Rel nn M M) (hn : nn ≤ 512) (hi : 0 ≤ i ∧ i + 6 ≤ Ln) (kont : ∀ M2 : Mem, Rel (nn + 1) M2 M2 → M2 200 50 = M 200 50 → G p l e room_1 s m #[Value.ref b] below meth c D cy q A cells slots 4 (lwE below b s) 1731 [(0, gR 300), (1, gR 0), (2, gR 200), (3, gI i)] [] M2) (kontN : ∀ (q1 : Nat → Nat) (M2 : Mem), (∀ k, k ≠ 251 → q1 k = q k) → M 200 50 = 0 → Rel (nn + 1) M2 M2 → ¬ M2 200 50 = 0 → G p l e room_1 s m #[Value.ref b] below meth c D cy q1 A (cells + 1) (slots + 310000) 4 (lwE below b s) 1731 [(0, gR 300), (1, gR 0), (2, gR 200), (3, gI i)] [] M2) : G p l e room_1 s m #[Value.ref b] below meth c D cy q A cells slots 4 (lwE below b s) 27 [(0, gR 300), (1, gR 0), (2, gR 200), (3, gI i)] [] M := by
  refine g_aloadn (pc := 27) (i := 0) (x := 300) hK dd_L_law_27 rfl rfl ?_
  refine g_iloadn (pc := 28) (i := 3) (x := i) hK dd_L_law_28 rfl rfl ?_
  refine g_scr (pc := 29) hK hX hbl hbA hq hLn dd_L_law_29 (by omega) (by omega) ?_
  refine g_bipush (pc := 30) (x := 63) hK dd_L_law_30 (by decide) ?_
  obtain ⟨z, hz⟩ : ∃ z, jand (xs i.toNat).toInt 63 = z := ⟨_, rfl⟩
  have hz0 := jand63 (xs i.toNat).toInt
  rw [hz] at hz0
  refine g_iand (pc := 32) (z := z) hK dd_L_law_32 hz ?_
  clear hz
  by_cases c0 : z = 0
  · subst c0
    refine g_tabIn (pc := 33) (off := 207) (tgt := 240) hK dd_L_law_33 (by decide) (by decide) (by decide) (by decide) (by decide) ?_
    exact lw_c0 hK hX hbl hbA hq hLn hcs hR hn hi kont
  by_cases c1 : z = 1
  · subst c1
    refine g_tabIn (pc := 33) (off := 250) (tgt := 283) hK dd_L_law_33 (by decide) (by decide) (by decide) (by decide) (by decide) ?_
    exact lw_c1 hK hX hbl hbA hq hLn hcs hR hn hi kont
  by_cases c2 : z = 2
  · subst c2
    refine g_tabIn (pc := 33) (off := 323) (tgt := 356) hK dd_L_law_33 (by decide) (by decide) (by decide) (by decide) (by decide) ?_
    exact lw_c2 hK hX hbl hbA hq hLn hcs hR hn hi kont
  by_cases c3 : z = 3
  · subst c3
    refine g_tabIn (pc := 33) (off := 386) (tgt := 419) hK dd_L_law_33 (by decide) (by decide) (by decide) (by decide) (by decide) ?_
    exact lw_c3 hK hX hbl hbA hq hLn hcs hR hn hi kont
  by_cases c4 : z = 4
  · subst c4
    refine g_tabIn (pc := 33) (off := 420) (tgt := 453) hK dd_L_law_33 (by decide) (by decide) (by decide) (by decide) (by decide) ?_
    exact lw_c4 hK hX hbl hbA hq hLn hcs hR hn hi kont
  by_cases c5 : z = 5
  · subst c5
    refine g_tabIn (pc := 33) (off := 443) (tgt := 476) hK dd_L_law_33 (by decide) (by decide) (by decide) (by decide) (by decide) ?_
    exact lw_c5 hK hX hbl hbA hq hLn hcs hR hn hi kont
  by_cases c6 : z = 6
  · subst c6
    refine g_tabIn (pc := 33) (off := 476) (tgt := 509) hK dd_L_law_33 (by decide) (by decide) (by decide) (by decide) (by decide) ?_
    exact lw_c6 hK hX hbl hbA hq hLn hcs hR hn hi kont
  by_cases c7 : z = 7
  · subst c7
    refine g_tabIn (pc := 33) (off := 509) (tgt := 542) hK dd_L_law_33 (by decide) (by decide) (by decide) (by decide) (by decide) ?_
    exact lw_c7 hK hX hbl hbA hq hLn hcs hR hn hi kont
  by_cases c8 : z = 8
  · subst c8
    refine g_tabIn (pc := 33) (off := 552) (tgt := 585) hK dd_L_law_33 (by decide) (by decide) (by decide) (by decide) (by decide) ?_
    exact lw_c8 hK hX hbl hbA hq hLn hcs hR hn hi kont
  by_cases c9 : z = 9
  · subst c9
    refine g_tabIn (pc := 33) (off := 595) (tgt := 628) hK dd_L_law_33 (by decide) (by decide) (by decide) (by decide) (by decide) ?_
    exact lw_c9 hK hX hbl hbA hq hLn hcs hR hn hi kont
  by_cases c10 : z = 10
  · subst c10
    refine g_tabIn (pc := 33) (off := 628) (tgt := 661) hK dd_L_law_33 (by decide) (by decide) (by decide) (by decide) (by decide) ?_
    exact lw_c10 hK hX hbl hbA hq hLn hcs hR hn hi kont
  by_cases c11 : z = 11
  · subst c11
    refine g_tabIn (pc := 33) (off := 661) (tgt := 694) hK dd_L_law_33 (by decide) (by decide) (by decide) (by decide) (by decide) ?_
    exact lw_c11 hK hX hbl hbA hq hLn hcs hR hn hi kont
  by_cases c12 : z = 12
  · subst c12
    refine g_tabIn (pc := 33) (off := 694) (tgt := 727) hK dd_L_law_33 (by decide) (by decide) (by decide) (by decide) (by decide) ?_
    exact lw_c12 hK hX hbl hbA hq hLn hcs hR hn hi kont
  by_cases c13 : z = 13
  · subst c13
    refine g_tabIn (pc := 33) (off := 727) (tgt := 760) hK dd_L_law_33 (by decide) (by decide) (by decide) (by decide) (by decide) ?_
    exact lw_c13 hK hX hbl hbA hq hLn hcs hR hn hi kont
  by_cases c14 : z = 14
  · subst c14
    refine g_tabIn (pc := 33) (off := 760) (tgt := 793) hK dd_L_law_33 (by decide) (by decide) (by decide) (by decide) (by decide) ?_
    exact lw_c14 hK hX hbl hbA hq hLn hcs hR hn hi kont
  by_cases c15 : z = 15
  · subst c15
    refine g_tabIn (pc := 33) (off := 773) (tgt := 806) hK dd_L_law_33 (by decide) (by decide) (by decide) (by decide) (by decide) ?_
    exact lw_c15 hK hX hbl hbA hq hLn hcs hR hn hi kont
  by_cases c16 : z = 16
  · subst c16
    refine g_tabIn (pc := 33) (off := 786) (tgt := 819) hK dd_L_law_33 (by decide) (by decide) (by decide) (by decide) (by decide) ?_
    exact lw_c16 hK hX hbl hbA hq hLn hcs hR hn hi kont
  by_cases c17 : z = 17
  · subst c17
    refine g_tabIn (pc := 33) (off := 819) (tgt := 852) hK dd_L_law_33 (by decide) (by decide) (by decide) (by decide) (by decide) ?_
    exact lw_c17 hK hX hbl hbA hq hLn hcs hR hn hi kont
  by_cases c18 : z = 18
  · subst c18
    refine g_tabIn (pc := 33) (off := 878) (tgt := 911) hK dd_L_law_33 (by decide) (by decide) (by decide) (by decide) (by decide) ?_
    exact lw_c18 hK hX hbl hbA hq hLn hcs hR hn hi kont
  by_cases c19 : z = 19
  · subst c19
    refine g_tabIn (pc := 33) (off := 911) (tgt := 944) hK dd_L_law_33 (by decide) (by decide) (by decide) (by decide) (by decide) ?_
    exact lw_c19 hK hX hbl hbA hq hLn hcs hR hn hi kont
  by_cases c20 : z = 20
  · subst c20
    refine g_tabIn (pc := 33) (off := 944) (tgt := 977) hK dd_L_law_33 (by decide) (by decide) (by decide) (by decide) (by decide) ?_
    exact lw_c20 hK hX hbl hbA hq hLn hcs hR hn hi kont
  by_cases c21 : z = 21
  · subst c21
    refine g_tabIn (pc := 33) (off := 997) (tgt := 1030) hK dd_L_law_33 (by decide) (by decide) (by decide) (by decide) (by decide) ?_
    exact lw_c21 hK hX hbl hbA hq hLn hcs hR hn hi kont
  by_cases c22 : z = 22
  · subst c22
    refine g_tabIn (pc := 33) (off := 1030) (tgt := 1063) hK dd_L_law_33 (by decide) (by decide) (by decide) (by decide) (by decide) ?_
    exact lw_c22 hK hX hbl hbA hq hLn hcs hR hn hi kont
  by_cases c23 : z = 23
  · subst c23
    refine g_tabIn (pc := 33) (off := 1063) (tgt := 1096) hK dd_L_law_33 (by decide) (by decide) (by decide) (by decide) (by decide) ?_
    exact lw_c23 hK hX hbl hbA hq hLn hcs hR hn hi kont
  by_cases c24 : z = 24
  · subst c24
    refine g_tabIn (pc := 33) (off := 1096) (tgt := 1129) hK dd_L_law_33 (by decide) (by decide) (by decide) (by decide) (by decide) ?_
    exact lw_c24 hK hX hbl hbA hq hLn hcs hR hn hi kont
  by_cases c25 : z = 25
  · subst c25
    refine g_tabIn (pc := 33) (off := 1129) (tgt := 1162) hK dd_L_law_33 (by decide) (by decide) (by decide) (by decide) (by decide) ?_
    exact lw_c25 hK hX hbl hbA hq hLn hcs hR hn hi kont
  by_cases c26 : z = 26
  · subst c26
    refine g_tabIn (pc := 33) (off := 1162) (tgt := 1195) hK dd_L_law_33 (by decide) (by decide) (by decide) (by decide) (by decide) ?_
    exact lw_c26 hK hX hbl hbA hq hLn hcs hR hn hi kont
  by_cases c27 : z = 27
  · subst c27
    refine g_tabIn (pc := 33) (off := 1175) (tgt := 1208) hK dd_L_law_33 (by decide) (by decide) (by decide) (by decide) (by decide) ?_
    exact lw_c27 hK hX hbl hbA hq hLn hcs hR hn hi kont
  by_cases c28 : z = 28
  · subst c28
    refine g_tabIn (pc := 33) (off := 1198) (tgt := 1231) hK dd_L_law_33 (by decide) (by decide) (by decide) (by decide) (by decide) ?_
    exact lw_c28 hK hX hbl hbA hq hLn hcs hR hn hi kont
  by_cases c29 : z = 29
  · subst c29
    refine g_tabIn (pc := 33) (off := 1221) (tgt := 1254) hK dd_L_law_33 (by decide) (by decide) (by decide) (by decide) (by decide) ?_
    exact lw_c29 hK hX hbl hbA hq hLn hcs hR hn hi kont
  by_cases c30 : z = 30
  · subst c30
    refine g_tabIn (pc := 33) (off := 1254) (tgt := 1287) hK dd_L_law_33 (by decide) (by decide) (by decide) (by decide) (by decide) ?_
    exact lw_c30 hK hX hbl hbA hq hLn hcs hR hn hi kont
  by_cases c31 : z = 31
  · subst c31
    refine g_tabIn (pc := 33) (off := 1277) (tgt := 1310) hK dd_L_law_33 (by decide) (by decide) (by decide) (by decide) (by decide) ?_
    exact lw_c31 hK hX hbl hbA hq hLn hcs hR hn hi kont
  by_cases c32 : z = 32
  · subst c32
    refine g_tabIn (pc := 33) (off := 1300) (tgt := 1333) hK dd_L_law_33 (by decide) (by decide) (by decide) (by decide) (by decide) ?_
    exact lw_c32 hK hX hbl hbA hq hLn hcs hR hn hi kont
  by_cases c33 : z = 33
  · subst c33
    refine g_tabIn (pc := 33) (off := 1313) (tgt := 1346) hK dd_L_law_33 (by decide) (by decide) (by decide) (by decide) (by decide) ?_
    exact lw_c33 hK hX hbl hbA hq hLn hcs hR hn hi kont
  by_cases c34 : z = 34
  · subst c34
    refine g_tabIn (pc := 33) (off := 1336) (tgt := 1369) hK dd_L_law_33 (by decide) (by decide) (by decide) (by decide) (by decide) ?_
    exact lw_c34 hK hX hbl hbA hq hLn hcs hR hn hi kont
  by_cases c35 : z = 35
  · subst c35
    refine g_tabIn (pc := 33) (off := 1359) (tgt := 1392) hK dd_L_law_33 (by decide) (by decide) (by decide) (by decide) (by decide) ?_
    exact lw_c35 hK hX hbl hbA hq hLn hcs hR hn hi kont
  by_cases c36 : z = 36
  · subst c36
    refine g_tabIn (pc := 33) (off := 1382) (tgt := 1415) hK dd_L_law_33 (by decide) (by decide) (by decide) (by decide) (by decide) ?_
    exact lw_c36 hK hX hbl hbA hq hLn hcs hR hn hi kont
  by_cases c37 : z = 37
  · subst c37
    refine g_tabIn (pc := 33) (off := 1435) (tgt := 1468) hK dd_L_law_33 (by decide) (by decide) (by decide) (by decide) (by decide) ?_
    exact lw_c37 hK hX hbl hbA hq hLn hcs hR hn hi kont
  by_cases c38 : z = 38
  · subst c38
    refine g_tabIn (pc := 33) (off := 1468) (tgt := 1501) hK dd_L_law_33 (by decide) (by decide) (by decide) (by decide) (by decide) ?_
    exact lw_c38 hK hX hbl hbA hq hLn hcs hR hn hi kont
  by_cases c39 : z = 39
  · subst c39
    refine g_tabIn (pc := 33) (off := 1481) (tgt := 1514) hK dd_L_law_33 (by decide) (by decide) (by decide) (by decide) (by decide) ?_
    exact lw_c39 hK hX hbl hbA hq hLn hcs hR hn hi kont
  by_cases c40 : z = 40
  · subst c40
    refine g_tabIn (pc := 33) (off := 1494) (tgt := 1527) hK dd_L_law_33 (by decide) (by decide) (by decide) (by decide) (by decide) ?_
    exact lw_c40 hK hX hbl hbA hq hLn hcs hR hn hi kont
  by_cases c41 : z = 41
  · subst c41
    refine g_tabIn (pc := 33) (off := 1527) (tgt := 1560) hK dd_L_law_33 (by decide) (by decide) (by decide) (by decide) (by decide) ?_
    exact lw_c41 hK hX hbl hbA hq hLn hcs hR hn hi kont
  by_cases c42 : z = 42
  · subst c42
    refine g_tabIn (pc := 33) (off := 1560) (tgt := 1593) hK dd_L_law_33 (by decide) (by decide) (by decide) (by decide) (by decide) ?_
    exact lw_c42 hK hX hbl hbA hq hLn hcs hR hn hi kont
  by_cases c43 : z = 43
  · subst c43
    refine g_tabIn (pc := 33) (off := 1593) (tgt := 1626) hK dd_L_law_33 (by decide) (by decide) (by decide) (by decide) (by decide) ?_
    exact lw_c43 hK hX hbl hbA hq hLn hcs hR hn hi hcn kontN kont
  by_cases c44 : z = 44
  · subst c44
    refine g_tabIn (pc := 33) (off := 1616) (tgt := 1649) hK dd_L_law_33 (by decide) (by decide) (by decide) (by decide) (by decide) ?_
    exact lw_c44 hK hX hbl hbA hq hLn hcs hR hn hi kont
  by_cases c45 : z = 45
  · subst c45
    refine g_tabIn (pc := 33) (off := 1649) (tgt := 1682) hK dd_L_law_33 (by decide) (by decide) (by decide) (by decide) (by decide) ?_
    exact lw_c45 hK hX hbl hbA hq hLn hcs hR hn hi kont
  by_cases c46 : z = 46
  · subst c46
    refine g_tabIn (pc := 33) (off := 1662) (tgt := 1695) hK dd_L_law_33 (by decide) (by decide) (by decide) (by decide) (by decide) ?_
    exact lw_c46 hK hX hbl hbA hq hLn hcs hR hn hi kont
  by_cases c47 : z = 47
  · subst c47
    refine g_tabIn (pc := 33) (off := 1675) (tgt := 1708) hK dd_L_law_33 (by decide) (by decide) (by decide) (by decide) (by decide) ?_
    exact lw_c47 hK hX hbl hbA hq hLn hcs hR hn hi kont
  refine g_tabOut (pc := 33) (tgt := 1731) hK dd_L_law_33 (by omega) (by omega) (by decide) ?_
  exact kont M (rel_s hR) rfl
theorem lw_loop {p : Program} {l : Launch} {e : Env} {s : State} {m : MethodId} {below : List Frame} {meth : Method} {c : Code} {D : va_G} {cy : Nat → ClassId} {A : Nat → Prop} {b Ln : Nat} {xs : Nat → Int32} (hX : va_X b Ln xs s s.heap) (hbl : b < s.heap.size) (hAe : ∀ w, A w → s.heap.size ≤ w) (hr : meth.sig.returnType = ret) (hlocks : meth.locks = false) (hLn : Ln ≤ 3072) : ∀ (f nn : Nat) {q : Nat → Nat} {cells slots : Nat} {M : Mem}, nn ≤ 1000 → Ln ≤ 6 * (nn + f) → OK p s m #[Value.ref b] c D cy q A 4 code "WhiteElephantsLaw" → q 300 = b → (cells ≤ 600000 ∧ slots ≤ 7302250) → (M 200 50 = 0 → cells + 1 ≤ 600000 ∧ slots + 310000 ≤ 7302250) → Rel nn M M → G p l e room_1 s m #[Value.ref b] below meth c D cy q A cells slots 4 (lwE below b s) 18 [(0, gR 300), (1, gR 0), (2, gR 200), (3, gI (6 * (nn : Int)))] [] M := by
  have hbA : ¬ A b := fun h => absurd (hAe b h) (Nat.not_le.mpr hbl)
  intro f
  induction f with
  | zero =>
    intro nn q cells slots M hb hf hK hq hcs hcn hR
    refine g_iloadn (pc := 18) (i := 3) (x := (6 * (nn : Int))) hK dd_L_law_18 rfl rfl ?_
    refine g_aloadn (pc := 19) (i := 0) (x := 300) hK dd_L_law_19 rfl rfl ?_
    refine g_slen (pc := 20) hK hX hbl hbA hq dd_L_law_20 ?_
    refine g_bipush (pc := 21) (x := 6) hK dd_L_law_21 (by decide) ?_
    refine g_isub (pc := 23) (z := (Ln : Int) - 6) hK dd_L_law_23 rfl ?_
    refine g_icmp_gt (pc := 24) (tgt := 1737) hK dd_L_law_24 (by decide) (by omega) (by omega) (fun c1 => ?_) (fun c1 => ?_)
    · exact lw_exit hK hAe hr hlocks hcs
    · exfalso; omega
  | succ f ih =>
    intro nn q cells slots M hb hf hK hq hcs hcn hR
    refine g_iloadn (pc := 18) (i := 3) (x := (6 * (nn : Int))) hK dd_L_law_18 rfl rfl ?_
    refine g_aloadn (pc := 19) (i := 0) (x := 300) hK dd_L_law_19 rfl rfl ?_
    refine g_slen (pc := 20) hK hX hbl hbA hq dd_L_law_20 ?_
    refine g_bipush (pc := 21) (x := 6) hK dd_L_law_21 (by decide) ?_
    refine g_isub (pc := 23) (z := (Ln : Int) - 6) hK dd_L_law_23 rfl ?_
    refine g_icmp_gt (pc := 24) (tgt := 1737) hK dd_L_law_24 (by decide) (by omega) (by omega) (fun c1 => ?_) (fun c1 => ?_)
    · exact lw_exit hK hAe hr hlocks hcs
    · refine lw_turn hK hX hbl hbA hq (by omega) hcs hcn hR (by omega) (by omega) (fun M2 hR2 hf2 => ?_) (fun q1 M2 hq1 h0 hR2 hf2 => ?_)
      · refine g_iinc (pc := 1731) (i := 3) (x := (6 * (nn : Int))) (y := (6 * ((nn + 1 : Nat) : Int))) hK dd_L_law_1731 rfl (by omega) (by decide) rfl ?_
        refine g_goto (pc := 1734) (tgt := 18) hK dd_L_law_1734 (by decide) ?_
        exact ih (nn + 1) (by omega) (by omega) hK hq hcs (by rw [hf2]; exact hcn) hR2
      · have hK1 := OK_q hK hq1
        have hc1 := hcn h0
        refine g_iinc (pc := 1731) (i := 3) (x := (6 * (nn : Int))) (y := (6 * ((nn + 1 : Nat) : Int))) hK1 dd_L_law_1731 rfl (by omega) (by decide) rfl ?_
        refine g_goto (pc := 1734) (tgt := 18) hK1 dd_L_law_1734 (by decide) ?_
        exact ih (nn + 1) (by omega) (by omega) hK1 (by rw [hq1 300 (by decide)]; exact hq) hc1 (fun z => absurd z hf2) hR2
