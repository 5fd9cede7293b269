/-! the reference's row of sums: made once -/
section WK3
variable {p : Program} {l : Launch} {e : Env} {R : Room} {s : State} {m : MethodId} {args : Array Value} {below : List Frame} {meth : Method} {c : Code} {H : Heap} {locs : List Loc} {cells slots : Nat} {Q : State → Prop} {cc : ByteArray} {own : String} {idx nL pc : Nat} {ls : Array Slot} {D : va_G} {A0 : Nat → Prop} {ty : List (ClassId × FieldType)} {ws : va_W} {H0 : Heap}
theorem wk_newa {at_ : ArrayType} {ft : FieldType} {rest : List Value} {c1 s1 : Nat} {cI : ClassId} (Sx : CallFix p m c cc nL s args BW own) (harr : Cond.arrayClass (newarray.typeOf at_) ∈ BW) (hty : newarray.typeOf at_ = ft) (hK : va_K D cls ty s) (t0 : Nat) (ht : ty[t0]? = some (cI, ft)) (hprim : ∀ c1 : ClassId, va_RA s c1 ft → s.vm.findClass ("[" ++ ft.toString) = some c1) (hP : va_P D cls ws H) (hD : va_D A0 ws) (hS : va_S A0 H0 H locs) (hA : ∀ q : Nat, H0.size ≤ q → A0 q) {n' : Int32} (N' : Nat) {a0 : vp_A} (ha : ∀ cA : ClassId, vp_cell cA a0 = arrV cA N' (fun _ => defaultValue ft)) (hn : ¬ n' < 0) (hN : n'.toNatClampNeg = N') (hbytes : N' * componentBytes ft ≤ 536870912) (hcells : cells + 1 ≤ R.cells) (hslots : slots + N' ≤ R.slots) (h1 : cells + 1 = c1) (h2 : slots + N' = s1) (hdg : decode cc pc = .ok (.newarray at_, 2))
    (kk : ∀ (q : Nat) (H1 : Heap), va_P D cls (ws ++ [(q, .inl (cI, a0))]) H1 → va_D A0 (ws ++ [(q, .inl (cI, a0))]) → va_S A0 H0 H1 locs → W p l e R s m args below meth c H1 locs c1 s1 Q (F0 m (pc + 2) ls (.ref q :: rest))) : W p l e R s m args below meth c H locs cells slots Q (F0 m pc ls (.int n' :: rest)) := by
  subst h1; subst h2
  refine va_newa Sx.1 Sx.2.1 (atype := at_) (Sx.2.2.2.2 _ harr) hty hK hP hD hS hA ha hn hN hbytes hcells hslots hdg (fun q cA H1 hK1 hP1 hD1 hS1 => ?_)
  have e1 := hprim cA ((hK1.2 ty.length (cA, ft) (by rw [List.getElem?_append_right (Nat.le_refl _), Nat.sub_self]; rfl)).2)
  have e2 := hprim cI ((hK.2 t0 (cI, ft) ht).2)
  have e3 : cA = cI := Option.some.inj (e1.symm.trans e2)
  subst e3
  exact kk q H1 hP1 hD1 hS1
end WK3
abbrev qN (q : Nat → Nat) (x : Nat) : Nat → Nat := fun k => if k = 251 then x else q k
abbrev MF1 (M : Mem) : Mem := sr (up M 200 50 1) 251 (fun _ => 0)
def fewB (e : Nat × gK) : Bool := !(e.1 == 251) && (match e.2 with
  | .inl ci => (e.1 == 200 && ci == 12) || (!(e.1 == 200) && (FS ci).all (fun f => f.1 == 0 || (f.1 == 1 && !(e.1 + f.2 == 251))))
  | .inr (et, n) => !(e.1 == 200) && (!(et == 4) || (e.1 == 1 && n == 8)))
theorem few_chk : KD.all fewB = true := by decide +kernel
def fewJ (x : gF × Nat) : Bool := x.2 == 50 || x.1.1 == 0 || (x.1.1 == 1 && !(200 + x.1.2 == 251))
theorem few_chk2 : (FS 12).zipIdx.all fewJ = true := by decide +kernel
theorem few_113 : KD[113]? = some (200, .inl 12) := by decide +kernel
theorem few_len : KD.length = 155 := by decide +kernel
theorem mf_o {M : Mem} {k : Nat} (h1 : k ≠ 200) (h2 : k ≠ 251) : MF1 M k = M k := by
  show sr (up M 200 50 1) 251 _ k = _
  rw [sr_o h2, up_o h1]
theorem qn_o {q : Nat → Nat} {x k : Nat} (h : k ≠ 251) : qN q x k = q k := if_neg h
theorem arrV_ext {cI : ClassId} {N : Nat} {f g : Nat → Value} (h : ∀ j, j < N → f j = g j) : arrV cI N f = arrV cI N g := by
  unfold arrV
  congr 2
  funext j
  exact h j.val j.isLt
theorem few_fvs {q : Nat → Nat} {M : Mem} {x k ci : Nat} (hk : k ≠ 200) (h2 : k ≠ 251) (hf : ∀ f ∈ FS ci, f.1 = 0 ∨ (f.1 = 1 ∧ k + f.2 ≠ 251)) : fvs (qN q x) (MF1 M) k ci = fvs q M k ci := by
  unfold fvs
  apply List.ext_getElem?
  intro n
  rw [List.getElem?_mapIdx, List.getElem?_mapIdx]
  cases hn : (FS ci)[n]? with
  | none => rfl
  | some f =>
    show some (fv _ _ _ _ _) = some (fv _ _ _ _ _)
    congr 1
    obtain ⟨a, b⟩ := f
    have hh := hf (a, b) (List.mem_of_getElem? hn)
    unfold fv
    rw [mf_o hk h2]
    rcases hh with hh | hh
    · have : a = 0 := hh
      subst this
      rfl
    · have : a = 1 := hh.1
      subst this
      show Value.ref (qN q x (k + b)) = .ref (q (k + b))
      rw [qn_o hh.2]
theorem few_fvs2 {q : Nat → Nat} {M : Mem} {x : Nat} : fvs (qN q x) (MF1 M) 200 12 = (fvs q M 200 12).set 50 (.ref x) := by
  have h50 : (FS 12)[50]? = some (2, 51) := by decide +kernel
  unfold fvs
  apply List.ext_getElem?
  intro n
  rw [List.getElem?_set, List.getElem?_mapIdx, List.getElem?_mapIdx]
  have m1 : ∀ j, j ≠ 50 → MF1 M 200 j = M 200 j := fun j hj => by
    show sr (up M 200 50 1) 251 _ 200 j = _
    rw [sr_o (by decide), up_k, us_o hj]
  by_cases c : 50 = n
  · subst c
    rw [if_pos rfl, h50]
    have hl : 50 < ((FS 12).mapIdx (fun j f => fv q M 200 j f)).length := by
      rw [List.length_mapIdx]
      exact (List.getElem?_eq_some_iff.mp h50).1
    rw [if_pos hl]
    show some (fv _ _ _ _ _) = _
    unfold fv
    show some (if MF1 M 200 50 = 0 then Value.null else .ref (qN q x 251)) = _
    have e : MF1 M 200 50 = 1 := by
      show sr (up M 200 50 1) 251 _ 200 50 = _
      rw [sr_o (by decide), up_k, us_k]
    rw [e, if_neg (by decide)]
    congr 2
  · rw [if_neg c]
    cases hn : (FS 12)[n]? with
    | none => rfl
    | some f =>
      obtain ⟨a, b⟩ := f
      have hz := List.all_eq_true.mp few_chk2 ((a, b), n) (by rw [List.mem_zipIdx_iff_getElem?]; exact hn)
      show some (fv _ _ _ _ _) = some (fv _ _ _ _ _)
      congr 1
      unfold fewJ at hz
      simp only [Bool.or_eq_true, Bool.and_eq_true, beq_iff_eq, Bool.not_eq_true', beq_eq_false_iff_ne] at hz
      unfold fv
      rw [m1 n (Ne.symm c)]
      rcases hz with (hz | hz) | hz
      · exact absurd hz.symm c
      · subst hz
        rfl
      · obtain ⟨h1, h2⟩ := hz
        subst h1
        show Value.ref (qN q x (200 + b)) = .ref (q (200 + b))
        rw [qn_o h2]
abbrev wsN (cy : Nat → ClassId) (q : Nat → Nat) (M : Mem) (x : Nat) : va_W := (wsM cy q M ++ [((x, Sum.inl (cy 1, 310000, Sum.inl (fun _ => 0))) : Nat × va_E)]).set 113 (q 200, Sum.inr (12, (fvs q M 200 12).set 50 (.ref x)))
theorem few_at {cy : Nat → ClassId} {q : Nat → Nat} {M : Mem} {x i : Nat} {e : Nat × va_E} (h0 : M 200 50 = 0) (hi : (wsM cy (qN q x) (MF1 M))[i]? = some e) : ∃ e' : Nat × va_E, (wsN cy q M x)[i]? = some e' ∧ e'.1 = e.1 ∧ ∀ (D : va_G) (H : Heap), va_at D cls e' H → va_at D cls e H := by
  have hk : KDm (MF1 M) = KDF := by
    unfold KDm
    refine if_neg ?_
    show ¬ sr (up M 200 50 1) 251 _ 200 50 = 0
    rw [sr_o (by decide), up_k, us_k]
    decide
  have hkM : KDm M = KD := if_pos h0
  have hlw : (wsM cy q M).length = 155 := by
    unfold wsM
    rw [hkM, List.length_map, few_len]
  unfold wsM at hi
  rw [hk, List.getElem?_map] at hi
  obtain ⟨⟨k, kd⟩, hkd, he⟩ := Option.map_eq_some_iff.mp hi
  subst he
  by_cases hl : i < 155
  · have hkd2 : KD[i]? = some (k, kd) := by
      unfold KDF at hkd
      rw [List.getElem?_append_left (by rw [few_len]; exact hl)] at hkd
      exact hkd
    have hold : (wsM cy q M)[i]? = some (q k, ent cy q M k kd) := ws_at (kdm hkd2)
    have chk := List.all_eq_true.mp few_chk (k, kd) (List.mem_of_getElem? hkd2)
    by_cases e2 : i = 113
    · subst e2
      have e3 : (k, kd) = (200, Sum.inl 12) := Option.some.inj (hkd2.symm.trans few_113)
      cases e3
      refine ⟨_, List.getElem?_set_self (by rw [List.length_append, hlw]; exact Nat.lt_of_lt_of_le (by decide : 113 < 155) (Nat.le_add_right _ _)), rfl, fun D H hv => ?_⟩
      have e4 : ent cy (qN q x) (MF1 M) 200 (.inl 12) = .inr (12, (fvs q M 200 12).set 50 (.ref x)) := by
        show Sum.inr (12, fvs _ _ _ _) = _
        rw [few_fvs2]
      rw [e4]
      exact hv
    · have k200 : k ≠ 200 := fun z => by
        subst z
        exact e2 (kd_inj (M := M) (kdm hkd2) (kdm few_113))
      unfold fewB at chk
      rw [Bool.and_eq_true] at chk
      have k251 : k ≠ 251 := by
        have := chk.1
        simpa using this
      refine ⟨_, by rw [List.getElem?_set_ne (Ne.symm e2), List.getElem?_append_left (by omega)]; exact hold, ?_, fun D H hv => ?_⟩
      · show q k = qN q x k
        rw [qn_o k251]
      · have eq1 : qN q x k = q k := qn_o k251
        match kd, chk with
        | .inl ci, chk =>
          have hf : ∀ f ∈ FS ci, f.1 = 0 ∨ (f.1 = 1 ∧ k + f.2 ≠ 251) := by
            have c2 := chk.2
            simp only [Bool.or_eq_true, Bool.and_eq_true, beq_iff_eq, Bool.not_eq_true', beq_eq_false_iff_ne, List.all_eq_true] at c2
            rcases c2 with c2 | c2
            · exact absurd c2.1 k200
            · exact c2.2
          have e4 : ent cy (qN q x) (MF1 M) k (.inl ci) = ent cy q M k (.inl ci) := by
            show Sum.inr (ci, fvs _ _ _ _) = Sum.inr (ci, fvs _ _ _ _)
            rw [few_fvs k200 k251 hf]
          show va_at D cls (qN q x k, ent cy (qN q x) (MF1 M) k (.inl ci)) H
          rw [e4, eq1]
          exact hv
        | .inr (et, n), chk =>
          by_cases e4 : et = 4
          · have c2 := chk.2
            simp only [Bool.or_eq_true, Bool.and_eq_true, beq_iff_eq, Bool.not_eq_true', beq_eq_false_iff_ne] at c2
            have c3 := c2.2.resolve_left (fun z => z e4)
            obtain ⟨k1, n8⟩ := c3
            subst e4 k1 n8
            have hv2 : H[q 1]? = some (arrV (cy 4) 8 (fun j => va_rf (some (q (1 + 96 + 2 * j))))) := hv
            show H[qN q x 1]? = some (arrV (cy 4) 8 (fun j => va_rf (some (qN q x (1 + 96 + 2 * j)))))
            rw [eq1]
            exact hv2.trans (congrArg some (arrV_ext (fun j hj => by rw [qn_o (by omega)])))
          · have e5 : ent cy (qN q x) (MF1 M) k (.inr (et, n)) = ent cy q M k (.inr (et, n)) := by
              show Sum.inl (cy et, n, gA _ _ _ _) = Sum.inl (cy et, n, gA _ _ _ _)
              congr 3
              by_cases e2 : et = 2
              · subst e2
                show Sum.inr (Sum.inl _) = Sum.inr (Sum.inl _)
                rw [mf_o k200 k251]
              · rw [gA_i e2 e4, gA_i e2 e4, mf_o k200 k251]
            show va_at D cls (qN q x k, ent cy (qN q x) (MF1 M) k (.inr (et, n))) H
            rw [e5, eq1]
            exact hv
  · have hi2 : i = 155 := by
      have := (List.getElem?_eq_some_iff.mp hkd).1
      unfold KDF at this
      rw [List.length_append, few_len] at this
      have h1 : [(KF, (Sum.inr (1, 310000) : gK))].length = 1 := rfl
      omega
    subst hi2
    have e3 : (k, kd) = (251, Sum.inr (1, 310000)) := by
      have : KDF[155]? = some (251, Sum.inr (1, 310000)) := by decide +kernel
      exact Option.some.inj (hkd.symm.trans this)
    cases e3
    refine ⟨(x, Sum.inl (cy 1, 310000, Sum.inl (fun _ => 0))), ?_, (show x = qN q x 251 from (if_pos rfl).symm), fun D H hv => ?_⟩
    · rw [List.getElem?_set_ne (by decide), List.getElem?_append_right (by omega), hlw]
      rfl
    · have e4 : ent cy (qN q x) (MF1 M) 251 (.inr (1, 310000)) = .inl (cy 1, 310000, .inl (fun _ => 0)) := by
        show Sum.inl (cy 1, 310000, gA _ _ _ _) = _
        rw [gA_i (by decide) (by decide)]
        have ef : (fun j => Int32.ofInt (MF1 M 251 j)) = (fun _ => (0 : Int32)) := by
          funext j
          show Int32.ofInt (sr (up M 200 50 1) 251 (fun _ => 0) 251 j) = 0
          rw [sr_k]
          rfl
        rw [ef]
      show va_at D cls (qN q x 251, ent cy (qN q x) (MF1 M) 251 (.inr (1, 310000))) H
      rw [e4, show qN q x 251 = x from if_pos rfl]
      exact hv
theorem few_P {D : va_G} {cy : Nat → ClassId} {q : Nat → Nat} {M : Mem} {x : Nat} {H : Heap} (h0 : M 200 50 = 0) (h : va_P D cls (wsN cy q M x) H) : va_P D cls (wsM cy (qN q x) (MF1 M)) H := fun i e hi => by
  obtain ⟨e', h1, -, h3⟩ := few_at h0 hi
  exact h3 D H (h i e' h1)
theorem few_D {A : Nat → Prop} {cy : Nat → ClassId} {q : Nat → Nat} {M : Mem} {x : Nat} (h0 : M 200 50 = 0) (h : va_D A (wsN cy q M x)) : va_D A (wsM cy (qN q x) (MF1 M)) := by
  refine ⟨fun i j a b ha hb hab => ?_, fun i a ha => ?_⟩
  · obtain ⟨a', h1, h2, -⟩ := few_at h0 ha
    obtain ⟨b', h3, h4, -⟩ := few_at h0 hb
    exact h.1 i j a' b' h1 h3 (by rw [h2, h4, hab])
  · obtain ⟨a', h1, h2, -⟩ := few_at h0 ha
    rw [← h2]
    exact h.2 i a' h1
theorem mf_wf {M : Mem} (h : wf M) : wf (MF1 M) := by
  have h1 : wf (up M 200 50 1) := wf_up h (fun _ => ⟨by decide, by decide⟩) (fun z => absurd z (by decide))
  intro k j
  by_cases e : k = 251
  · subst e
    show (251 ∉ lkL → inI (sr (up M 200 50 1) 251 (fun _ => 0) 251 j)) ∧ (251 ∈ lkL → inL (sr (up M 200 50 1) 251 (fun _ => 0) 251 j))
    rw [sr_k]
    exact ⟨fun _ => ⟨by decide, by decide⟩, fun _ => ⟨by decide, by decide⟩⟩
  · show (k ∉ lkL → inI (sr (up M 200 50 1) 251 (fun _ => 0) k j)) ∧ (k ∈ lkL → inL (sr (up M 200 50 1) 251 (fun _ => 0) k j))
    rw [sr_o e]
    exact h1 k j
theorem fa_few {M : Mem} (h : ¬ M 200 50 = 0) : fa M 200 50 (2, 51) = gR 251 := if_neg h
theorem fa_few0 {M : Mem} (h : M 200 50 = 0) : fa M 200 50 (2, 51) = gN := if_pos h
section GF
variable {p : Program} {l : Launch} {e : Env} {R : Room} {s : State} {m : MethodId} {args : Array Value} {below : List Frame} {meth : Method} {c : Code} {D : va_G} {cy : Nat → ClassId} {q : Nat → Nat} {A : Nat → Prop} {cells slots nL : Nat} {Q : State → Prop} {cc : ByteArray} {own : String}
variable {pc : Nat} {L : List (Nat × gV)} {st : List gV} {M : Mem} {Pq : Option gV → Mem → Prop}
theorem g_newF {idx : Nat} (hK : OK p s m args c D cy q A nL cc own) (hlink : Cond.fieldLink own idx (ET12 50).1 (ET12 50).2.1 (ET12 50).2.2.1 ∈ BW) (h0 : M 200 50 = 0) (hcells : cells + 1 ≤ R.cells) (hslots : slots + 310000 ≤ R.slots) (d1 : decode cc pc = .ok (.newarray .byte, 2)) (d2 : decode cc (pc + 2) = .ok (.putfield idx, 3)) (hL : ∀ x, gM q L = gM (qN q x) L)
    (k : ∀ x, G p l e R s m args below meth c D cy (qN q x) A (cells + 1) (slots + 310000) nL Q (pc + 2 + 3) L [] (MF1 M)) : G p l e R s m args below meth c D cy q A cells slots nL Q pc L [gI 310000, gR 200] M := by
  intro H locs ls hw hP hD hS hl
  refine wk_newa (at_ := .byte) hK.1 kk_53 rfl hK.2.1 1 rfl (fun _ h => h) hP hD hS hK.2.2.2 (n' := Int32.ofInt 310000) 310000 (a0 := (310000, .inl (fun _ => 0))) (fun _ => rfl) (by decide +kernel) (by decide +kernel) (Nat.le_of_ble_eq_true rfl) hcells hslots rfl rfl d1 (fun x H1 hP1 hD1 hS1 => ?_)
  have he : (wsM cy q M ++ [((x, Sum.inl (cy 1, 310000, Sum.inl (fun _ => 0))) : Nat × va_E)])[113]? = some (q 200, .inr (12, fvs q M 200 12)) := by
    have h1 : (wsM cy q M)[113]? = some (q 200, ent cy q M 200 (.inl 12)) := ws_at (kdm few_113)
    rw [List.getElem?_append_left (List.getElem?_eq_some_iff.mp h1).1, h1]
    rfl
  have hlen : 50 < (fvs q M 200 12).length := by
    unfold fvs
    rw [List.length_mapIdx]
    exact (List.getElem?_eq_some_iff.mp (show (FS 12)[50]? = some (2, 51) by decide +kernel)).1
  refine wk_put (v := .ref x) hK.1 ef_12 hK.2.1 hP1 hD1 hS1 113 he rfl 50 (by decide) hlink rfl rfl rfl hlen d2 rfl (fun H2 locs2 hP2 hD2 hS2 => ?_)
  exact k x H2 locs2 ls (mf_wf hw) (few_P h0 hP2) (few_D h0 hD2) hS2 (by rw [← hL x]; exact hl)
/-- the contract of a method that may make the row -/
def gQcN (D : va_G) (cy : Nat → ClassId) (q : Nat → Nat) (A : Nat → Prop) (Pq : Option gV → Mem → Prop) : Array Value → State → Outcome → State → Prop := fun _ st o t =>
  (∃ (v : Option gV) (M : Mem) (q1 : Nat → Nat), o = .returned (v.map (cv q1)) ∧ Pq v M ∧ (∀ k, k ≠ 251 → q1 k = q k) ∧ wf M ∧ va_P D cls (wsM cy q1 M) t.heap ∧ va_D A (wsM cy q1 M)) ∧ va_F A st t
abbrev rmN (d : Nat) : Room := { frames := d, cells := 1, slots := 310000, locals := 100 * d }
def gCtrN (l : Launch) (y : MethodName) (cc : ByteArray) (nL : Nat) (r : Option FieldType) (d : Nat) (As : List gV) (M : Mem) (Pq : Option gV → Mem → Prop) : Prop :=
  ∀ (D : va_G) (cy : Nat → ClassId) (q : Nat → Nat) (sz : Nat), wf M → Met l y (wq y cc nL r) (rmN d) (va_Pc (As.map (cv q)) (fun U => U.heap.size = sz ∧ va_P D cls (wsM cy q M) U.heap ∧ va_K D cls (TY cy) U ∧ va_D (fun _ => True) (wsM cy q M) ∧ SX q (va_A (wsM cy q M) sz) U)) (gQcN D cy q (va_A (wsM cy q M) sz) Pq) 1 310000 (va_A (wsM cy q M) sz)
theorem g_introN {y : MethodName} {r : Option FieldType} {d : Nat} {As : List gV} (hy : plainName y.cls = true) (hn : (As.map gw).sum ≤ nL)
    (body : ∀ (p : Program) (e : Env) (s : State) (m : MethodId) (args : Array Value) (below : List Frame) (meth : Method) (c : Code) (D : va_G) (cy : Nat → ClassId) (q : Nat → Nat) (A : Nat → Prop), OK p s m args c D cy q A nL cc y.cls → meth.sig.returnType = r → meth.locks = false → wf M → G p l e (rmN d) s m args below meth c D cy q A 0 0 nL (MQ below (gQcN D cy q A Pq) args s 1 310000 A) 0 (gArgs 0 As) [] M) : gCtrN l y cc nL r d As M Pq := by
  intro D cy q sz hw
  refine Met.ofW (cc := cc) (maxL := nL) (ret := r) hy rfl ?_
  intro p e s m args below meth c s₁ B hml hv
  obtain ⟨rfl, hsz, hP, hK, hD0, hX⟩ := hv
  have hts := atoms_spec (ws := wq y cc nL r) B.pre
  have hl := lv_entry (As.map (cv q)) (n := nL) (by rw [gsl_len]; exact hn)
  rw [lg_entry_eq]
  generalize (lg_sl (As.map (cv q)) ++ List.replicate (nL - (lg_sl (As.map (cv q))).length) Slot.unset).toArray = ls at hl ⊢
  rw [gargs_eq] at hl
  subst hsz
  exact body p e s m _ below meth c D cy q _ ⟨⟨B.exec, B.bytes, hml, findClass_of_methodNamed B.named, fun w h => hts w (List.mem_cons_of_mem _ h)⟩, hK, hX, fun a h => Or.inr h⟩ B.returns B.notSynchronized hw s.heap [] ls hw hP hD0.self va_S.rf hl
theorem g_iretN {x : Int} {ft : FieldType} {q0 : Nat → Nat} (hK : OK p s m args c D cy q A nL cc own) (hr : meth.sig.returnType = some ft) (hlocks : meth.locks = false) (d : decode cc pc = .ok (.ireturn, 1)) (hn : narrow ft (.int (Int32.ofInt x)) = .int (Int32.ofInt x)) (hq : ∀ k, k ≠ 251 → q k = q0 k) (hP : Pq (some (gI x)) M) : G p l e R s m args below meth c D cy q A cells slots nL (MQ below (gQcN D cy q0 A Pq) args s cells slots A) pc L [gI x] M := by
  intro H locs ls hw hPw hD hS hl
  exact W.zret hK.1.1 hK.1.2.1 hr hn (fun t ht _ => ⟨⟨some (gI x), M, q, rfl, hP, hq, hw, by rw [ht]; exact hPw, hD⟩, hS.F ht⟩) hS.2.2 d hlocks
theorem g_widen {k n : Nat} (h1 : cells ≤ k) (h2 : slots ≤ n) (kk : G p l e R s m args below meth c D cy q A k n nL Q pc L st M) : G p l e R s m args below meth c D cy q A cells slots nL Q pc L st M := fun H locs ls hw hP hD hS hl => W.widen h1 h2 (kk H locs ls hw hP hD hS hl)
theorem OK_q {q' : Nat → Nat} (h : OK p s m args c D cy q A nL cc own) (hq : ∀ k, k ≠ 251 → q' k = q k) : OK p s m args c D cy q' A nL cc own := by
  obtain ⟨h1, h2, ⟨k1, k2, k3, k4, k5⟩, h4⟩ := h
  have n1 : ∀ e ∈ STs, e.1 ≠ 251 := by
    intro e he
    have : STs.all (fun e => !(e.1 == 251)) = true := by decide +kernel
    have := List.all_eq_true.mp this e he
    simpa using this
  have n2 : ∀ e ∈ STw, e.1 ≠ 251 := by
    intro e he
    have : STw.all (fun e => !(e.1 == 251)) = true := by decide +kernel
    have := List.all_eq_true.mp this e he
    simpa using this
  exact ⟨h1, h2, ⟨k1, k2, k3, fun e he => by rw [hq _ (n1 e he)]; exact k4 e he, fun e he => by rw [hq _ (n2 e he)]; exact k5 e he⟩, h4⟩
end GF
/-- rows of rows: places by 10000 -/
def bwX (F : Nat → Int) (V : Nat → Nat → Int) (mi T K : Nat) : Nat → Int := fun j => if j % 10000 ≤ mi ∧ (j / 10000 < T ∨ (j / 10000 = T ∧ j % 10000 < K)) then V (j / 10000) (j % 10000) else F j
theorem bwX_0 {F : Nat → Int} {V : Nat → Nat → Int} {mi : Nat} : bwX F V mi 0 0 = F := by
  funext j
  unfold bwX
  rw [if_neg (by omega)]
theorem bwX_s {F : Nat → Int} {V : Nat → Nat → Int} {mi T K : Nat} (h : K ≤ mi) (h2 : mi ≤ 9999) : us (bwX F V mi T K) (10000 * T + K) (V T K) = bwX F V mi T (K + 1) := by
  funext j
  unfold us bwX
  by_cases e : j = 10000 * T + K
  · subst e
    rw [if_pos rfl, show (10000 * T + K) / 10000 = T by omega, show (10000 * T + K) % 10000 = K by omega, if_pos (by omega)]
  · rw [if_neg e]
    by_cases c : j % 10000 ≤ mi ∧ (j / 10000 < T ∨ (j / 10000 = T ∧ j % 10000 < K))
    · rw [if_pos c, if_pos (by omega)]
    · rw [if_neg c, if_neg (by omega)]
theorem bwX_s0 {F : Nat → Int} {V : Nat → Nat → Int} {mi K : Nat} (h : K ≤ mi) (h2 : mi ≤ 9999) : us (bwX F V mi 0 K) K (V 0 K) = bwX F V mi 0 (K + 1) := by
  have e := bwX_s (F := F) (V := V) (T := 0) h h2
  rw [show 10000 * 0 + K = K by omega] at e
  exact e
theorem bwX_r {F : Nat → Int} {V : Nat → Nat → Int} {mi T : Nat} : bwX F V mi T (mi + 1) = bwX F V mi (T + 1) 0 := by
  funext j
  unfold bwX
  by_cases c : j % 10000 ≤ mi ∧ (j / 10000 < T ∨ (j / 10000 = T ∧ j % 10000 < mi + 1))
  · rw [if_pos c, if_pos (by omega)]
  · rw [if_neg c, if_neg (by omega)]
theorem bwX_at {F : Nat → Int} {V : Nat → Nat → Int} {mi T K t m : Nat} (h : m ≤ mi) (h2 : mi ≤ 9999) (h3 : t < T ∨ (t = T ∧ m < K)) : bwX F V mi T K (10000 * t + m) = V t m := by
  unfold bwX
  rw [show (10000 * t + m) / 10000 = t by omega, show (10000 * t + m) % 10000 = m by omega, if_pos ⟨h, h3⟩]
/-- the fewest -/
def pdT (B PD : Nat → Int) (t : Nat) : Int := if B t < 0 then 0 else PD t
def fwV (B PD : Nat → Int) : Nat → Nat → Int
  | 0, v => if v = 0 then 0 else 99
  | t + 1, v => if 0 < pdT B PD t ∧ pdT B PD t ≤ (v : Int) ∧ fwV B PD t ((v : Int) - pdT B PD t).toNat + 1 < fwV B PD t v then fwV B PD t ((v : Int) - pdT B PD t).toNat + 1 else fwV B PD t v
theorem fwV_in {B PD : Nat → Int} : ∀ t v : Nat, 0 ≤ fwV B PD t v ∧ fwV B PD t v ≤ 99
  | 0, v => by unfold fwV; split <;> omega
  | t + 1, v => by
    have a := fwV_in (B := B) (PD := PD) t v
    have b := fwV_in (B := B) (PD := PD) t ((v : Int) - pdT B PD t).toNat
    unfold fwV
    split <;> omega
theorem fwV_y {B PD : Nat → Int} {t : Nat} {pd v o w : Int} (hp : pd = pdT B PD t) (h0 : 0 ≤ v) (ho : o = fwV B PD t v.toNat) (hw : w = fwV B PD t (v - pd).toNat) (c : 0 < pd ∧ pd ≤ v ∧ w + 1 < o) : fwV B PD (t + 1) v.toNat = w + 1 := by
  subst hp ho hw
  rw [fwV, show ((v.toNat : Nat) : Int) = v by omega, if_pos c]
theorem fwV_n {B PD : Nat → Int} {t : Nat} {pd v o : Int} (hp : pd = pdT B PD t) (h0 : 0 ≤ v) (ho : o = fwV B PD t v.toNat) (c : ¬ (0 < pd ∧ pd ≤ v ∧ fwV B PD t (v - pd).toNat + 1 < o)) : fwV B PD (t + 1) v.toNat = o := by
  subst hp ho
  rw [fwV, show ((v.toNat : Nat) : Int) = v by omega, if_neg c]
theorem fwV_ne {B PD : Nat → Int} {t v : Nat} (h : ¬ fwV B PD (t + 1) v = fwV B PD t v) : 0 < PD t ∧ PD t ≤ (v : Int) := by
  rw [fwV] at h
  by_cases c : 0 < pdT B PD t ∧ pdT B PD t ≤ (v : Int) ∧ fwV B PD t ((v : Int) - pdT B PD t).toNat + 1 < fwV B PD t v
  · unfold pdT at c
    by_cases d : B t < 0
    · rw [if_pos d] at c; omega
    · rw [if_neg d] at c; exact ⟨c.1, c.2.1⟩
  · rw [if_neg c] at h
    exact absurd rfl h
