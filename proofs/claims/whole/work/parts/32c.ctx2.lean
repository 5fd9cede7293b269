section WK3
variable {p : Program} {l : Launch} {e : Env} {R : Room} {s : State} {m : MethodId} {args : Array Value} {below : List Frame} {meth : Method} {c : Code} {H : Heap} {locs : List Loc} {cells slots : Nat} {Q : State → Prop}
variable {cc : ByteArray} {pc nL : Nat} {ls : Array Slot} {own : String} {st0 : List Value} {ty : List (ClassId × FieldType)} {ws wc wr : va_W} {A0 : Nat → Prop} {H0 : Heap}
abbrev QVK {S : Type} (tyf : S → List (ClassId × FieldType)) (D : va_G) (post : S → Prop) (W1 : S → va_W) : (Nat → Prop) → Array Value → State → Outcome → State → Prop := fun A => va_Qv post (fun u t => (va_P D cls (W1 u) t.heap ∧ va_D A (W1 u)) ∧ va_K D cls (tyf u) t) A
theorem hc_vretK {D : va_G} {S : Type} {tyf : S → List (ClassId × FieldType)} {post : S → Prop} {W1 : S → va_W} (Sx : CallFix p m c cc nL s args BW own) (hr : meth.sig.returnType = none) (hlocks : meth.locks = false) (hdg : decode cc pc = .ok (.return_, 1)) (hS : va_S A0 s.heap H locs) (u : S) (hv : post u) (hP : va_P D cls (W1 u) H) (hD : va_D A0 (W1 u)) (hK : va_K D cls (tyf u) s) : W p l e R s m args below meth c H locs cells slots (MQ below (QVK tyf D post W1 A0) args s cells slots A0) (F0 m pc ls []) :=
  W.vret Sx.1 Sx.2.1 hr (fun t ht hW => ⟨⟨u, rfl, hv, ⟨by rw [ht]; exact hP, hD⟩, va_K.moved hW.alike hK⟩, hS.F ht⟩) hS.2.2 hdg hlocks
theorem hk_vK {D : va_G} {S : Type} {tyf : S → List (ClassId × FieldType)} {post : S → Prop} {W1 : S → va_W} {a : Array Value} {rest : List Value} {mc ms c1 s1 : Nat} (isC isR : List Nat) (hr : va_Run p l e R s m args below meth c H locs cells slots mc ms (F0 m pc ls st0) rest (QVK tyf D post W1 (va_A wc H.size) a) (va_A wc H.size)) (hS : va_S A0 H0 H locs) (hA : ∀ q : Nat, H0.size ≤ q → A0 q) (hP : va_P D cls ws H) (hD : va_D A0 ws) (hC : isC.map (fun i => ws[i]?) = wc.map some) (hRr : isR.map (fun i => ws[i]?) = wr.map some) (hn : va_nd isR = true) (hdis : ∀ i ∈ isR, i ∉ isC) (h1 : cells + mc = c1) (h2 : slots + ms = s1)
    (kk : ∀ (u : S) (H1 : Heap) (locs1 : List Loc), post u → va_P D cls (wr ++ W1 u) H1 → va_D A0 (wr ++ W1 u) → va_K D cls (tyf u) s → va_S A0 H0 H1 locs1 → W p l e R s m args below meth c H1 locs1 c1 s1 Q (F0 m (pc + 3) ls rest)) : W p l e R s m args below meth c H locs cells slots Q (F0 m pc ls st0) := by
  subst h1; subst h2
  have hFc := va_free hD hS hA isC hC
  refine va_callv hr hS (fun q _ h => hFc q h) hFc (fun u t H1 locs1 ht hvm hw hB hz hk hS1 => ?_)
  obtain ⟨⟨hP1, hD1⟩, hK1⟩ := hB
  rw [ht] at hP1
  obtain ⟨hP2, hD2⟩ := va_join hP hD isC isR hC hRr hn hdis hk hFc hP1 hD1
  exact kk u H1 locs1 hw hP2 hD2 (va_K.moved hvm.symm hK1) hS1
end WK3
def cyS (cy : Nat → ClassId) (q : ClassId) : Nat → ClassId := fun k => if k = 4 then q else cy k
theorem kk_27 : Cond.methodLink "WhiteElephants" 1 ⟨"java/lang/Object", "<init>", "()V"⟩ ∈ BW := bw_at 87 (by decide +kernel) rfl
theorem kk_28 : Cond.instanceMethod ⟨"java/lang/Object", "<init>", "()V"⟩ ∈ BW := bw_at 88 (by decide +kernel) rfl
theorem kk_29 : Cond.code ⟨"java/lang/Object", "<init>", "()V"⟩ object_method_1_code 1 (none : Option Jvm.ClassFile.FieldType) ∈ BW := bw_at 89 (by decide +kernel) rfl
theorem kk_37 : Cond.methodLink "WhiteElephants$Tape" 3 ⟨"java/lang/Object", "<init>", "()V"⟩ ∈ BW := bw_at 97 (by decide +kernel) rfl
theorem kk_59 : Cond.methodLink "WhiteElephants$Hall" 3 ⟨"java/lang/Object", "<init>", "()V"⟩ ∈ BW := bw_at 119 (by decide +kernel) rfl
theorem kk_65 : Cond.methodLink "WhiteElephants$Things" 3 ⟨"java/lang/Object", "<init>", "()V"⟩ ∈ BW := bw_at 125 (by decide +kernel) rfl
theorem kk_115 : Cond.methodLink "WhiteElephants$Ladies" 3 ⟨"java/lang/Object", "<init>", "()V"⟩ ∈ BW := bw_at 175 (by decide +kernel) rfl
theorem kk_140 : Cond.methodLink "WhiteElephants$Laws" 3 ⟨"java/lang/Object", "<init>", "()V"⟩ ∈ BW := bw_at 200 (by decide +kernel) rfl
theorem kk_158 : Cond.methodLink "WhiteElephants$Buyers" 3 ⟨"java/lang/Object", "<init>", "()V"⟩ ∈ BW := bw_at 218 (by decide +kernel) rfl
theorem kk_195 : Cond.methodLink "WhiteElephants$Sightings" 3 ⟨"java/lang/Object", "<init>", "()V"⟩ ∈ BW := bw_at 255 (by decide +kernel) rfl
theorem kk_227 : Cond.methodLink "WhiteElephants$Secrets" 3 ⟨"java/lang/Object", "<init>", "()V"⟩ ∈ BW := bw_at 287 (by decide +kernel) rfl
theorem kk_321 : Cond.methodLink "WhiteElephants$Sale" 3 ⟨"java/lang/Object", "<init>", "()V"⟩ ∈ BW := bw_at 381 (by decide +kernel) rfl
theorem kk_355 : Cond.methodLink "WhiteElephants$Picks" 3 ⟨"java/lang/Object", "<init>", "()V"⟩ ∈ BW := bw_at 415 (by decide +kernel) rfl
theorem kk_367 : Cond.methodLink "WhiteElephants$Shelf" 3 ⟨"java/lang/Object", "<init>", "()V"⟩ ∈ BW := bw_at 427 (by decide +kernel) rfl
theorem kk_1100 : Cond.methodLink "WhiteElephantsModel" 1 ⟨"java/lang/Object", "<init>", "()V"⟩ ∈ BW := bw_at 1160 (by decide +kernel) rfl
