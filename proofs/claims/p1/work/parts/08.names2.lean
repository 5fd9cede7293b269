section WK3
variable {p : Program} {l : Launch} {e : Env} {R : Room} {s : State} {m : MethodId} {args : Array Value} {below : List Frame} {meth : Method} {c : Code} {H : Heap} {locs : List Loc} {cells slots : Nat} {Q : State → Prop}
variable {cc : ByteArray} {pc nL : Nat} {ls : Array Slot} {own : String} {st0 : List Value} {ty : List (ClassId × FieldType)} {ws wc wr : va_W} {A0 : Nat → Prop} {H0 : Heap}
abbrev QVK {S : Type} (tyf : S → List (ClassId × FieldType)) (D : va_G) (post : S → Prop) (W1 : S → va_W) : (Nat → Prop) → Array Value → State → Outcome → State → Prop := fun A => va_Qv post (fun u t => (va_P D cls (W1 u) t.heap ∧ va_D A (W1 u)) ∧ va_K D cls (tyf u) t) A
theorem hc_vretK {D : va_G} {S : Type} {tyf : S → List (ClassId × FieldType)} {post : S → Prop} {W1 : S → va_W} (Sx : CallFix p m c cc nL s args BW own) (hr : meth.sig.returnType = none) (hlocks : meth.locks = false) (hdg : decode cc pc = .ok (.return_, 1)) (hS : va_S A0 s.heap H locs) (u : S) (hv : post u) (hP : va_P D cls (W1 u) H) (hD : va_D A0 (W1 u)) (hK : va_K D cls (tyf u) s) : W p l e R s m args below meth c H locs cells slots (MQ below (QVK tyf D post W1 A0) args s cells slots A0) (F0 m pc ls []) :=
  W.vret Sx.1 Sx.2.1 hr (fun t ht hW => ⟨⟨u, rfl, hv, ⟨by rw [ht]; exact hP, hD⟩, va_K.moved hW.alike hK⟩, hS.F ht⟩) hS.2.2 hdg hlocks
theorem hk_vK {D : va_G} {S : Type} {tyf : S → List (ClassId × FieldType)} {post : S → Prop} {W1 : S → va_W} {a : Array Value} {rest : List Value} {mc ms c1 s1 : Nat} (isC isR : List Nat) (hr : va_Run p l e R s m args below meth c H locs cells slots mc ms (F0 m pc ls st0) rest (QVK tyf D post W1 (va_A wc H.size) a) (va_A wc H.size)) (hS : va_S A0 H0 H locs) (hA : ∀ q : Nat, H0.size ≤ q → A0 q) (hP : va_P D cls ws H) (hD : va_D A0 ws) (hC : isC.map (fun i => ws[i]?) = wc.map some) (hRr : isR.map (fun i => ws[i]?) = wr.map some) (hn : va_nd isR = true) (hdis : ∀ i ∈ isR, i ∉ isC) (h1 : cells + mc = c1) (h2 : slots + ms = s1)
    (kk : ∀ (u : S) (H1 : Heap) (locs1 : List Loc), post u → va_P D cls (wr ++ W1 u) H1 → va_D A0 (wr ++ W1 u) → va_K D cls (tyf u) s → va_S A0 H0 H1 locs1 → W p l e R s m args below meth c H1 locs1 c1 s1 Q (F0 m (pc + 3) ls rest)) : W p l e R s m args below meth c H locs cells slots Q (F0 m pc ls st0) := by
  subst h1; subst h2
  have hFc := va_free hD hS hA isC hC
  refine va_callv hr hS (fun q _ h => hFc q h) hFc (fun u t H1 locs1 ht hvm hw hB hz hk hS1 => ?_)
  obtain ⟨⟨hP1, hD1⟩, hK1⟩ := hB
  rw [ht] at hP1
  obtain ⟨hP2, hD2⟩ := va_join hP hD isC isR hC hRr hn hdis hk hFc hP1 hD1
  exact kk u H1 locs1 hw hP2 hD2 (va_K.moved hvm.symm hK1) hS1
end WK3
def cyS (cy : Nat → ClassId) (q : ClassId) : Nat → ClassId := fun k => if k = 4 then q else cy k
abbrev mb_X0_init : ByteArray := prog_2_method_1_code
abbrev my_X0_init : MethodName := ⟨"WhiteElephants$Buyers", "<init>", "()V"⟩
theorem md_X0_init : MD my_X0_init 0 := ⟨by decide, by decide, by decide +kernel⟩
abbrev mb_X10_init : ByteArray := prog_12_method_1_code
abbrev my_X10_init : MethodName := ⟨"WhiteElephants$Things", "<init>", "()V"⟩
theorem md_X10_init : MD my_X10_init 0 := ⟨by decide, by decide, by decide +kernel⟩
abbrev mb_X11_init : ByteArray := prog_1_method_1_code
abbrev my_X11_init : MethodName := ⟨"WhiteElephants", "<init>", "()V"⟩
theorem md_X11_init : MD my_X11_init 0 := ⟨by decide, by decide, by decide +kernel⟩
abbrev mb_X12_init : ByteArray := prog_14_method_1_code
abbrev my_X12_init : MethodName := ⟨"WhiteElephantsModel", "<init>", "()V"⟩
theorem md_X12_init : MD my_X12_init 0 := ⟨by decide, by decide, by decide +kernel⟩
abbrev mb_X1_init : ByteArray := prog_3_method_1_code
abbrev my_X1_init : MethodName := ⟨"WhiteElephants$Hall", "<init>", "()V"⟩
theorem md_X1_init : MD my_X1_init 0 := ⟨by decide, by decide, by decide +kernel⟩
abbrev mb_X2_init : ByteArray := prog_4_method_1_code
abbrev my_X2_init : MethodName := ⟨"WhiteElephants$Ladies", "<init>", "()V"⟩
theorem md_X2_init : MD my_X2_init 0 := ⟨by decide, by decide, by decide +kernel⟩
abbrev mb_X3_init : ByteArray := prog_5_method_1_code
abbrev my_X3_init : MethodName := ⟨"WhiteElephants$Laws", "<init>", "()V"⟩
theorem md_X3_init : MD my_X3_init 0 := ⟨by decide, by decide, by decide +kernel⟩
abbrev mb_X4_init : ByteArray := prog_6_method_1_code
abbrev my_X4_init : MethodName := ⟨"WhiteElephants$Picks", "<init>", "()V"⟩
theorem md_X4_init : MD my_X4_init 0 := ⟨by decide, by decide, by decide +kernel⟩
abbrev mb_X5_init : ByteArray := prog_7_method_1_code
abbrev my_X5_init : MethodName := ⟨"WhiteElephants$Sale", "<init>", "()V"⟩
theorem md_X5_init : MD my_X5_init 0 := ⟨by decide, by decide, by decide +kernel⟩
abbrev mb_X6_init : ByteArray := prog_8_method_1_code
abbrev my_X6_init : MethodName := ⟨"WhiteElephants$Secrets", "<init>", "()V"⟩
theorem md_X6_init : MD my_X6_init 0 := ⟨by decide, by decide, by decide +kernel⟩
abbrev mb_X7_init : ByteArray := prog_9_method_1_code
abbrev my_X7_init : MethodName := ⟨"WhiteElephants$Shelf", "<init>", "()V"⟩
theorem md_X7_init : MD my_X7_init 0 := ⟨by decide, by decide, by decide +kernel⟩
abbrev mb_X8_init : ByteArray := prog_10_method_1_code
abbrev my_X8_init : MethodName := ⟨"WhiteElephants$Sightings", "<init>", "()V"⟩
theorem md_X8_init : MD my_X8_init 0 := ⟨by decide, by decide, by decide +kernel⟩
abbrev mb_X9_init : ByteArray := prog_11_method_1_code
abbrev my_X9_init : MethodName := ⟨"WhiteElephants$Tape", "<init>", "()V"⟩
theorem md_X9_init : MD my_X9_init 0 := ⟨by decide, by decide, by decide +kernel⟩
theorem kk_26 : Cond.code ⟨"WhiteElephants", "<init>", "()V"⟩ prog_1_method_1_code 2 (none : Option Jvm.ClassFile.FieldType) ∈ BW := bw_at 86 (by decide +kernel) rfl
theorem kk_27 : Cond.methodLink "WhiteElephants" 1 ⟨"java/lang/Object", "<init>", "()V"⟩ ∈ BW := bw_at 87 (by decide +kernel) rfl
theorem kk_28 : Cond.instanceMethod ⟨"java/lang/Object", "<init>", "()V"⟩ ∈ BW := bw_at 88 (by decide +kernel) rfl
theorem kk_29 : Cond.code ⟨"java/lang/Object", "<init>", "()V"⟩ object_method_1_code 1 (none : Option Jvm.ClassFile.FieldType) ∈ BW := bw_at 89 (by decide +kernel) rfl
theorem kk_30 : Cond.classLink "WhiteElephants" 9 "WhiteElephants$Shelf" ∈ BW := bw_at 90 (by decide +kernel) rfl
theorem kk_32 : Cond.classLink "WhiteElephants" 19 "WhiteElephants$Tape" ∈ BW := bw_at 92 (by decide +kernel) rfl
theorem kk_33 : Cond.instantiable "WhiteElephants$Tape" 4 ∈ BW := bw_at 93 (by decide +kernel) rfl
theorem kk_35 : Cond.instanceMethod ⟨"WhiteElephants$Tape", "<init>", "()V"⟩ ∈ BW := bw_at 95 (by decide +kernel) rfl
theorem kk_36 : Cond.code ⟨"WhiteElephants$Tape", "<init>", "()V"⟩ prog_11_method_1_code 1 (none : Option Jvm.ClassFile.FieldType) ∈ BW := bw_at 96 (by decide +kernel) rfl
theorem kk_37 : Cond.methodLink "WhiteElephants$Tape" 3 ⟨"java/lang/Object", "<init>", "()V"⟩ ∈ BW := bw_at 97 (by decide +kernel) rfl
theorem kk_41 : Cond.fieldLink "WhiteElephants$Tape" 19 "WhiteElephants$Tape" "begin" "I" ∈ BW := bw_at 101 (by decide +kernel) rfl
theorem kk_42 : Cond.fieldLink "WhiteElephants$Tape" 22 "WhiteElephants$Tape" "end" "I" ∈ BW := bw_at 102 (by decide +kernel) rfl
theorem kk_52 : Cond.arrayClass .int ∈ BW := bw_at 112 (by decide +kernel) rfl
theorem kk_54 : Cond.classLink "WhiteElephants" 26 "WhiteElephants$Hall" ∈ BW := bw_at 114 (by decide +kernel) rfl
theorem kk_55 : Cond.instantiable "WhiteElephants$Hall" 14 ∈ BW := bw_at 115 (by decide +kernel) rfl
theorem kk_57 : Cond.instanceMethod ⟨"WhiteElephants$Hall", "<init>", "()V"⟩ ∈ BW := bw_at 117 (by decide +kernel) rfl
theorem kk_58 : Cond.code ⟨"WhiteElephants$Hall", "<init>", "()V"⟩ prog_3_method_1_code 1 (none : Option Jvm.ClassFile.FieldType) ∈ BW := bw_at 118 (by decide +kernel) rfl
theorem kk_59 : Cond.methodLink "WhiteElephants$Hall" 3 ⟨"java/lang/Object", "<init>", "()V"⟩ ∈ BW := bw_at 119 (by decide +kernel) rfl
theorem kk_60 : Cond.classLink "WhiteElephants$Hall" 9 "WhiteElephants$Things" ∈ BW := bw_at 120 (by decide +kernel) rfl
theorem kk_61 : Cond.instantiable "WhiteElephants$Things" 8 ∈ BW := bw_at 121 (by decide +kernel) rfl
theorem kk_63 : Cond.instanceMethod ⟨"WhiteElephants$Things", "<init>", "()V"⟩ ∈ BW := bw_at 123 (by decide +kernel) rfl
theorem kk_64 : Cond.code ⟨"WhiteElephants$Things", "<init>", "()V"⟩ prog_12_method_1_code 1 (none : Option Jvm.ClassFile.FieldType) ∈ BW := bw_at 124 (by decide +kernel) rfl
theorem kk_65 : Cond.methodLink "WhiteElephants$Things" 3 ⟨"java/lang/Object", "<init>", "()V"⟩ ∈ BW := bw_at 125 (by decide +kernel) rfl
theorem kk_91 : Cond.fieldLink "WhiteElephants$Things" 34 "WhiteElephants$Things" "sharedTo" "[I" ∈ BW := bw_at 151 (by decide +kernel) rfl
theorem kk_110 : Cond.classLink "WhiteElephants$Hall" 18 "WhiteElephants$Ladies" ∈ BW := bw_at 170 (by decide +kernel) rfl
theorem kk_111 : Cond.instantiable "WhiteElephants$Ladies" 4 ∈ BW := bw_at 171 (by decide +kernel) rfl
theorem kk_113 : Cond.instanceMethod ⟨"WhiteElephants$Ladies", "<init>", "()V"⟩ ∈ BW := bw_at 173 (by decide +kernel) rfl
theorem kk_114 : Cond.code ⟨"WhiteElephants$Ladies", "<init>", "()V"⟩ prog_4_method_1_code 1 (none : Option Jvm.ClassFile.FieldType) ∈ BW := bw_at 174 (by decide +kernel) rfl
theorem kk_115 : Cond.methodLink "WhiteElephants$Ladies" 3 ⟨"java/lang/Object", "<init>", "()V"⟩ ∈ BW := bw_at 175 (by decide +kernel) rfl
theorem kk_135 : Cond.classLink "WhiteElephants$Hall" 25 "WhiteElephants$Laws" ∈ BW := bw_at 195 (by decide +kernel) rfl
theorem kk_136 : Cond.instantiable "WhiteElephants$Laws" 3 ∈ BW := bw_at 196 (by decide +kernel) rfl
theorem kk_138 : Cond.instanceMethod ⟨"WhiteElephants$Laws", "<init>", "()V"⟩ ∈ BW := bw_at 198 (by decide +kernel) rfl
theorem kk_139 : Cond.code ⟨"WhiteElephants$Laws", "<init>", "()V"⟩ prog_5_method_1_code 1 (none : Option Jvm.ClassFile.FieldType) ∈ BW := bw_at 199 (by decide +kernel) rfl
theorem kk_140 : Cond.methodLink "WhiteElephants$Laws" 3 ⟨"java/lang/Object", "<init>", "()V"⟩ ∈ BW := bw_at 200 (by decide +kernel) rfl
theorem kk_142 : Cond.fieldLink "WhiteElephants$Laws" 15 "WhiteElephants$Laws" "draft" "[I" ∈ BW := bw_at 202 (by decide +kernel) rfl
theorem kk_153 : Cond.classLink "WhiteElephants$Hall" 32 "WhiteElephants$Buyers" ∈ BW := bw_at 213 (by decide +kernel) rfl
theorem kk_154 : Cond.instantiable "WhiteElephants$Buyers" 6 ∈ BW := bw_at 214 (by decide +kernel) rfl
theorem kk_156 : Cond.instanceMethod ⟨"WhiteElephants$Buyers", "<init>", "()V"⟩ ∈ BW := bw_at 216 (by decide +kernel) rfl
theorem kk_157 : Cond.code ⟨"WhiteElephants$Buyers", "<init>", "()V"⟩ prog_2_method_1_code 1 (none : Option Jvm.ClassFile.FieldType) ∈ BW := bw_at 217 (by decide +kernel) rfl
theorem kk_158 : Cond.methodLink "WhiteElephants$Buyers" 3 ⟨"java/lang/Object", "<init>", "()V"⟩ ∈ BW := bw_at 218 (by decide +kernel) rfl
theorem kk_190 : Cond.classLink "WhiteElephants$Hall" 39 "WhiteElephants$Sightings" ∈ BW := bw_at 250 (by decide +kernel) rfl
theorem kk_191 : Cond.instantiable "WhiteElephants$Sightings" 8 ∈ BW := bw_at 251 (by decide +kernel) rfl
theorem kk_193 : Cond.instanceMethod ⟨"WhiteElephants$Sightings", "<init>", "()V"⟩ ∈ BW := bw_at 253 (by decide +kernel) rfl
theorem kk_194 : Cond.code ⟨"WhiteElephants$Sightings", "<init>", "()V"⟩ prog_10_method_1_code 1 (none : Option Jvm.ClassFile.FieldType) ∈ BW := bw_at 254 (by decide +kernel) rfl
theorem kk_195 : Cond.methodLink "WhiteElephants$Sightings" 3 ⟨"java/lang/Object", "<init>", "()V"⟩ ∈ BW := bw_at 255 (by decide +kernel) rfl
theorem kk_203 : Cond.fieldLink "WhiteElephants$Sightings" 31 "WhiteElephants$Sightings" "tried" "[I" ∈ BW := bw_at 263 (by decide +kernel) rfl
theorem kk_204 : Cond.fieldLink "WhiteElephants$Sightings" 34 "WhiteElephants$Sightings" "length" "[I" ∈ BW := bw_at 264 (by decide +kernel) rfl
theorem kk_222 : Cond.classLink "WhiteElephants$Hall" 46 "WhiteElephants$Secrets" ∈ BW := bw_at 282 (by decide +kernel) rfl
theorem kk_223 : Cond.instantiable "WhiteElephants$Secrets" 9 ∈ BW := bw_at 283 (by decide +kernel) rfl
theorem kk_225 : Cond.instanceMethod ⟨"WhiteElephants$Secrets", "<init>", "()V"⟩ ∈ BW := bw_at 285 (by decide +kernel) rfl
theorem kk_226 : Cond.code ⟨"WhiteElephants$Secrets", "<init>", "()V"⟩ prog_8_method_1_code 1 (none : Option Jvm.ClassFile.FieldType) ∈ BW := bw_at 286 (by decide +kernel) rfl
theorem kk_227 : Cond.methodLink "WhiteElephants$Secrets" 3 ⟨"java/lang/Object", "<init>", "()V"⟩ ∈ BW := bw_at 287 (by decide +kernel) rfl
theorem kk_234 : Cond.fieldLink "WhiteElephants$Secrets" 25 "WhiteElephants$Secrets" "hidden" "[I" ∈ BW := bw_at 294 (by decide +kernel) rfl
theorem kk_235 : Cond.fieldLink "WhiteElephants$Secrets" 28 "WhiteElephants$Secrets" "safe" "[I" ∈ BW := bw_at 295 (by decide +kernel) rfl
theorem kk_236 : Cond.fieldLink "WhiteElephants$Secrets" 31 "WhiteElephants$Secrets" "lies" "[I" ∈ BW := bw_at 296 (by decide +kernel) rfl
theorem kk_237 : Cond.fieldLink "WhiteElephants$Secrets" 34 "WhiteElephants$Secrets" "hiddenCount" "I" ∈ BW := bw_at 297 (by decide +kernel) rfl
theorem kk_238 : Cond.fieldLink "WhiteElephants$Secrets" 37 "WhiteElephants$Secrets" "space" "[I" ∈ BW := bw_at 298 (by decide +kernel) rfl
theorem kk_284 : Cond.fieldLink "WhiteElephants$Hall" 73 "WhiteElephants$Hall" "lostAt" "[I" ∈ BW := bw_at 344 (by decide +kernel) rfl
theorem kk_316 : Cond.classLink "WhiteElephants" 36 "WhiteElephants$Sale" ∈ BW := bw_at 376 (by decide +kernel) rfl
theorem kk_317 : Cond.instantiable "WhiteElephants$Sale" 9 ∈ BW := bw_at 377 (by decide +kernel) rfl
theorem kk_319 : Cond.instanceMethod ⟨"WhiteElephants$Sale", "<init>", "()V"⟩ ∈ BW := bw_at 379 (by decide +kernel) rfl
theorem kk_320 : Cond.code ⟨"WhiteElephants$Sale", "<init>", "()V"⟩ prog_7_method_1_code 1 (none : Option Jvm.ClassFile.FieldType) ∈ BW := bw_at 380 (by decide +kernel) rfl
theorem kk_321 : Cond.methodLink "WhiteElephants$Sale" 3 ⟨"java/lang/Object", "<init>", "()V"⟩ ∈ BW := bw_at 381 (by decide +kernel) rfl
theorem kk_324 : Cond.fieldLink "WhiteElephants$Sale" 18 "WhiteElephants$Sale" "left" "[I" ∈ BW := bw_at 384 (by decide +kernel) rfl
theorem kk_326 : Cond.fieldLink "WhiteElephants$Sale" 25 "WhiteElephants$Sale" "truth" "[I" ∈ BW := bw_at 386 (by decide +kernel) rfl
theorem kk_327 : Cond.fieldLink "WhiteElephants$Sale" 28 "WhiteElephants$Sale" "buyer" "[I" ∈ BW := bw_at 387 (by decide +kernel) rfl
theorem kk_328 : Cond.fieldLink "WhiteElephants$Sale" 31 "WhiteElephants$Sale" "paid" "[I" ∈ BW := bw_at 388 (by decide +kernel) rfl
theorem kk_329 : Cond.fieldLink "WhiteElephants$Sale" 34 "WhiteElephants$Sale" "purse" "[I" ∈ BW := bw_at 389 (by decide +kernel) rfl
theorem kk_330 : Cond.fieldLink "WhiteElephants$Sale" 37 "WhiteElephants$Sale" "idle" "[I" ∈ BW := bw_at 390 (by decide +kernel) rfl
theorem kk_350 : Cond.classLink "WhiteElephants" 43 "WhiteElephants$Picks" ∈ BW := bw_at 410 (by decide +kernel) rfl
theorem kk_351 : Cond.instantiable "WhiteElephants$Picks" 2 ∈ BW := bw_at 411 (by decide +kernel) rfl
theorem kk_353 : Cond.instanceMethod ⟨"WhiteElephants$Picks", "<init>", "()V"⟩ ∈ BW := bw_at 413 (by decide +kernel) rfl
theorem kk_354 : Cond.code ⟨"WhiteElephants$Picks", "<init>", "()V"⟩ prog_6_method_1_code 1 (none : Option Jvm.ClassFile.FieldType) ∈ BW := bw_at 414 (by decide +kernel) rfl
theorem kk_355 : Cond.methodLink "WhiteElephants$Picks" 3 ⟨"java/lang/Object", "<init>", "()V"⟩ ∈ BW := bw_at 415 (by decide +kernel) rfl
theorem kk_363 : Cond.instantiable "WhiteElephants$Shelf" 3 ∈ BW := bw_at 423 (by decide +kernel) rfl
theorem kk_365 : Cond.instanceMethod ⟨"WhiteElephants$Shelf", "<init>", "()V"⟩ ∈ BW := bw_at 425 (by decide +kernel) rfl
theorem kk_366 : Cond.code ⟨"WhiteElephants$Shelf", "<init>", "()V"⟩ prog_9_method_1_code 1 (none : Option Jvm.ClassFile.FieldType) ∈ BW := bw_at 426 (by decide +kernel) rfl
theorem kk_367 : Cond.methodLink "WhiteElephants$Shelf" 3 ⟨"java/lang/Object", "<init>", "()V"⟩ ∈ BW := bw_at 427 (by decide +kernel) rfl
theorem kk_381 : Cond.arrayClass .long ∈ BW := bw_at 441 (by decide +kernel) rfl
theorem kk_1099 : Cond.code ⟨"WhiteElephantsModel", "<init>", "()V"⟩ prog_14_method_1_code 2 (none : Option Jvm.ClassFile.FieldType) ∈ BW := bw_at 1159 (by decide +kernel) rfl
theorem kk_1100 : Cond.methodLink "WhiteElephantsModel" 1 ⟨"java/lang/Object", "<init>", "()V"⟩ ∈ BW := bw_at 1160 (by decide +kernel) rfl
theorem kk_1141 : Cond.fieldLink "WhiteElephantsModel" 104 "WhiteElephantsModel" "gone" "[Z" ∈ BW := bw_at 1201 (by decide +kernel) rfl
theorem kk_1142 : Cond.fieldLink "WhiteElephantsModel" 108 "WhiteElephantsModel" "purse" "[I" ∈ BW := bw_at 1202 (by decide +kernel) rfl
theorem kk_1144 : Cond.fieldLink "WhiteElephantsModel" 114 "WhiteElephantsModel" "mate" "[I" ∈ BW := bw_at 1204 (by decide +kernel) rfl
theorem kk_1145 : Cond.fieldLink "WhiteElephantsModel" 117 "WhiteElephantsModel" "mateOf" "[I" ∈ BW := bw_at 1205 (by decide +kernel) rfl
theorem kk_1146 : Cond.fieldLink "WhiteElephantsModel" 120 "WhiteElephantsModel" "from" "[I" ∈ BW := bw_at 1206 (by decide +kernel) rfl
theorem kk_1147 : Cond.fieldLink "WhiteElephantsModel" 123 "WhiteElephantsModel" "line" "[I" ∈ BW := bw_at 1207 (by decide +kernel) rfl
theorem kk_1148 : Cond.fieldLink "WhiteElephantsModel" 126 "WhiteElephantsModel" "may" "[I" ∈ BW := bw_at 1208 (by decide +kernel) rfl
theorem kk_1149 : Cond.fieldLink "WhiteElephantsModel" 129 "WhiteElephantsModel" "room" "[I" ∈ BW := bw_at 1209 (by decide +kernel) rfl
theorem kk_1150 : Cond.fieldLink "WhiteElephantsModel" 132 "WhiteElephantsModel" "loses" "[I" ∈ BW := bw_at 1210 (by decide +kernel) rfl
theorem kk_1255 : Cond.arrayClass .boolean ∈ BW := bw_at 1315 (by decide +kernel) rfl
theorem dd_X0_init_0 : decode mb_X0_init 0 = .ok (.aload_n 0, 1) := by decide +kernel
theorem dd_X0_init_1 : decode mb_X0_init 1 = .ok (.invokespecial 3, 3) := by decide +kernel
theorem dd_X0_init_4 : decode mb_X0_init 4 = .ok (.aload_n 0, 1) := by decide +kernel
theorem dd_X0_init_5 : decode mb_X0_init 5 = .ok (.bipush 12, 2) := by decide +kernel
theorem dd_X0_init_7 : decode mb_X0_init 7 = .ok (.newarray .int, 2) := by decide +kernel
theorem dd_X0_init_9 : decode mb_X0_init 9 = .ok (.putfield 9, 3) := by decide +kernel
theorem dd_X0_init_12 : decode mb_X0_init 12 = .ok (.aload_n 0, 1) := by decide +kernel
theorem dd_X0_init_13 : decode mb_X0_init 13 = .ok (.bipush 12, 2) := by decide +kernel
theorem dd_X0_init_15 : decode mb_X0_init 15 = .ok (.newarray .int, 2) := by decide +kernel
theorem dd_X0_init_17 : decode mb_X0_init 17 = .ok (.putfield 15, 3) := by decide +kernel
theorem dd_X0_init_20 : decode mb_X0_init 20 = .ok (.aload_n 0, 1) := by decide +kernel
theorem dd_X0_init_21 : decode mb_X0_init 21 = .ok (.bipush 12, 2) := by decide +kernel
theorem dd_X0_init_23 : decode mb_X0_init 23 = .ok (.newarray .int, 2) := by decide +kernel
theorem dd_X0_init_25 : decode mb_X0_init 25 = .ok (.putfield 18, 3) := by decide +kernel
theorem dd_X0_init_28 : decode mb_X0_init 28 = .ok (.aload_n 0, 1) := by decide +kernel
theorem dd_X0_init_29 : decode mb_X0_init 29 = .ok (.bipush 12, 2) := by decide +kernel
theorem dd_X0_init_31 : decode mb_X0_init 31 = .ok (.newarray .int, 2) := by decide +kernel
theorem dd_X0_init_33 : decode mb_X0_init 33 = .ok (.putfield 21, 3) := by decide +kernel
theorem dd_X0_init_36 : decode mb_X0_init 36 = .ok (.aload_n 0, 1) := by decide +kernel
theorem dd_X0_init_37 : decode mb_X0_init 37 = .ok (.bipush 12, 2) := by decide +kernel
theorem dd_X0_init_39 : decode mb_X0_init 39 = .ok (.newarray .int, 2) := by decide +kernel
theorem dd_X0_init_41 : decode mb_X0_init 41 = .ok (.putfield 24, 3) := by decide +kernel
theorem dd_X0_init_44 : decode mb_X0_init 44 = .ok (.aload_n 0, 1) := by decide +kernel
theorem dd_X0_init_45 : decode mb_X0_init 45 = .ok (.iconst 0, 1) := by decide +kernel
theorem dd_X0_init_46 : decode mb_X0_init 46 = .ok (.putfield 27, 3) := by decide +kernel
theorem dd_X0_init_49 : decode mb_X0_init 49 = .ok (.return_, 1) := by decide +kernel
theorem dd_X10_init_0 : decode mb_X10_init 0 = .ok (.aload_n 0, 1) := by decide +kernel
theorem dd_X10_init_1 : decode mb_X10_init 1 = .ok (.invokespecial 3, 3) := by decide +kernel
theorem dd_X10_init_4 : decode mb_X10_init 4 = .ok (.aload_n 0, 1) := by decide +kernel
theorem dd_X10_init_5 : decode mb_X10_init 5 = .ok (.bipush 30, 2) := by decide +kernel
theorem dd_X10_init_7 : decode mb_X10_init 7 = .ok (.newarray .int, 2) := by decide +kernel
theorem dd_X10_init_9 : decode mb_X10_init 9 = .ok (.putfield 9, 3) := by decide +kernel
theorem dd_X10_init_12 : decode mb_X10_init 12 = .ok (.aload_n 0, 1) := by decide +kernel
theorem dd_X10_init_13 : decode mb_X10_init 13 = .ok (.bipush 30, 2) := by decide +kernel
theorem dd_X10_init_15 : decode mb_X10_init 15 = .ok (.newarray .int, 2) := by decide +kernel
theorem dd_X10_init_17 : decode mb_X10_init 17 = .ok (.putfield 15, 3) := by decide +kernel
theorem dd_X10_init_20 : decode mb_X10_init 20 = .ok (.aload_n 0, 1) := by decide +kernel
theorem dd_X10_init_21 : decode mb_X10_init 21 = .ok (.bipush 30, 2) := by decide +kernel
theorem dd_X10_init_23 : decode mb_X10_init 23 = .ok (.newarray .int, 2) := by decide +kernel
theorem dd_X10_init_25 : decode mb_X10_init 25 = .ok (.putfield 18, 3) := by decide +kernel
theorem dd_X10_init_28 : decode mb_X10_init 28 = .ok (.aload_n 0, 1) := by decide +kernel
theorem dd_X10_init_29 : decode mb_X10_init 29 = .ok (.bipush 30, 2) := by decide +kernel
theorem dd_X10_init_31 : decode mb_X10_init 31 = .ok (.newarray .int, 2) := by decide +kernel
theorem dd_X10_init_33 : decode mb_X10_init 33 = .ok (.putfield 21, 3) := by decide +kernel
theorem dd_X10_init_36 : decode mb_X10_init 36 = .ok (.aload_n 0, 1) := by decide +kernel
theorem dd_X10_init_37 : decode mb_X10_init 37 = .ok (.bipush 30, 2) := by decide +kernel
theorem dd_X10_init_39 : decode mb_X10_init 39 = .ok (.newarray .int, 2) := by decide +kernel
theorem dd_X10_init_41 : decode mb_X10_init 41 = .ok (.putfield 24, 3) := by decide +kernel
theorem dd_X10_init_44 : decode mb_X10_init 44 = .ok (.aload_n 0, 1) := by decide +kernel
theorem dd_X10_init_45 : decode mb_X10_init 45 = .ok (.bipush 30, 2) := by decide +kernel
theorem dd_X10_init_47 : decode mb_X10_init 47 = .ok (.newarray .int, 2) := by decide +kernel
theorem dd_X10_init_49 : decode mb_X10_init 49 = .ok (.putfield 27, 3) := by decide +kernel
theorem dd_X10_init_52 : decode mb_X10_init 52 = .ok (.aload_n 0, 1) := by decide +kernel
theorem dd_X10_init_53 : decode mb_X10_init 53 = .ok (.iconst 0, 1) := by decide +kernel
theorem dd_X10_init_54 : decode mb_X10_init 54 = .ok (.putfield 30, 3) := by decide +kernel
theorem dd_X10_init_57 : decode mb_X10_init 57 = .ok (.aload_n 0, 1) := by decide +kernel
theorem dd_X10_init_58 : decode mb_X10_init 58 = .ok (.bipush 30, 2) := by decide +kernel
theorem dd_X10_init_60 : decode mb_X10_init 60 = .ok (.newarray .int, 2) := by decide +kernel
theorem dd_X10_init_62 : decode mb_X10_init 62 = .ok (.putfield 34, 3) := by decide +kernel
theorem dd_X10_init_65 : decode mb_X10_init 65 = .ok (.return_, 1) := by decide +kernel
theorem dd_X11_init_0 : decode mb_X11_init 0 = .ok (.aload_n 0, 1) := by decide +kernel
theorem dd_X11_init_1 : decode mb_X11_init 1 = .ok (.invokespecial 1, 3) := by decide +kernel
theorem dd_X11_init_4 : decode mb_X11_init 4 = .ok (.aload_n 0, 1) := by decide +kernel
theorem dd_X11_init_5 : decode mb_X11_init 5 = .ok (.bipush 8, 2) := by decide +kernel
theorem dd_X11_init_7 : decode mb_X11_init 7 = .ok (.anewarray 9, 3) := by decide +kernel
theorem dd_X11_init_10 : decode mb_X11_init 10 = .ok (.putfield 11, 3) := by decide +kernel
theorem dd_X11_init_13 : decode mb_X11_init 13 = .ok (.aload_n 0, 1) := by decide +kernel
theorem dd_X11_init_14 : decode mb_X11_init 14 = .ok (.iconst 5, 1) := by decide +kernel
theorem dd_X11_init_15 : decode mb_X11_init 15 = .ok (.newarray .int, 2) := by decide +kernel
theorem dd_X11_init_17 : decode mb_X11_init 17 = .ok (.putfield 15, 3) := by decide +kernel
theorem dd_X11_init_20 : decode mb_X11_init 20 = .ok (.aload_n 0, 1) := by decide +kernel
theorem dd_X11_init_21 : decode mb_X11_init 21 = .ok (.new 19, 3) := by decide +kernel
theorem dd_X11_init_24 : decode mb_X11_init 24 = .ok (.dup, 1) := by decide +kernel
theorem dd_X11_init_25 : decode mb_X11_init 25 = .ok (.invokespecial 21, 3) := by decide +kernel
theorem dd_X11_init_28 : decode mb_X11_init 28 = .ok (.putfield 22, 3) := by decide +kernel
theorem dd_X11_init_31 : decode mb_X11_init 31 = .ok (.aload_n 0, 1) := by decide +kernel
theorem dd_X11_init_32 : decode mb_X11_init 32 = .ok (.new 26, 3) := by decide +kernel
theorem dd_X11_init_35 : decode mb_X11_init 35 = .ok (.dup, 1) := by decide +kernel
theorem dd_X11_init_36 : decode mb_X11_init 36 = .ok (.invokespecial 28, 3) := by decide +kernel
theorem dd_X11_init_39 : decode mb_X11_init 39 = .ok (.putfield 29, 3) := by decide +kernel
theorem dd_X11_init_42 : decode mb_X11_init 42 = .ok (.aload_n 0, 1) := by decide +kernel
theorem dd_X11_init_43 : decode mb_X11_init 43 = .ok (.new 26, 3) := by decide +kernel
theorem dd_X11_init_46 : decode mb_X11_init 46 = .ok (.dup, 1) := by decide +kernel
theorem dd_X11_init_47 : decode mb_X11_init 47 = .ok (.invokespecial 28, 3) := by decide +kernel
theorem dd_X11_init_50 : decode mb_X11_init 50 = .ok (.putfield 33, 3) := by decide +kernel
theorem dd_X11_init_53 : decode mb_X11_init 53 = .ok (.aload_n 0, 1) := by decide +kernel
theorem dd_X11_init_54 : decode mb_X11_init 54 = .ok (.new 36, 3) := by decide +kernel
theorem dd_X11_init_57 : decode mb_X11_init 57 = .ok (.dup, 1) := by decide +kernel
theorem dd_X11_init_58 : decode mb_X11_init 58 = .ok (.invokespecial 38, 3) := by decide +kernel
theorem dd_X11_init_61 : decode mb_X11_init 61 = .ok (.putfield 39, 3) := by decide +kernel
theorem dd_X11_init_64 : decode mb_X11_init 64 = .ok (.aload_n 0, 1) := by decide +kernel
theorem dd_X11_init_65 : decode mb_X11_init 65 = .ok (.new 43, 3) := by decide +kernel
theorem dd_X11_init_68 : decode mb_X11_init 68 = .ok (.dup, 1) := by decide +kernel
theorem dd_X11_init_69 : decode mb_X11_init 69 = .ok (.invokespecial 45, 3) := by decide +kernel
theorem dd_X11_init_72 : decode mb_X11_init 72 = .ok (.putfield 46, 3) := by decide +kernel
theorem dd_X11_init_75 : decode mb_X11_init 75 = .ok (.aload_n 0, 1) := by decide +kernel
theorem dd_X11_init_76 : decode mb_X11_init 76 = .ok (.iconst 0, 1) := by decide +kernel
theorem dd_X11_init_77 : decode mb_X11_init 77 = .ok (.putfield 50, 3) := by decide +kernel
theorem dd_X11_init_80 : decode mb_X11_init 80 = .ok (.iconst 0, 1) := by decide +kernel
theorem dd_X11_init_81 : decode mb_X11_init 81 = .ok (.istore_n 1, 1) := by decide +kernel
theorem dd_X11_init_82 : decode mb_X11_init 82 = .ok (.iload_n 1, 1) := by decide +kernel
theorem dd_X11_init_83 : decode mb_X11_init 83 = .ok (.bipush 8, 2) := by decide +kernel
theorem dd_X11_init_85 : decode mb_X11_init 85 = .ok (.if_icmp .ge 22, 3) := by decide +kernel
theorem dd_X11_init_88 : decode mb_X11_init 88 = .ok (.aload_n 0, 1) := by decide +kernel
theorem dd_X11_init_89 : decode mb_X11_init 89 = .ok (.getfield 11, 3) := by decide +kernel
theorem dd_X11_init_92 : decode mb_X11_init 92 = .ok (.iload_n 1, 1) := by decide +kernel
theorem dd_X11_init_93 : decode mb_X11_init 93 = .ok (.new 9, 3) := by decide +kernel
theorem dd_X11_init_96 : decode mb_X11_init 96 = .ok (.dup, 1) := by decide +kernel
theorem dd_X11_init_97 : decode mb_X11_init 97 = .ok (.invokespecial 54, 3) := by decide +kernel
theorem dd_X11_init_100 : decode mb_X11_init 100 = .ok (.aastore, 1) := by decide +kernel
theorem dd_X11_init_101 : decode mb_X11_init 101 = .ok (.iinc 1 1, 3) := by decide +kernel
theorem dd_X11_init_104 : decode mb_X11_init 104 = .ok (.goto (-22), 3) := by decide +kernel
theorem dd_X11_init_107 : decode mb_X11_init 107 = .ok (.return_, 1) := by decide +kernel
theorem dd_X12_init_0 : decode mb_X12_init 0 = .ok (.aload_n 0, 1) := by decide +kernel
theorem dd_X12_init_1 : decode mb_X12_init 1 = .ok (.invokespecial 1, 3) := by decide +kernel
theorem dd_X12_init_4 : decode mb_X12_init 4 = .ok (.aload_n 0, 1) := by decide +kernel
theorem dd_X12_init_5 : decode mb_X12_init 5 = .ok (.bipush 8, 2) := by decide +kernel
theorem dd_X12_init_7 : decode mb_X12_init 7 = .ok (.newarray .int, 2) := by decide +kernel
theorem dd_X12_init_9 : decode mb_X12_init 9 = .ok (.putfield 7, 3) := by decide +kernel
theorem dd_X12_init_12 : decode mb_X12_init 12 = .ok (.aload_n 0, 1) := by decide +kernel
theorem dd_X12_init_13 : decode mb_X12_init 13 = .ok (.bipush 8, 2) := by decide +kernel
theorem dd_X12_init_15 : decode mb_X12_init 15 = .ok (.newarray .int, 2) := by decide +kernel
theorem dd_X12_init_17 : decode mb_X12_init 17 = .ok (.putfield 13, 3) := by decide +kernel
theorem dd_X12_init_20 : decode mb_X12_init 20 = .ok (.aload_n 0, 1) := by decide +kernel
theorem dd_X12_init_21 : decode mb_X12_init 21 = .ok (.sipush 320, 3) := by decide +kernel
theorem dd_X12_init_24 : decode mb_X12_init 24 = .ok (.newarray .long, 2) := by decide +kernel
theorem dd_X12_init_26 : decode mb_X12_init 26 = .ok (.putfield 16, 3) := by decide +kernel
theorem dd_X12_init_29 : decode mb_X12_init 29 = .ok (.aload_n 0, 1) := by decide +kernel
theorem dd_X12_init_30 : decode mb_X12_init 30 = .ok (.bipush 30, 2) := by decide +kernel
theorem dd_X12_init_32 : decode mb_X12_init 32 = .ok (.newarray .int, 2) := by decide +kernel
theorem dd_X12_init_34 : decode mb_X12_init 34 = .ok (.putfield 20, 3) := by decide +kernel
theorem dd_X12_init_37 : decode mb_X12_init 37 = .ok (.aload_n 0, 1) := by decide +kernel
theorem dd_X12_init_38 : decode mb_X12_init 38 = .ok (.bipush 30, 2) := by decide +kernel
theorem dd_X12_init_40 : decode mb_X12_init 40 = .ok (.newarray .int, 2) := by decide +kernel
theorem dd_X12_init_42 : decode mb_X12_init 42 = .ok (.putfield 23, 3) := by decide +kernel
theorem dd_X12_init_45 : decode mb_X12_init 45 = .ok (.aload_n 0, 1) := by decide +kernel
theorem dd_X12_init_46 : decode mb_X12_init 46 = .ok (.bipush 30, 2) := by decide +kernel
theorem dd_X12_init_48 : decode mb_X12_init 48 = .ok (.newarray .int, 2) := by decide +kernel
theorem dd_X12_init_50 : decode mb_X12_init 50 = .ok (.putfield 26, 3) := by decide +kernel
theorem dd_X12_init_53 : decode mb_X12_init 53 = .ok (.aload_n 0, 1) := by decide +kernel
theorem dd_X12_init_54 : decode mb_X12_init 54 = .ok (.bipush 30, 2) := by decide +kernel
theorem dd_X12_init_56 : decode mb_X12_init 56 = .ok (.newarray .int, 2) := by decide +kernel
theorem dd_X12_init_58 : decode mb_X12_init 58 = .ok (.putfield 29, 3) := by decide +kernel
theorem dd_X12_init_61 : decode mb_X12_init 61 = .ok (.aload_n 0, 1) := by decide +kernel
theorem dd_X12_init_62 : decode mb_X12_init 62 = .ok (.bipush 30, 2) := by decide +kernel
theorem dd_X12_init_64 : decode mb_X12_init 64 = .ok (.newarray .int, 2) := by decide +kernel
theorem dd_X12_init_66 : decode mb_X12_init 66 = .ok (.putfield 32, 3) := by decide +kernel
theorem dd_X12_init_69 : decode mb_X12_init 69 = .ok (.aload_n 0, 1) := by decide +kernel
theorem dd_X12_init_70 : decode mb_X12_init 70 = .ok (.bipush 30, 2) := by decide +kernel
theorem dd_X12_init_72 : decode mb_X12_init 72 = .ok (.newarray .int, 2) := by decide +kernel
theorem dd_X12_init_74 : decode mb_X12_init 74 = .ok (.putfield 35, 3) := by decide +kernel
theorem dd_X12_init_77 : decode mb_X12_init 77 = .ok (.aload_n 0, 1) := by decide +kernel
theorem dd_X12_init_78 : decode mb_X12_init 78 = .ok (.iconst 5, 1) := by decide +kernel
theorem dd_X12_init_79 : decode mb_X12_init 79 = .ok (.newarray .int, 2) := by decide +kernel
theorem dd_X12_init_81 : decode mb_X12_init 81 = .ok (.putfield 38, 3) := by decide +kernel
theorem dd_X12_init_84 : decode mb_X12_init 84 = .ok (.aload_n 0, 1) := by decide +kernel
theorem dd_X12_init_85 : decode mb_X12_init 85 = .ok (.iconst 5, 1) := by decide +kernel
theorem dd_X12_init_86 : decode mb_X12_init 86 = .ok (.newarray .int, 2) := by decide +kernel
theorem dd_X12_init_88 : decode mb_X12_init 88 = .ok (.putfield 41, 3) := by decide +kernel
theorem dd_X12_init_91 : decode mb_X12_init 91 = .ok (.aload_n 0, 1) := by decide +kernel
theorem dd_X12_init_92 : decode mb_X12_init 92 = .ok (.iconst 5, 1) := by decide +kernel
theorem dd_X12_init_93 : decode mb_X12_init 93 = .ok (.newarray .int, 2) := by decide +kernel
theorem dd_X12_init_95 : decode mb_X12_init 95 = .ok (.putfield 44, 3) := by decide +kernel
theorem dd_X12_init_98 : decode mb_X12_init 98 = .ok (.aload_n 0, 1) := by decide +kernel
theorem dd_X12_init_99 : decode mb_X12_init 99 = .ok (.bipush 30, 2) := by decide +kernel
theorem dd_X12_init_101 : decode mb_X12_init 101 = .ok (.newarray .int, 2) := by decide +kernel
theorem dd_X12_init_103 : decode mb_X12_init 103 = .ok (.putfield 47, 3) := by decide +kernel
theorem dd_X12_init_106 : decode mb_X12_init 106 = .ok (.aload_n 0, 1) := by decide +kernel
theorem dd_X12_init_107 : decode mb_X12_init 107 = .ok (.bipush 120, 2) := by decide +kernel
theorem dd_X12_init_109 : decode mb_X12_init 109 = .ok (.newarray .int, 2) := by decide +kernel
theorem dd_X12_init_111 : decode mb_X12_init 111 = .ok (.putfield 50, 3) := by decide +kernel
theorem dd_X12_init_114 : decode mb_X12_init 114 = .ok (.aload_n 0, 1) := by decide +kernel
theorem dd_X12_init_115 : decode mb_X12_init 115 = .ok (.bipush 12, 2) := by decide +kernel
theorem dd_X12_init_117 : decode mb_X12_init 117 = .ok (.newarray .int, 2) := by decide +kernel
theorem dd_X12_init_119 : decode mb_X12_init 119 = .ok (.putfield 53, 3) := by decide +kernel
theorem dd_X12_init_122 : decode mb_X12_init 122 = .ok (.aload_n 0, 1) := by decide +kernel
theorem dd_X12_init_123 : decode mb_X12_init 123 = .ok (.bipush 12, 2) := by decide +kernel
theorem dd_X12_init_125 : decode mb_X12_init 125 = .ok (.newarray .int, 2) := by decide +kernel
theorem dd_X12_init_127 : decode mb_X12_init 127 = .ok (.putfield 56, 3) := by decide +kernel
theorem dd_X12_init_130 : decode mb_X12_init 130 = .ok (.aload_n 0, 1) := by decide +kernel
theorem dd_X12_init_131 : decode mb_X12_init 131 = .ok (.bipush 12, 2) := by decide +kernel
theorem dd_X12_init_133 : decode mb_X12_init 133 = .ok (.newarray .int, 2) := by decide +kernel
theorem dd_X12_init_135 : decode mb_X12_init 135 = .ok (.putfield 59, 3) := by decide +kernel
theorem dd_X12_init_138 : decode mb_X12_init 138 = .ok (.aload_n 0, 1) := by decide +kernel
theorem dd_X12_init_139 : decode mb_X12_init 139 = .ok (.bipush 12, 2) := by decide +kernel
theorem dd_X12_init_141 : decode mb_X12_init 141 = .ok (.newarray .int, 2) := by decide +kernel
theorem dd_X12_init_143 : decode mb_X12_init 143 = .ok (.putfield 62, 3) := by decide +kernel
theorem dd_X12_init_146 : decode mb_X12_init 146 = .ok (.aload_n 0, 1) := by decide +kernel
theorem dd_X12_init_147 : decode mb_X12_init 147 = .ok (.bipush 12, 2) := by decide +kernel
theorem dd_X12_init_149 : decode mb_X12_init 149 = .ok (.newarray .int, 2) := by decide +kernel
theorem dd_X12_init_151 : decode mb_X12_init 151 = .ok (.putfield 65, 3) := by decide +kernel
theorem dd_X12_init_154 : decode mb_X12_init 154 = .ok (.aload_n 0, 1) := by decide +kernel
theorem dd_X12_init_155 : decode mb_X12_init 155 = .ok (.iconst 5, 1) := by decide +kernel
theorem dd_X12_init_156 : decode mb_X12_init 156 = .ok (.newarray .int, 2) := by decide +kernel
theorem dd_X12_init_158 : decode mb_X12_init 158 = .ok (.putfield 68, 3) := by decide +kernel
theorem dd_X12_init_161 : decode mb_X12_init 161 = .ok (.aload_n 0, 1) := by decide +kernel
theorem dd_X12_init_162 : decode mb_X12_init 162 = .ok (.bipush 20, 2) := by decide +kernel
theorem dd_X12_init_164 : decode mb_X12_init 164 = .ok (.newarray .int, 2) := by decide +kernel
theorem dd_X12_init_166 : decode mb_X12_init 166 = .ok (.putfield 71, 3) := by decide +kernel
theorem dd_X12_init_169 : decode mb_X12_init 169 = .ok (.aload_n 0, 1) := by decide +kernel
theorem dd_X12_init_170 : decode mb_X12_init 170 = .ok (.bipush 20, 2) := by decide +kernel
theorem dd_X12_init_172 : decode mb_X12_init 172 = .ok (.newarray .int, 2) := by decide +kernel
theorem dd_X12_init_174 : decode mb_X12_init 174 = .ok (.putfield 74, 3) := by decide +kernel
theorem dd_X12_init_177 : decode mb_X12_init 177 = .ok (.aload_n 0, 1) := by decide +kernel
theorem dd_X12_init_178 : decode mb_X12_init 178 = .ok (.bipush 20, 2) := by decide +kernel
theorem dd_X12_init_180 : decode mb_X12_init 180 = .ok (.newarray .int, 2) := by decide +kernel
theorem dd_X12_init_182 : decode mb_X12_init 182 = .ok (.putfield 77, 3) := by decide +kernel
theorem dd_X12_init_185 : decode mb_X12_init 185 = .ok (.aload_n 0, 1) := by decide +kernel
theorem dd_X12_init_186 : decode mb_X12_init 186 = .ok (.bipush 20, 2) := by decide +kernel
theorem dd_X12_init_188 : decode mb_X12_init 188 = .ok (.newarray .int, 2) := by decide +kernel
theorem dd_X12_init_190 : decode mb_X12_init 190 = .ok (.putfield 80, 3) := by decide +kernel
theorem dd_X12_init_193 : decode mb_X12_init 193 = .ok (.aload_n 0, 1) := by decide +kernel
theorem dd_X12_init_194 : decode mb_X12_init 194 = .ok (.bipush 10, 2) := by decide +kernel
theorem dd_X12_init_196 : decode mb_X12_init 196 = .ok (.newarray .int, 2) := by decide +kernel
theorem dd_X12_init_198 : decode mb_X12_init 198 = .ok (.putfield 83, 3) := by decide +kernel
theorem dd_X12_init_201 : decode mb_X12_init 201 = .ok (.aload_n 0, 1) := by decide +kernel
theorem dd_X12_init_202 : decode mb_X12_init 202 = .ok (.bipush 10, 2) := by decide +kernel
theorem dd_X12_init_204 : decode mb_X12_init 204 = .ok (.newarray .int, 2) := by decide +kernel
theorem dd_X12_init_206 : decode mb_X12_init 206 = .ok (.putfield 86, 3) := by decide +kernel
theorem dd_X12_init_209 : decode mb_X12_init 209 = .ok (.aload_n 0, 1) := by decide +kernel
theorem dd_X12_init_210 : decode mb_X12_init 210 = .ok (.bipush 16, 2) := by decide +kernel
theorem dd_X12_init_212 : decode mb_X12_init 212 = .ok (.newarray .int, 2) := by decide +kernel
theorem dd_X12_init_214 : decode mb_X12_init 214 = .ok (.putfield 89, 3) := by decide +kernel
theorem dd_X12_init_217 : decode mb_X12_init 217 = .ok (.aload_n 0, 1) := by decide +kernel
theorem dd_X12_init_218 : decode mb_X12_init 218 = .ok (.iconst 4, 1) := by decide +kernel
theorem dd_X12_init_219 : decode mb_X12_init 219 = .ok (.newarray .int, 2) := by decide +kernel
theorem dd_X12_init_221 : decode mb_X12_init 221 = .ok (.putfield 92, 3) := by decide +kernel
theorem dd_X12_init_224 : decode mb_X12_init 224 = .ok (.aload_n 0, 1) := by decide +kernel
theorem dd_X12_init_225 : decode mb_X12_init 225 = .ok (.bipush 7, 2) := by decide +kernel
theorem dd_X12_init_227 : decode mb_X12_init 227 = .ok (.newarray .int, 2) := by decide +kernel
theorem dd_X12_init_229 : decode mb_X12_init 229 = .ok (.putfield 95, 3) := by decide +kernel
theorem dd_X12_init_232 : decode mb_X12_init 232 = .ok (.aload_n 0, 1) := by decide +kernel
theorem dd_X12_init_233 : decode mb_X12_init 233 = .ok (.sipush 460, 3) := by decide +kernel
theorem dd_X12_init_236 : decode mb_X12_init 236 = .ok (.newarray .int, 2) := by decide +kernel
theorem dd_X12_init_238 : decode mb_X12_init 238 = .ok (.putfield 98, 3) := by decide +kernel
theorem dd_X12_init_241 : decode mb_X12_init 241 = .ok (.aload_n 0, 1) := by decide +kernel
theorem dd_X12_init_242 : decode mb_X12_init 242 = .ok (.bipush 7, 2) := by decide +kernel
theorem dd_X12_init_244 : decode mb_X12_init 244 = .ok (.newarray .int, 2) := by decide +kernel
theorem dd_X12_init_246 : decode mb_X12_init 246 = .ok (.putfield 101, 3) := by decide +kernel
theorem dd_X12_init_249 : decode mb_X12_init 249 = .ok (.aload_n 0, 1) := by decide +kernel
theorem dd_X12_init_250 : decode mb_X12_init 250 = .ok (.bipush 30, 2) := by decide +kernel
theorem dd_X12_init_252 : decode mb_X12_init 252 = .ok (.newarray .boolean, 2) := by decide +kernel
theorem dd_X12_init_254 : decode mb_X12_init 254 = .ok (.putfield 104, 3) := by decide +kernel
theorem dd_X12_init_257 : decode mb_X12_init 257 = .ok (.aload_n 0, 1) := by decide +kernel
theorem dd_X12_init_258 : decode mb_X12_init 258 = .ok (.bipush 12, 2) := by decide +kernel
theorem dd_X12_init_260 : decode mb_X12_init 260 = .ok (.newarray .int, 2) := by decide +kernel
theorem dd_X12_init_262 : decode mb_X12_init 262 = .ok (.putfield 108, 3) := by decide +kernel
theorem dd_X12_init_265 : decode mb_X12_init 265 = .ok (.aload_n 0, 1) := by decide +kernel
theorem dd_X12_init_266 : decode mb_X12_init 266 = .ok (.sipush 6231, 3) := by decide +kernel
theorem dd_X12_init_269 : decode mb_X12_init 269 = .ok (.newarray .int, 2) := by decide +kernel
theorem dd_X12_init_271 : decode mb_X12_init 271 = .ok (.putfield 111, 3) := by decide +kernel
theorem dd_X12_init_274 : decode mb_X12_init 274 = .ok (.aload_n 0, 1) := by decide +kernel
theorem dd_X12_init_275 : decode mb_X12_init 275 = .ok (.bipush 20, 2) := by decide +kernel
theorem dd_X12_init_277 : decode mb_X12_init 277 = .ok (.newarray .int, 2) := by decide +kernel
theorem dd_X12_init_279 : decode mb_X12_init 279 = .ok (.putfield 114, 3) := by decide +kernel
theorem dd_X12_init_282 : decode mb_X12_init 282 = .ok (.aload_n 0, 1) := by decide +kernel
theorem dd_X12_init_283 : decode mb_X12_init 283 = .ok (.bipush 20, 2) := by decide +kernel
theorem dd_X12_init_285 : decode mb_X12_init 285 = .ok (.newarray .int, 2) := by decide +kernel
theorem dd_X12_init_287 : decode mb_X12_init 287 = .ok (.putfield 117, 3) := by decide +kernel
theorem dd_X12_init_290 : decode mb_X12_init 290 = .ok (.aload_n 0, 1) := by decide +kernel
theorem dd_X12_init_291 : decode mb_X12_init 291 = .ok (.bipush 20, 2) := by decide +kernel
theorem dd_X12_init_293 : decode mb_X12_init 293 = .ok (.newarray .int, 2) := by decide +kernel
theorem dd_X12_init_295 : decode mb_X12_init 295 = .ok (.putfield 120, 3) := by decide +kernel
theorem dd_X12_init_298 : decode mb_X12_init 298 = .ok (.aload_n 0, 1) := by decide +kernel
theorem dd_X12_init_299 : decode mb_X12_init 299 = .ok (.bipush 20, 2) := by decide +kernel
theorem dd_X12_init_301 : decode mb_X12_init 301 = .ok (.newarray .int, 2) := by decide +kernel
theorem dd_X12_init_303 : decode mb_X12_init 303 = .ok (.putfield 123, 3) := by decide +kernel
theorem dd_X12_init_306 : decode mb_X12_init 306 = .ok (.aload_n 0, 1) := by decide +kernel
theorem dd_X12_init_307 : decode mb_X12_init 307 = .ok (.bipush 30, 2) := by decide +kernel
theorem dd_X12_init_309 : decode mb_X12_init 309 = .ok (.newarray .int, 2) := by decide +kernel
theorem dd_X12_init_311 : decode mb_X12_init 311 = .ok (.putfield 126, 3) := by decide +kernel
theorem dd_X12_init_314 : decode mb_X12_init 314 = .ok (.aload_n 0, 1) := by decide +kernel
theorem dd_X12_init_315 : decode mb_X12_init 315 = .ok (.iconst 5, 1) := by decide +kernel
theorem dd_X12_init_316 : decode mb_X12_init 316 = .ok (.newarray .int, 2) := by decide +kernel
theorem dd_X12_init_318 : decode mb_X12_init 318 = .ok (.putfield 129, 3) := by decide +kernel
theorem dd_X12_init_321 : decode mb_X12_init 321 = .ok (.aload_n 0, 1) := by decide +kernel
theorem dd_X12_init_322 : decode mb_X12_init 322 = .ok (.bipush 25, 2) := by decide +kernel
theorem dd_X12_init_324 : decode mb_X12_init 324 = .ok (.newarray .int, 2) := by decide +kernel
theorem dd_X12_init_326 : decode mb_X12_init 326 = .ok (.putfield 132, 3) := by decide +kernel
theorem dd_X12_init_329 : decode mb_X12_init 329 = .ok (.iconst 0, 1) := by decide +kernel
theorem dd_X12_init_330 : decode mb_X12_init 330 = .ok (.istore_n 1, 1) := by decide +kernel
theorem dd_X12_init_331 : decode mb_X12_init 331 = .ok (.iload_n 1, 1) := by decide +kernel
theorem dd_X12_init_332 : decode mb_X12_init 332 = .ok (.bipush 8, 2) := by decide +kernel
theorem dd_X12_init_334 : decode mb_X12_init 334 = .ok (.if_icmp .ge 16, 3) := by decide +kernel
theorem dd_X12_init_337 : decode mb_X12_init 337 = .ok (.aload_n 0, 1) := by decide +kernel
theorem dd_X12_init_338 : decode mb_X12_init 338 = .ok (.getfield 7, 3) := by decide +kernel
theorem dd_X12_init_341 : decode mb_X12_init 341 = .ok (.iload_n 1, 1) := by decide +kernel
theorem dd_X12_init_342 : decode mb_X12_init 342 = .ok (.iconst (-1), 1) := by decide +kernel
theorem dd_X12_init_343 : decode mb_X12_init 343 = .ok (.iastore, 1) := by decide +kernel
theorem dd_X12_init_344 : decode mb_X12_init 344 = .ok (.iinc 1 1, 3) := by decide +kernel
theorem dd_X12_init_347 : decode mb_X12_init 347 = .ok (.goto (-16), 3) := by decide +kernel
theorem dd_X12_init_350 : decode mb_X12_init 350 = .ok (.aload_n 0, 1) := by decide +kernel
theorem dd_X12_init_351 : decode mb_X12_init 351 = .ok (.getfield 92, 3) := by decide +kernel
theorem dd_X12_init_354 : decode mb_X12_init 354 = .ok (.iconst 0, 1) := by decide +kernel
theorem dd_X12_init_355 : decode mb_X12_init 355 = .ok (.bipush 12, 2) := by decide +kernel
theorem dd_X12_init_357 : decode mb_X12_init 357 = .ok (.iastore, 1) := by decide +kernel
theorem dd_X12_init_358 : decode mb_X12_init 358 = .ok (.aload_n 0, 1) := by decide +kernel
theorem dd_X12_init_359 : decode mb_X12_init 359 = .ok (.getfield 92, 3) := by decide +kernel
theorem dd_X12_init_362 : decode mb_X12_init 362 = .ok (.iconst 1, 1) := by decide +kernel
theorem dd_X12_init_363 : decode mb_X12_init 363 = .ok (.bipush 12, 2) := by decide +kernel
theorem dd_X12_init_365 : decode mb_X12_init 365 = .ok (.iastore, 1) := by decide +kernel
theorem dd_X12_init_366 : decode mb_X12_init 366 = .ok (.return_, 1) := by decide +kernel
theorem dd_X1_init_0 : decode mb_X1_init 0 = .ok (.aload_n 0, 1) := by decide +kernel
theorem dd_X1_init_1 : decode mb_X1_init 1 = .ok (.invokespecial 3, 3) := by decide +kernel
theorem dd_X1_init_4 : decode mb_X1_init 4 = .ok (.aload_n 0, 1) := by decide +kernel
theorem dd_X1_init_5 : decode mb_X1_init 5 = .ok (.new 9, 3) := by decide +kernel
theorem dd_X1_init_8 : decode mb_X1_init 8 = .ok (.dup, 1) := by decide +kernel
theorem dd_X1_init_9 : decode mb_X1_init 9 = .ok (.invokespecial 11, 3) := by decide +kernel
theorem dd_X1_init_12 : decode mb_X1_init 12 = .ok (.putfield 12, 3) := by decide +kernel
theorem dd_X1_init_15 : decode mb_X1_init 15 = .ok (.aload_n 0, 1) := by decide +kernel
theorem dd_X1_init_16 : decode mb_X1_init 16 = .ok (.new 18, 3) := by decide +kernel
theorem dd_X1_init_19 : decode mb_X1_init 19 = .ok (.dup, 1) := by decide +kernel
theorem dd_X1_init_20 : decode mb_X1_init 20 = .ok (.invokespecial 20, 3) := by decide +kernel
theorem dd_X1_init_23 : decode mb_X1_init 23 = .ok (.putfield 21, 3) := by decide +kernel
theorem dd_X1_init_26 : decode mb_X1_init 26 = .ok (.aload_n 0, 1) := by decide +kernel
theorem dd_X1_init_27 : decode mb_X1_init 27 = .ok (.new 25, 3) := by decide +kernel
theorem dd_X1_init_30 : decode mb_X1_init 30 = .ok (.dup, 1) := by decide +kernel
theorem dd_X1_init_31 : decode mb_X1_init 31 = .ok (.invokespecial 27, 3) := by decide +kernel
theorem dd_X1_init_34 : decode mb_X1_init 34 = .ok (.putfield 28, 3) := by decide +kernel
theorem dd_X1_init_37 : decode mb_X1_init 37 = .ok (.aload_n 0, 1) := by decide +kernel
theorem dd_X1_init_38 : decode mb_X1_init 38 = .ok (.new 32, 3) := by decide +kernel
theorem dd_X1_init_41 : decode mb_X1_init 41 = .ok (.dup, 1) := by decide +kernel
theorem dd_X1_init_42 : decode mb_X1_init 42 = .ok (.invokespecial 34, 3) := by decide +kernel
theorem dd_X1_init_45 : decode mb_X1_init 45 = .ok (.putfield 35, 3) := by decide +kernel
theorem dd_X1_init_48 : decode mb_X1_init 48 = .ok (.aload_n 0, 1) := by decide +kernel
theorem dd_X1_init_49 : decode mb_X1_init 49 = .ok (.new 39, 3) := by decide +kernel
theorem dd_X1_init_52 : decode mb_X1_init 52 = .ok (.dup, 1) := by decide +kernel
theorem dd_X1_init_53 : decode mb_X1_init 53 = .ok (.invokespecial 41, 3) := by decide +kernel
theorem dd_X1_init_56 : decode mb_X1_init 56 = .ok (.putfield 42, 3) := by decide +kernel
theorem dd_X1_init_59 : decode mb_X1_init 59 = .ok (.aload_n 0, 1) := by decide +kernel
theorem dd_X1_init_60 : decode mb_X1_init 60 = .ok (.new 46, 3) := by decide +kernel
theorem dd_X1_init_63 : decode mb_X1_init 63 = .ok (.dup, 1) := by decide +kernel
theorem dd_X1_init_64 : decode mb_X1_init 64 = .ok (.invokespecial 48, 3) := by decide +kernel
theorem dd_X1_init_67 : decode mb_X1_init 67 = .ok (.putfield 49, 3) := by decide +kernel
theorem dd_X1_init_70 : decode mb_X1_init 70 = .ok (.aload_n 0, 1) := by decide +kernel
theorem dd_X1_init_71 : decode mb_X1_init 71 = .ok (.iconst 5, 1) := by decide +kernel
theorem dd_X1_init_72 : decode mb_X1_init 72 = .ok (.newarray .int, 2) := by decide +kernel
theorem dd_X1_init_74 : decode mb_X1_init 74 = .ok (.putfield 53, 3) := by decide +kernel
theorem dd_X1_init_77 : decode mb_X1_init 77 = .ok (.aload_n 0, 1) := by decide +kernel
theorem dd_X1_init_78 : decode mb_X1_init 78 = .ok (.iconst 0, 1) := by decide +kernel
theorem dd_X1_init_79 : decode mb_X1_init 79 = .ok (.putfield 57, 3) := by decide +kernel
theorem dd_X1_init_82 : decode mb_X1_init 82 = .ok (.aload_n 0, 1) := by decide +kernel
theorem dd_X1_init_83 : decode mb_X1_init 83 = .ok (.bipush 12, 2) := by decide +kernel
theorem dd_X1_init_85 : decode mb_X1_init 85 = .ok (.putfield 61, 3) := by decide +kernel
theorem dd_X1_init_88 : decode mb_X1_init 88 = .ok (.aload_n 0, 1) := by decide +kernel
theorem dd_X1_init_89 : decode mb_X1_init 89 = .ok (.bipush 12, 2) := by decide +kernel
theorem dd_X1_init_91 : decode mb_X1_init 91 = .ok (.putfield 64, 3) := by decide +kernel
theorem dd_X1_init_94 : decode mb_X1_init 94 = .ok (.aload_n 0, 1) := by decide +kernel
theorem dd_X1_init_95 : decode mb_X1_init 95 = .ok (.iconst 0, 1) := by decide +kernel
theorem dd_X1_init_96 : decode mb_X1_init 96 = .ok (.putfield 67, 3) := by decide +kernel
theorem dd_X1_init_99 : decode mb_X1_init 99 = .ok (.aload_n 0, 1) := by decide +kernel
theorem dd_X1_init_100 : decode mb_X1_init 100 = .ok (.iconst 0, 1) := by decide +kernel
theorem dd_X1_init_101 : decode mb_X1_init 101 = .ok (.putfield 70, 3) := by decide +kernel
theorem dd_X1_init_104 : decode mb_X1_init 104 = .ok (.aload_n 0, 1) := by decide +kernel
theorem dd_X1_init_105 : decode mb_X1_init 105 = .ok (.bipush 25, 2) := by decide +kernel
theorem dd_X1_init_107 : decode mb_X1_init 107 = .ok (.newarray .int, 2) := by decide +kernel
theorem dd_X1_init_109 : decode mb_X1_init 109 = .ok (.putfield 73, 3) := by decide +kernel
theorem dd_X1_init_112 : decode mb_X1_init 112 = .ok (.aload_n 0, 1) := by decide +kernel
theorem dd_X1_init_113 : decode mb_X1_init 113 = .ok (.bipush 32, 2) := by decide +kernel
theorem dd_X1_init_115 : decode mb_X1_init 115 = .ok (.newarray .int, 2) := by decide +kernel
theorem dd_X1_init_117 : decode mb_X1_init 117 = .ok (.putfield 76, 3) := by decide +kernel
theorem dd_X1_init_120 : decode mb_X1_init 120 = .ok (.return_, 1) := by decide +kernel
theorem dd_X2_init_0 : decode mb_X2_init 0 = .ok (.aload_n 0, 1) := by decide +kernel
theorem dd_X2_init_1 : decode mb_X2_init 1 = .ok (.invokespecial 3, 3) := by decide +kernel
theorem dd_X2_init_4 : decode mb_X2_init 4 = .ok (.aload_n 0, 1) := by decide +kernel
theorem dd_X2_init_5 : decode mb_X2_init 5 = .ok (.iconst 5, 1) := by decide +kernel
theorem dd_X2_init_6 : decode mb_X2_init 6 = .ok (.newarray .int, 2) := by decide +kernel
theorem dd_X2_init_8 : decode mb_X2_init 8 = .ok (.putfield 9, 3) := by decide +kernel
theorem dd_X2_init_11 : decode mb_X2_init 11 = .ok (.aload_n 0, 1) := by decide +kernel
theorem dd_X2_init_12 : decode mb_X2_init 12 = .ok (.iconst 5, 1) := by decide +kernel
theorem dd_X2_init_13 : decode mb_X2_init 13 = .ok (.newarray .int, 2) := by decide +kernel
theorem dd_X2_init_15 : decode mb_X2_init 15 = .ok (.putfield 15, 3) := by decide +kernel
theorem dd_X2_init_18 : decode mb_X2_init 18 = .ok (.aload_n 0, 1) := by decide +kernel
theorem dd_X2_init_19 : decode mb_X2_init 19 = .ok (.iconst 5, 1) := by decide +kernel
theorem dd_X2_init_20 : decode mb_X2_init 20 = .ok (.newarray .int, 2) := by decide +kernel
theorem dd_X2_init_22 : decode mb_X2_init 22 = .ok (.putfield 18, 3) := by decide +kernel
theorem dd_X2_init_25 : decode mb_X2_init 25 = .ok (.aload_n 0, 1) := by decide +kernel
theorem dd_X2_init_26 : decode mb_X2_init 26 = .ok (.iconst 0, 1) := by decide +kernel
theorem dd_X2_init_27 : decode mb_X2_init 27 = .ok (.putfield 21, 3) := by decide +kernel
theorem dd_X2_init_30 : decode mb_X2_init 30 = .ok (.return_, 1) := by decide +kernel
theorem dd_X3_init_0 : decode mb_X3_init 0 = .ok (.aload_n 0, 1) := by decide +kernel
theorem dd_X3_init_1 : decode mb_X3_init 1 = .ok (.invokespecial 3, 3) := by decide +kernel
theorem dd_X3_init_4 : decode mb_X3_init 4 = .ok (.aload_n 0, 1) := by decide +kernel
theorem dd_X3_init_5 : decode mb_X3_init 5 = .ok (.bipush 30, 2) := by decide +kernel
theorem dd_X3_init_7 : decode mb_X3_init 7 = .ok (.newarray .int, 2) := by decide +kernel
theorem dd_X3_init_9 : decode mb_X3_init 9 = .ok (.putfield 11, 3) := by decide +kernel
theorem dd_X3_init_12 : decode mb_X3_init 12 = .ok (.aload_n 0, 1) := by decide +kernel
theorem dd_X3_init_13 : decode mb_X3_init 13 = .ok (.iconst 5, 1) := by decide +kernel
theorem dd_X3_init_14 : decode mb_X3_init 14 = .ok (.newarray .int, 2) := by decide +kernel
theorem dd_X3_init_16 : decode mb_X3_init 16 = .ok (.putfield 15, 3) := by decide +kernel
theorem dd_X3_init_19 : decode mb_X3_init 19 = .ok (.aload_n 0, 1) := by decide +kernel
theorem dd_X3_init_20 : decode mb_X3_init 20 = .ok (.iconst 0, 1) := by decide +kernel
theorem dd_X3_init_21 : decode mb_X3_init 21 = .ok (.putfield 18, 3) := by decide +kernel
theorem dd_X3_init_24 : decode mb_X3_init 24 = .ok (.return_, 1) := by decide +kernel
theorem dd_X4_init_0 : decode mb_X4_init 0 = .ok (.aload_n 0, 1) := by decide +kernel
theorem dd_X4_init_1 : decode mb_X4_init 1 = .ok (.invokespecial 3, 3) := by decide +kernel
theorem dd_X4_init_4 : decode mb_X4_init 4 = .ok (.aload_n 0, 1) := by decide +kernel
theorem dd_X4_init_5 : decode mb_X4_init 5 = .ok (.sipush 10000, 3) := by decide +kernel
theorem dd_X4_init_8 : decode mb_X4_init 8 = .ok (.newarray .int, 2) := by decide +kernel
theorem dd_X4_init_10 : decode mb_X4_init 10 = .ok (.putfield 9, 3) := by decide +kernel
theorem dd_X4_init_13 : decode mb_X4_init 13 = .ok (.aload_n 0, 1) := by decide +kernel
theorem dd_X4_init_14 : decode mb_X4_init 14 = .ok (.sipush 201, 3) := by decide +kernel
theorem dd_X4_init_17 : decode mb_X4_init 17 = .ok (.newarray .int, 2) := by decide +kernel
theorem dd_X4_init_19 : decode mb_X4_init 19 = .ok (.putfield 15, 3) := by decide +kernel
theorem dd_X4_init_22 : decode mb_X4_init 22 = .ok (.return_, 1) := by decide +kernel
theorem dd_X5_init_0 : decode mb_X5_init 0 = .ok (.aload_n 0, 1) := by decide +kernel
theorem dd_X5_init_1 : decode mb_X5_init 1 = .ok (.invokespecial 3, 3) := by decide +kernel
theorem dd_X5_init_4 : decode mb_X5_init 4 = .ok (.aload_n 0, 1) := by decide +kernel
theorem dd_X5_init_5 : decode mb_X5_init 5 = .ok (.bipush 12, 2) := by decide +kernel
theorem dd_X5_init_7 : decode mb_X5_init 7 = .ok (.putfield 9, 3) := by decide +kernel
theorem dd_X5_init_10 : decode mb_X5_init 10 = .ok (.aload_n 0, 1) := by decide +kernel
theorem dd_X5_init_11 : decode mb_X5_init 11 = .ok (.bipush 12, 2) := by decide +kernel
theorem dd_X5_init_13 : decode mb_X5_init 13 = .ok (.putfield 15, 3) := by decide +kernel
theorem dd_X5_init_16 : decode mb_X5_init 16 = .ok (.aload_n 0, 1) := by decide +kernel
theorem dd_X5_init_17 : decode mb_X5_init 17 = .ok (.bipush 30, 2) := by decide +kernel
theorem dd_X5_init_19 : decode mb_X5_init 19 = .ok (.newarray .int, 2) := by decide +kernel
theorem dd_X5_init_21 : decode mb_X5_init 21 = .ok (.putfield 18, 3) := by decide +kernel
theorem dd_X5_init_24 : decode mb_X5_init 24 = .ok (.aload_n 0, 1) := by decide +kernel
theorem dd_X5_init_25 : decode mb_X5_init 25 = .ok (.iconst 0, 1) := by decide +kernel
theorem dd_X5_init_26 : decode mb_X5_init 26 = .ok (.putfield 22, 3) := by decide +kernel
theorem dd_X5_init_29 : decode mb_X5_init 29 = .ok (.aload_n 0, 1) := by decide +kernel
theorem dd_X5_init_30 : decode mb_X5_init 30 = .ok (.bipush 30, 2) := by decide +kernel
theorem dd_X5_init_32 : decode mb_X5_init 32 = .ok (.newarray .int, 2) := by decide +kernel
theorem dd_X5_init_34 : decode mb_X5_init 34 = .ok (.putfield 25, 3) := by decide +kernel
theorem dd_X5_init_37 : decode mb_X5_init 37 = .ok (.aload_n 0, 1) := by decide +kernel
theorem dd_X5_init_38 : decode mb_X5_init 38 = .ok (.bipush 30, 2) := by decide +kernel
theorem dd_X5_init_40 : decode mb_X5_init 40 = .ok (.newarray .int, 2) := by decide +kernel
theorem dd_X5_init_42 : decode mb_X5_init 42 = .ok (.putfield 28, 3) := by decide +kernel
theorem dd_X5_init_45 : decode mb_X5_init 45 = .ok (.aload_n 0, 1) := by decide +kernel
theorem dd_X5_init_46 : decode mb_X5_init 46 = .ok (.bipush 30, 2) := by decide +kernel
theorem dd_X5_init_48 : decode mb_X5_init 48 = .ok (.newarray .int, 2) := by decide +kernel
theorem dd_X5_init_50 : decode mb_X5_init 50 = .ok (.putfield 31, 3) := by decide +kernel
theorem dd_X5_init_53 : decode mb_X5_init 53 = .ok (.aload_n 0, 1) := by decide +kernel
theorem dd_X5_init_54 : decode mb_X5_init 54 = .ok (.bipush 12, 2) := by decide +kernel
theorem dd_X5_init_56 : decode mb_X5_init 56 = .ok (.newarray .int, 2) := by decide +kernel
theorem dd_X5_init_58 : decode mb_X5_init 58 = .ok (.putfield 34, 3) := by decide +kernel
theorem dd_X5_init_61 : decode mb_X5_init 61 = .ok (.aload_n 0, 1) := by decide +kernel
theorem dd_X5_init_62 : decode mb_X5_init 62 = .ok (.bipush 12, 2) := by decide +kernel
theorem dd_X5_init_64 : decode mb_X5_init 64 = .ok (.newarray .int, 2) := by decide +kernel
theorem dd_X5_init_66 : decode mb_X5_init 66 = .ok (.putfield 37, 3) := by decide +kernel
theorem dd_X5_init_69 : decode mb_X5_init 69 = .ok (.return_, 1) := by decide +kernel
theorem dd_X6_init_0 : decode mb_X6_init 0 = .ok (.aload_n 0, 1) := by decide +kernel
theorem dd_X6_init_1 : decode mb_X6_init 1 = .ok (.invokespecial 3, 3) := by decide +kernel
theorem dd_X6_init_4 : decode mb_X6_init 4 = .ok (.aload_n 0, 1) := by decide +kernel
theorem dd_X6_init_5 : decode mb_X6_init 5 = .ok (.bipush 10, 2) := by decide +kernel
theorem dd_X6_init_7 : decode mb_X6_init 7 = .ok (.newarray .int, 2) := by decide +kernel
theorem dd_X6_init_9 : decode mb_X6_init 9 = .ok (.putfield 9, 3) := by decide +kernel
theorem dd_X6_init_12 : decode mb_X6_init 12 = .ok (.aload_n 0, 1) := by decide +kernel
theorem dd_X6_init_13 : decode mb_X6_init 13 = .ok (.bipush 10, 2) := by decide +kernel
theorem dd_X6_init_15 : decode mb_X6_init 15 = .ok (.newarray .int, 2) := by decide +kernel
theorem dd_X6_init_17 : decode mb_X6_init 17 = .ok (.putfield 15, 3) := by decide +kernel
theorem dd_X6_init_20 : decode mb_X6_init 20 = .ok (.aload_n 0, 1) := by decide +kernel
theorem dd_X6_init_21 : decode mb_X6_init 21 = .ok (.iconst 0, 1) := by decide +kernel
theorem dd_X6_init_22 : decode mb_X6_init 22 = .ok (.putfield 18, 3) := by decide +kernel
theorem dd_X6_init_25 : decode mb_X6_init 25 = .ok (.aload_n 0, 1) := by decide +kernel
theorem dd_X6_init_26 : decode mb_X6_init 26 = .ok (.bipush 16, 2) := by decide +kernel
theorem dd_X6_init_28 : decode mb_X6_init 28 = .ok (.newarray .int, 2) := by decide +kernel
theorem dd_X6_init_30 : decode mb_X6_init 30 = .ok (.putfield 22, 3) := by decide +kernel
theorem dd_X6_init_33 : decode mb_X6_init 33 = .ok (.aload_n 0, 1) := by decide +kernel
theorem dd_X6_init_34 : decode mb_X6_init 34 = .ok (.bipush 10, 2) := by decide +kernel
theorem dd_X6_init_36 : decode mb_X6_init 36 = .ok (.newarray .int, 2) := by decide +kernel
theorem dd_X6_init_38 : decode mb_X6_init 38 = .ok (.putfield 25, 3) := by decide +kernel
theorem dd_X6_init_41 : decode mb_X6_init 41 = .ok (.aload_n 0, 1) := by decide +kernel
theorem dd_X6_init_42 : decode mb_X6_init 42 = .ok (.bipush 10, 2) := by decide +kernel
theorem dd_X6_init_44 : decode mb_X6_init 44 = .ok (.newarray .int, 2) := by decide +kernel
theorem dd_X6_init_46 : decode mb_X6_init 46 = .ok (.putfield 28, 3) := by decide +kernel
theorem dd_X6_init_49 : decode mb_X6_init 49 = .ok (.aload_n 0, 1) := by decide +kernel
theorem dd_X6_init_50 : decode mb_X6_init 50 = .ok (.bipush 10, 2) := by decide +kernel
theorem dd_X6_init_52 : decode mb_X6_init 52 = .ok (.newarray .int, 2) := by decide +kernel
theorem dd_X6_init_54 : decode mb_X6_init 54 = .ok (.putfield 31, 3) := by decide +kernel
theorem dd_X6_init_57 : decode mb_X6_init 57 = .ok (.aload_n 0, 1) := by decide +kernel
theorem dd_X6_init_58 : decode mb_X6_init 58 = .ok (.iconst 0, 1) := by decide +kernel
theorem dd_X6_init_59 : decode mb_X6_init 59 = .ok (.putfield 34, 3) := by decide +kernel
theorem dd_X6_init_62 : decode mb_X6_init 62 = .ok (.aload_n 0, 1) := by decide +kernel
theorem dd_X6_init_63 : decode mb_X6_init 63 = .ok (.iconst 5, 1) := by decide +kernel
theorem dd_X6_init_64 : decode mb_X6_init 64 = .ok (.newarray .int, 2) := by decide +kernel
theorem dd_X6_init_66 : decode mb_X6_init 66 = .ok (.putfield 37, 3) := by decide +kernel
theorem dd_X6_init_69 : decode mb_X6_init 69 = .ok (.return_, 1) := by decide +kernel
theorem dd_X7_init_0 : decode mb_X7_init 0 = .ok (.aload_n 0, 1) := by decide +kernel
theorem dd_X7_init_1 : decode mb_X7_init 1 = .ok (.invokespecial 3, 3) := by decide +kernel
theorem dd_X7_init_4 : decode mb_X7_init 4 = .ok (.aload_n 0, 1) := by decide +kernel
theorem dd_X7_init_5 : decode mb_X7_init 5 = .ok (.bipush 40, 2) := by decide +kernel
theorem dd_X7_init_7 : decode mb_X7_init 7 = .ok (.newarray .long, 2) := by decide +kernel
theorem dd_X7_init_9 : decode mb_X7_init 9 = .ok (.putfield 9, 3) := by decide +kernel
theorem dd_X7_init_12 : decode mb_X7_init 12 = .ok (.aload_n 0, 1) := by decide +kernel
theorem dd_X7_init_13 : decode mb_X7_init 13 = .ok (.iconst (-1), 1) := by decide +kernel
theorem dd_X7_init_14 : decode mb_X7_init 14 = .ok (.putfield 15, 3) := by decide +kernel
theorem dd_X7_init_17 : decode mb_X7_init 17 = .ok (.aload_n 0, 1) := by decide +kernel
theorem dd_X7_init_18 : decode mb_X7_init 18 = .ok (.iconst 0, 1) := by decide +kernel
theorem dd_X7_init_19 : decode mb_X7_init 19 = .ok (.putfield 19, 3) := by decide +kernel
theorem dd_X7_init_22 : decode mb_X7_init 22 = .ok (.return_, 1) := by decide +kernel
theorem dd_X8_init_0 : decode mb_X8_init 0 = .ok (.aload_n 0, 1) := by decide +kernel
theorem dd_X8_init_1 : decode mb_X8_init 1 = .ok (.invokespecial 3, 3) := by decide +kernel
theorem dd_X8_init_4 : decode mb_X8_init 4 = .ok (.aload_n 0, 1) := by decide +kernel
theorem dd_X8_init_5 : decode mb_X8_init 5 = .ok (.bipush 20, 2) := by decide +kernel
theorem dd_X8_init_7 : decode mb_X8_init 7 = .ok (.newarray .int, 2) := by decide +kernel
theorem dd_X8_init_9 : decode mb_X8_init 9 = .ok (.putfield 9, 3) := by decide +kernel
theorem dd_X8_init_12 : decode mb_X8_init 12 = .ok (.aload_n 0, 1) := by decide +kernel
theorem dd_X8_init_13 : decode mb_X8_init 13 = .ok (.bipush 20, 2) := by decide +kernel
theorem dd_X8_init_15 : decode mb_X8_init 15 = .ok (.newarray .int, 2) := by decide +kernel
theorem dd_X8_init_17 : decode mb_X8_init 17 = .ok (.putfield 15, 3) := by decide +kernel
theorem dd_X8_init_20 : decode mb_X8_init 20 = .ok (.aload_n 0, 1) := by decide +kernel
theorem dd_X8_init_21 : decode mb_X8_init 21 = .ok (.bipush 20, 2) := by decide +kernel
theorem dd_X8_init_23 : decode mb_X8_init 23 = .ok (.newarray .int, 2) := by decide +kernel
theorem dd_X8_init_25 : decode mb_X8_init 25 = .ok (.putfield 18, 3) := by decide +kernel
theorem dd_X8_init_28 : decode mb_X8_init 28 = .ok (.aload_n 0, 1) := by decide +kernel
theorem dd_X8_init_29 : decode mb_X8_init 29 = .ok (.bipush 20, 2) := by decide +kernel
theorem dd_X8_init_31 : decode mb_X8_init 31 = .ok (.newarray .int, 2) := by decide +kernel
theorem dd_X8_init_33 : decode mb_X8_init 33 = .ok (.putfield 21, 3) := by decide +kernel
theorem dd_X8_init_36 : decode mb_X8_init 36 = .ok (.aload_n 0, 1) := by decide +kernel
theorem dd_X8_init_37 : decode mb_X8_init 37 = .ok (.iconst 0, 1) := by decide +kernel
theorem dd_X8_init_38 : decode mb_X8_init 38 = .ok (.putfield 24, 3) := by decide +kernel
theorem dd_X8_init_41 : decode mb_X8_init 41 = .ok (.aload_n 0, 1) := by decide +kernel
theorem dd_X8_init_42 : decode mb_X8_init 42 = .ok (.bipush 20, 2) := by decide +kernel
theorem dd_X8_init_44 : decode mb_X8_init 44 = .ok (.newarray .int, 2) := by decide +kernel
theorem dd_X8_init_46 : decode mb_X8_init 46 = .ok (.putfield 28, 3) := by decide +kernel
theorem dd_X8_init_49 : decode mb_X8_init 49 = .ok (.aload_n 0, 1) := by decide +kernel
theorem dd_X8_init_50 : decode mb_X8_init 50 = .ok (.bipush 20, 2) := by decide +kernel
theorem dd_X8_init_52 : decode mb_X8_init 52 = .ok (.newarray .int, 2) := by decide +kernel
theorem dd_X8_init_54 : decode mb_X8_init 54 = .ok (.putfield 31, 3) := by decide +kernel
theorem dd_X8_init_57 : decode mb_X8_init 57 = .ok (.aload_n 0, 1) := by decide +kernel
theorem dd_X8_init_58 : decode mb_X8_init 58 = .ok (.bipush 20, 2) := by decide +kernel
theorem dd_X8_init_60 : decode mb_X8_init 60 = .ok (.newarray .int, 2) := by decide +kernel
theorem dd_X8_init_62 : decode mb_X8_init 62 = .ok (.putfield 34, 3) := by decide +kernel
theorem dd_X8_init_65 : decode mb_X8_init 65 = .ok (.return_, 1) := by decide +kernel
theorem dd_X9_init_0 : decode mb_X9_init 0 = .ok (.aload_n 0, 1) := by decide +kernel
theorem dd_X9_init_1 : decode mb_X9_init 1 = .ok (.invokespecial 3, 3) := by decide +kernel
theorem dd_X9_init_4 : decode mb_X9_init 4 = .ok (.aload_n 0, 1) := by decide +kernel
theorem dd_X9_init_5 : decode mb_X9_init 5 = .ok (.bipush 120, 2) := by decide +kernel
theorem dd_X9_init_7 : decode mb_X9_init 7 = .ok (.newarray .byte, 2) := by decide +kernel
theorem dd_X9_init_9 : decode mb_X9_init 9 = .ok (.putfield 9, 3) := by decide +kernel
theorem dd_X9_init_12 : decode mb_X9_init 12 = .ok (.aload_n 0, 1) := by decide +kernel
theorem dd_X9_init_13 : decode mb_X9_init 13 = .ok (.iconst 0, 1) := by decide +kernel
theorem dd_X9_init_14 : decode mb_X9_init 14 = .ok (.putfield 15, 3) := by decide +kernel
theorem dd_X9_init_17 : decode mb_X9_init 17 = .ok (.aload_n 0, 1) := by decide +kernel
theorem dd_X9_init_18 : decode mb_X9_init 18 = .ok (.iconst 0, 1) := by decide +kernel
theorem dd_X9_init_19 : decode mb_X9_init 19 = .ok (.putfield 19, 3) := by decide +kernel
theorem dd_X9_init_22 : decode mb_X9_init 22 = .ok (.aload_n 0, 1) := by decide +kernel
theorem dd_X9_init_23 : decode mb_X9_init 23 = .ok (.iconst 0, 1) := by decide +kernel
theorem dd_X9_init_24 : decode mb_X9_init 24 = .ok (.putfield 22, 3) := by decide +kernel
theorem dd_X9_init_27 : decode mb_X9_init 27 = .ok (.return_, 1) := by decide +kernel
theorem ws_X_21 : WIN "WhiteElephants" 21 my_X9_init mb_X9_init 1 := ⟨by decide +kernel, kk_35, kk_2, kk_36⟩
theorem ws_X_28 : WIN "WhiteElephants" 28 my_X1_init mb_X1_init 1 := ⟨by decide +kernel, kk_57, kk_3, kk_58⟩
theorem ws_X_38 : WIN "WhiteElephants" 38 my_X5_init mb_X5_init 1 := ⟨by decide +kernel, kk_319, kk_10, kk_320⟩
theorem ws_X_45 : WIN "WhiteElephants" 45 my_X4_init mb_X4_init 1 := ⟨by decide +kernel, kk_353, kk_11, kk_354⟩
theorem ws_X_54 : WIN "WhiteElephants" 54 my_X7_init mb_X7_init 1 := ⟨by decide +kernel, kk_365, kk_12, kk_366⟩
theorem ws_Hall_11 : WIN "WhiteElephants$Hall" 11 my_X10_init mb_X10_init 1 := ⟨by decide +kernel, kk_63, kk_4, kk_64⟩
theorem ws_Hall_20 : WIN "WhiteElephants$Hall" 20 my_X2_init mb_X2_init 1 := ⟨by decide +kernel, kk_113, kk_5, kk_114⟩
theorem ws_Hall_27 : WIN "WhiteElephants$Hall" 27 my_X3_init mb_X3_init 1 := ⟨by decide +kernel, kk_138, kk_6, kk_139⟩
theorem ws_Hall_34 : WIN "WhiteElephants$Hall" 34 my_X0_init mb_X0_init 1 := ⟨by decide +kernel, kk_156, kk_7, kk_157⟩
theorem ws_Hall_41 : WIN "WhiteElephants$Hall" 41 my_X8_init mb_X8_init 1 := ⟨by decide +kernel, kk_193, kk_8, kk_194⟩
theorem ws_Hall_48 : WIN "WhiteElephants$Hall" 48 my_X6_init mb_X6_init 1 := ⟨by decide +kernel, kk_225, kk_9, kk_226⟩
