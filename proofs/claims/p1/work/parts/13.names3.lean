/-! what stands in the heap ahead of the law: a static row, a static flag, the words' texts -/
abbrev FF : Nat → Prop := fun _ => False
def atf : Nat → Int32 := fun j => ([100, 50, 1, 0, 999] : List Int32).getD j 0
abbrev CZ (A : Nat → Prop) (U : State) : Prop := va_Z "java/lang/String" "COMPACT_STRINGS" "Z" (.int 1) A U U.heap
abbrev ST (w v n : Nat) (A : Nat → Prop) (U : State) : Prop := va_O "java/lang/String" w A U U.heap ∧ va_OF "java/lang/String" "coder" "B" (.int 0) w A U U.heap ∧ va_OF "java/lang/String" "value" "[B" (.ref v) w A U U.heap ∧ ∃ f : Nat → Value, va_T .byte v n f A U U.heap
abbrev AT (A : Nat → Prop) (U : State) : Prop := ∃ t : Nat, va_Z "WhiteElephants$Laws" "AT_FIRST" "[I" (.ref t) A U U.heap ∧ va_X t 5 atf U U.heap ∧ t < U.heap.size ∧ ¬ A t
def tapeL : List (Nat × String × Nat) := [(55, "known", 5), (61, "strange", 7), (63, "round", 5), (65, "least", 5), (67, "most", 4)]
abbrev IX (w v n : Nat) (U : State) : Prop := NN U ∧ CZ FF U ∧ ST w v n FF U
abbrev PX (A : Nat → Prop) (U : State) : Prop := NN U ∧ CZ A U ∧ ∀ q ∈ tapeL, ∃ w v : Nat, vk_R "WhiteElephants$Tape" q.1 q.2.1 w U ∧ ST w v q.2.2 A U
abbrev CX (A : Nat → Prop) (U : State) : Prop := NN U ∧ AT A U
abbrev LX (A : Nat → Prop) (U : State) : Prop := PX A U ∧ AT A U
section WT
variable {A B : Nat → Prop} {s U : State} {H : Heap} {locs : List Loc}
theorem cz_go (hS : va_S A s.heap H locs) (hAB : ∀ q, B q → A q) (hU : U.heap = H) (hW : s.WarmedH U.vm) (h : CZ A s) : CZ B U := by
  subst hU
  exact va_Z.moved hW.alike ((va_Z.kept h (fun a h1 h2 => hS.2.1 a h1 h2)).narrow hAB)
theorem st_go {w v n : Nat} (hS : va_S A s.heap H locs) (hAB : ∀ q, B q → A q) (hU : U.heap = H) (hW : s.WarmedH U.vm) (h : ST w v n A s) : ST w v n B U := by
  subst hU
  obtain ⟨h1, h2, h3, f, h4⟩ := h
  exact ⟨va_O.moved hW.alike ((va_O.kept h1 (fun a k1 k2 => hS.2.1 a k1 k2)).narrow hAB), va_OF.moved hW.alike ((va_OF.kept h2 (fun a k1 k2 => hS.2.1 a k1 k2)).narrow hAB), va_OF.moved hW.alike ((va_OF.kept h3 (fun a k1 k2 => hS.2.1 a k1 k2)).narrow hAB), f, va_T.moved hW.alike ((va_T.kept h4 (fun a k1 k2 => hS.2.1 a k1 k2)).narrow hAB)⟩
theorem at_go (hS : va_S A s.heap H locs) (hAB : ∀ q, B q → A q) (hU : U.heap = H) (hW : s.WarmedH U.vm) (h : AT A s) : AT B U := by
  subst hU
  obtain ⟨t, h1, h2, h3, h4⟩ := h
  exact ⟨t, va_Z.moved hW.alike ((va_Z.kept h1 (fun a k1 k2 => hS.2.1 a k1 k2)).narrow hAB), va_X.moved hW.alike (va_X.kept h2 (hS.2.1 t h3 h4)), Nat.lt_of_lt_of_le h3 hS.1, fun q => h4 (hAB t q)⟩
theorem px_go (hS : va_S A s.heap H locs) (hAB : ∀ q, B q → A q) (hU : U.heap = H) (hW : s.WarmedH U.vm) (h : PX A s) : PX B U :=
  ⟨NN.warm hW h.1, cz_go hS hAB hU hW h.2.1, fun q hq => by
    obtain ⟨w, v, h1, h2⟩ := h.2.2 q hq
    exact ⟨w, v, vk_R.warm hW h1, st_go hS hAB hU hW h2⟩⟩
theorem cz_c {g : JFrame} {mk : MethodId} {a : Array Value} (h : CZ A U) : CZ A (U.calling g mk a) := va_Z.moved (u := U) (U := U.calling g mk a) (Vm.Alike.refl U.vm) h
theorem st_c {w v n : Nat} {g : JFrame} {mk : MethodId} {a : Array Value} (h : ST w v n A U) : ST w v n A (U.calling g mk a) := by
  obtain ⟨h1, h2, h3, f, h4⟩ := h
  exact ⟨va_O.moved (u := U) (U := U.calling g mk a) (Vm.Alike.refl U.vm) h1, va_OF.moved (u := U) (U := U.calling g mk a) (Vm.Alike.refl U.vm) h2, va_OF.moved (u := U) (U := U.calling g mk a) (Vm.Alike.refl U.vm) h3, f, va_T.moved (u := U) (U := U.calling g mk a) (Vm.Alike.refl U.vm) h4⟩
theorem at_c {g : JFrame} {mk : MethodId} {a : Array Value} (h : AT A U) : AT A (U.calling g mk a) := by
  obtain ⟨t, h1, h2, h3, h4⟩ := h
  exact ⟨t, va_Z.moved (u := U) (U := U.calling g mk a) (Vm.Alike.refl U.vm) h1, va_X.moved (u := U) (U := U.calling g mk a) (Vm.Alike.refl U.vm) h2, h3, h4⟩
theorem px_c {g : JFrame} {mk : MethodId} {a : Array Value} (h : PX A U) : PX A (U.calling g mk a) :=
  ⟨NN.call h.1, cz_c h.2.1, fun q hq => by
    obtain ⟨w, v, h1, h2⟩ := h.2.2 q hq
    exact ⟨w, v, vk_R.same rfl h1, st_c h2⟩⟩
theorem ix_b {w v n : Nat} : ∀ (a : Array Value) (U : State) (g : JFrame) (mk : MethodId), IX w v n U → IX w v n (U.calling g mk a) := fun _ _ _ _ h => ⟨NN.call h.1, cz_c h.2.1, st_c h.2.2⟩
theorem px_b : ∀ (a : Array Value) (U : State) (g : JFrame) (mk : MethodId), PX FF U → PX FF (U.calling g mk a) := fun _ _ _ _ h => px_c h
theorem cx_b : ∀ (A : Nat → Prop) (a : Array Value) (U : State) (g : JFrame) (mk : MethodId), CX A U → CX A (U.calling g mk a) := fun _ _ _ _ _ h => ⟨NN.call h.1, at_c h.2⟩
theorem lx_b : ∀ (A : Nat → Prop) (a : Array Value) (U : State) (g : JFrame) (mk : MethodId), LX A U → LX A (U.calling g mk a) := fun _ _ _ _ _ h => ⟨px_c h.1, at_c h.2⟩
theorem st_recv {w v n : Nat} (h : ST w v n FF s) : ∃ cell : Cell, s.heap[w]? = some cell ∧ cell.vm.isStatics = false ∧ s.vm.findClass "java/lang/String" = some cell.cls := by
  obtain ⟨cell, h1, h2, h3, -⟩ := h.1
  exact ⟨cell, h1, h2, h3⟩
end WT

abbrev mb_J0_coder_7d493 : ByteArray := prog_17_method_152_code
abbrev my_J0_coder_7d493 : MethodName := ⟨"java/lang/String", "coder", "()B"⟩
theorem md_J0_coder_7d493 : MD my_J0_coder_7d493 0 := ⟨by decide, by decide, by decide +kernel⟩
abbrev mb_J0_length_8abf5 : ByteArray := prog_17_method_54_code
abbrev my_J0_length_8abf5 : MethodName := ⟨"java/lang/String", "length", "()I"⟩
theorem md_J0_length_8abf5 : MD my_J0_length_8abf5 0 := ⟨by decide, by decide, by decide +kernel⟩
abbrev mb_X11_law : ByteArray := prog_1_method_17_code
abbrev my_X11_law : MethodName := ⟨"WhiteElephants", "law", "()I"⟩
theorem md_X11_law : MD my_X11_law 0 := ⟨by decide, by decide, by decide +kernel⟩
abbrev mb_X12_law : ByteArray := prog_14_method_40_code
abbrev my_X12_law : MethodName := ⟨"WhiteElephantsModel", "law", "()I"⟩
theorem md_X12_law : MD my_X12_law 0 := ⟨by decide, by decide, by decide +kernel⟩
abbrev mb_X12_read : ByteArray := prog_14_method_39_code
abbrev my_X12_read : MethodName := ⟨"WhiteElephantsModel", "read", "(I)I"⟩
theorem md_X12_read : MD my_X12_read 1 := ⟨by decide, by decide, by decide +kernel⟩
abbrev mb_X3_clearDraft : ByteArray := prog_5_method_5_code
abbrev my_X3_clearDraft : MethodName := ⟨"WhiteElephants$Laws", "clearDraft", "()V"⟩
theorem md_X3_clearDraft : MD my_X3_clearDraft 0 := ⟨by decide, by decide, by decide +kernel⟩
abbrev mb_X9_isWord : ByteArray := prog_11_method_8_code
abbrev my_X9_isWord : MethodName := ⟨"WhiteElephants$Tape", "isWord", "(Ljava/lang/String;)Z"⟩
theorem md_X9_isWord : MD my_X9_isWord 1 := ⟨by decide, by decide, by decide +kernel⟩
abbrev mb_X9_partNamed : ByteArray := prog_11_method_7_code
abbrev my_X9_partNamed : MethodName := ⟨"WhiteElephants$Tape", "partNamed", "()I"⟩
theorem md_X9_partNamed : MD my_X9_partNamed 0 := ⟨by decide, by decide, by decide +kernel⟩
abbrev mb_X9_readInto : ByteArray := prog_11_method_3_code
abbrev my_X9_readInto : MethodName := ⟨"WhiteElephants$Tape", "readInto", "(LWhiteElephants$Laws;)I"⟩
theorem md_X9_readInto : MD my_X9_readInto 1 := ⟨by decide, by decide, by decide +kernel⟩
abbrev mb_X9_step : ByteArray := prog_11_method_4_code
abbrev my_X9_step : MethodName := ⟨"WhiteElephants$Tape", "step", "()V"⟩
theorem md_X9_step : MD my_X9_step 0 := ⟨by decide, by decide, by decide +kernel⟩
theorem kk_18 : Cond.initialized "java/lang/String" ∈ BW := bw_at 78 (by decide +kernel) rfl
theorem kk_601 : Cond.code ⟨"WhiteElephants", "law", "()I"⟩ prog_1_method_17_code 2 (some .int) ∈ BW := bw_at 661 (by decide +kernel) rfl
theorem kk_602 : Cond.methodLink "WhiteElephants" 193 ⟨"WhiteElephants$Tape", "readInto", "(LWhiteElephants$Laws;)I"⟩ ∈ BW := bw_at 662 (by decide +kernel) rfl
theorem kk_603 : Cond.instanceMethod ⟨"WhiteElephants$Tape", "readInto", "(LWhiteElephants$Laws;)I"⟩ ∈ BW := bw_at 663 (by decide +kernel) rfl
theorem kk_604 : Cond.selects "WhiteElephants$Tape" ⟨"WhiteElephants$Tape", "readInto", "(LWhiteElephants$Laws;)I"⟩ ⟨"WhiteElephants$Tape", "readInto", "(LWhiteElephants$Laws;)I"⟩ ∈ BW := bw_at 664 (by decide +kernel) rfl
theorem kk_605 : Cond.code ⟨"WhiteElephants$Tape", "readInto", "(LWhiteElephants$Laws;)I"⟩ prog_11_method_3_code 5 (some .int) ∈ BW := bw_at 665 (by decide +kernel) rfl
theorem kk_606 : Cond.methodLink "WhiteElephants$Tape" 25 ⟨"WhiteElephants$Laws", "clearDraft", "()V"⟩ ∈ BW := bw_at 666 (by decide +kernel) rfl
theorem kk_607 : Cond.instanceMethod ⟨"WhiteElephants$Laws", "clearDraft", "()V"⟩ ∈ BW := bw_at 667 (by decide +kernel) rfl
theorem kk_608 : Cond.selects "WhiteElephants$Laws" ⟨"WhiteElephants$Laws", "clearDraft", "()V"⟩ ⟨"WhiteElephants$Laws", "clearDraft", "()V"⟩ ∈ BW := bw_at 668 (by decide +kernel) rfl
theorem kk_609 : Cond.code ⟨"WhiteElephants$Laws", "clearDraft", "()V"⟩ prog_5_method_5_code 1 (none : Option Jvm.ClassFile.FieldType) ∈ BW := bw_at 669 (by decide +kernel) rfl
theorem kk_610 : Cond.fieldLink "WhiteElephants$Laws" 36 "WhiteElephants$Laws" "AT_FIRST" "[I" ∈ BW := bw_at 670 (by decide +kernel) rfl
theorem kk_613 : Cond.methodLink "WhiteElephants$Tape" 30 ⟨"WhiteElephants$Tape", "step", "()V"⟩ ∈ BW := bw_at 673 (by decide +kernel) rfl
theorem kk_615 : Cond.instanceMethod ⟨"WhiteElephants$Tape", "step", "()V"⟩ ∈ BW := bw_at 675 (by decide +kernel) rfl
theorem kk_616 : Cond.code ⟨"WhiteElephants$Tape", "step", "()V"⟩ prog_11_method_4_code 1 (none : Option Jvm.ClassFile.FieldType) ∈ BW := bw_at 676 (by decide +kernel) rfl
theorem kk_623 : Cond.methodLink "WhiteElephants$Tape" 33 ⟨"WhiteElephants$Tape", "partNamed", "()I"⟩ ∈ BW := bw_at 683 (by decide +kernel) rfl
theorem kk_625 : Cond.instanceMethod ⟨"WhiteElephants$Tape", "partNamed", "()I"⟩ ∈ BW := bw_at 685 (by decide +kernel) rfl
theorem kk_626 : Cond.code ⟨"WhiteElephants$Tape", "partNamed", "()I"⟩ prog_11_method_7_code 1 (some .int) ∈ BW := bw_at 686 (by decide +kernel) rfl
theorem kk_628 : Cond.methodLink "WhiteElephants$Tape" 57 ⟨"WhiteElephants$Tape", "isWord", "(Ljava/lang/String;)Z"⟩ ∈ BW := bw_at 688 (by decide +kernel) rfl
theorem kk_630 : Cond.instanceMethod ⟨"WhiteElephants$Tape", "isWord", "(Ljava/lang/String;)Z"⟩ ∈ BW := bw_at 690 (by decide +kernel) rfl
theorem kk_631 : Cond.code ⟨"WhiteElephants$Tape", "isWord", "(Ljava/lang/String;)Z"⟩ prog_11_method_8_code 3 (some .boolean) ∈ BW := bw_at 691 (by decide +kernel) rfl
theorem kk_632 : Cond.methodLink "WhiteElephants$Tape" 69 ⟨"java/lang/String", "length", "()I"⟩ ∈ BW := bw_at 692 (by decide +kernel) rfl
theorem kk_633 : Cond.instanceMethod ⟨"java/lang/String", "length", "()I"⟩ ∈ BW := bw_at 693 (by decide +kernel) rfl
theorem kk_634 : Cond.selects "java/lang/String" ⟨"java/lang/String", "length", "()I"⟩ ⟨"java/lang/String", "length", "()I"⟩ ∈ BW := bw_at 694 (by decide +kernel) rfl
theorem kk_635 : Cond.code ⟨"java/lang/String", "length", "()I"⟩ prog_17_method_54_code 1 (some .int) ∈ BW := bw_at 695 (by decide +kernel) rfl
theorem kk_636 : Cond.methodLink "java/lang/String" 335 ⟨"java/lang/String", "coder", "()B"⟩ ∈ BW := bw_at 696 (by decide +kernel) rfl
theorem kk_637 : Cond.instanceMethod ⟨"java/lang/String", "coder", "()B"⟩ ∈ BW := bw_at 697 (by decide +kernel) rfl
theorem kk_638 : Cond.selects "java/lang/String" ⟨"java/lang/String", "coder", "()B"⟩ ⟨"java/lang/String", "coder", "()B"⟩ ∈ BW := bw_at 698 (by decide +kernel) rfl
theorem kk_639 : Cond.code ⟨"java/lang/String", "coder", "()B"⟩ prog_17_method_152_code 1 (some .byte) ∈ BW := bw_at 699 (by decide +kernel) rfl
theorem kk_640 : Cond.fieldLink "java/lang/String" 38 "java/lang/String" "COMPACT_STRINGS" "Z" ∈ BW := bw_at 700 (by decide +kernel) rfl
theorem kk_1377 : Cond.code ⟨"WhiteElephantsModel", "law", "()I"⟩ prog_14_method_40_code 2 (some .int) ∈ BW := bw_at 1437 (by decide +kernel) rfl
theorem kk_1378 : Cond.methodLink "WhiteElephantsModel" 239 ⟨"WhiteElephantsModel", "read", "(I)I"⟩ ∈ BW := bw_at 1438 (by decide +kernel) rfl
theorem kk_1380 : Cond.instanceMethod ⟨"WhiteElephantsModel", "read", "(I)I"⟩ ∈ BW := bw_at 1440 (by decide +kernel) rfl
theorem kk_1381 : Cond.code ⟨"WhiteElephantsModel", "read", "(I)I"⟩ prog_14_method_39_code 7 (some .int) ∈ BW := bw_at 1441 (by decide +kernel) rfl
theorem kk_1607 : Cond.fieldLink "java/lang/String" 9 "java/lang/String" "value" "[B" ∈ BW := bw_at 1667 (by decide +kernel) rfl
theorem kk_1608 : Cond.fieldLink "java/lang/String" 15 "java/lang/String" "coder" "B" ∈ BW := bw_at 1668 (by decide +kernel) rfl
theorem dd_J0_coder_7d493_0 : decode mb_J0_coder_7d493 0 = .ok (.getstatic 38, 3) := by decide +kernel
theorem dd_J0_coder_7d493_3 : decode mb_J0_coder_7d493 3 = .ok (.ifCond .eq 10, 3) := by decide +kernel
theorem dd_J0_coder_7d493_6 : decode mb_J0_coder_7d493 6 = .ok (.aload_n 0, 1) := by decide +kernel
theorem dd_J0_coder_7d493_7 : decode mb_J0_coder_7d493 7 = .ok (.getfield 15, 3) := by decide +kernel
theorem dd_J0_coder_7d493_10 : decode mb_J0_coder_7d493 10 = .ok (.goto 4, 3) := by decide +kernel
theorem dd_J0_coder_7d493_14 : decode mb_J0_coder_7d493 14 = .ok (.ireturn, 1) := by decide +kernel
theorem dd_J0_length_8abf5_0 : decode mb_J0_length_8abf5 0 = .ok (.aload_n 0, 1) := by decide +kernel
theorem dd_J0_length_8abf5_1 : decode mb_J0_length_8abf5 1 = .ok (.getfield 9, 3) := by decide +kernel
theorem dd_J0_length_8abf5_4 : decode mb_J0_length_8abf5 4 = .ok (.arraylength, 1) := by decide +kernel
theorem dd_J0_length_8abf5_5 : decode mb_J0_length_8abf5 5 = .ok (.aload_n 0, 1) := by decide +kernel
theorem dd_J0_length_8abf5_6 : decode mb_J0_length_8abf5 6 = .ok (.invokevirtual 335, 3) := by decide +kernel
theorem dd_J0_length_8abf5_9 : decode mb_J0_length_8abf5 9 = .ok (.ishr, 1) := by decide +kernel
theorem dd_J0_length_8abf5_10 : decode mb_J0_length_8abf5 10 = .ok (.ireturn, 1) := by decide +kernel
theorem dd_X11_law_0 : decode mb_X11_law 0 = .ok (.aload_n 0, 1) := by decide +kernel
theorem dd_X11_law_1 : decode mb_X11_law 1 = .ok (.getfield 29, 3) := by decide +kernel
theorem dd_X11_law_4 : decode mb_X11_law 4 = .ok (.getfield 178, 3) := by decide +kernel
theorem dd_X11_law_7 : decode mb_X11_law 7 = .ok (.getfield 192, 3) := by decide +kernel
theorem dd_X11_law_10 : decode mb_X11_law 10 = .ok (.bipush 6, 2) := by decide +kernel
theorem dd_X11_law_12 : decode mb_X11_law 12 = .ok (.if_icmp .lt 10, 3) := by decide +kernel
theorem dd_X11_law_22 : decode mb_X11_law 22 = .ok (.aload_n 0, 1) := by decide +kernel
theorem dd_X11_law_23 : decode mb_X11_law 23 = .ok (.getfield 22, 3) := by decide +kernel
theorem dd_X11_law_26 : decode mb_X11_law 26 = .ok (.aload_n 0, 1) := by decide +kernel
theorem dd_X11_law_27 : decode mb_X11_law 27 = .ok (.getfield 29, 3) := by decide +kernel
theorem dd_X11_law_30 : decode mb_X11_law 30 = .ok (.getfield 178, 3) := by decide +kernel
theorem dd_X11_law_33 : decode mb_X11_law 33 = .ok (.invokevirtual 193, 3) := by decide +kernel
theorem dd_X11_law_36 : decode mb_X11_law 36 = .ok (.istore_n 1, 1) := by decide +kernel
theorem dd_X11_law_37 : decode mb_X11_law 37 = .ok (.aload_n 0, 1) := by decide +kernel
theorem dd_X11_law_38 : decode mb_X11_law 38 = .ok (.getfield 22, 3) := by decide +kernel
theorem dd_X11_law_41 : decode mb_X11_law 41 = .ok (.iconst 0, 1) := by decide +kernel
theorem dd_X11_law_42 : decode mb_X11_law 42 = .ok (.putfield 188, 3) := by decide +kernel
theorem dd_X11_law_45 : decode mb_X11_law 45 = .ok (.iload_n 1, 1) := by decide +kernel
theorem dd_X11_law_46 : decode mb_X11_law 46 = .ok (.iconst (-1), 1) := by decide +kernel
theorem dd_X11_law_47 : decode mb_X11_law 47 = .ok (.if_icmp .ne 14, 3) := by decide +kernel
theorem dd_X11_law_61 : decode mb_X11_law 61 = .ok (.aload_n 0, 1) := by decide +kernel
theorem dd_X11_law_62 : decode mb_X11_law 62 = .ok (.bipush (-2), 2) := by decide +kernel
theorem dd_X11_law_64 : decode mb_X11_law 64 = .ok (.invokevirtual 63, 3) := by decide +kernel
theorem dd_X11_law_67 : decode mb_X11_law 67 = .ok (.pop, 1) := by decide +kernel
theorem dd_X11_law_68 : decode mb_X11_law 68 = .ok (.bipush (-20), 2) := by decide +kernel
theorem dd_X11_law_70 : decode mb_X11_law 70 = .ok (.iload_n 1, 1) := by decide +kernel
theorem dd_X11_law_71 : decode mb_X11_law 71 = .ok (.isub, 1) := by decide +kernel
theorem dd_X11_law_72 : decode mb_X11_law 72 = .ok (.ireturn, 1) := by decide +kernel
theorem dd_X12_law_0 : decode mb_X12_law 0 = .ok (.aload_n 0, 1) := by decide +kernel
theorem dd_X12_law_1 : decode mb_X12_law 1 = .ok (.getfield 142, 3) := by decide +kernel
theorem dd_X12_law_4 : decode mb_X12_law 4 = .ok (.bipush 6, 2) := by decide +kernel
theorem dd_X12_law_6 : decode mb_X12_law 6 = .ok (.if_icmp .ne 10, 3) := by decide +kernel
theorem dd_X12_law_16 : decode mb_X12_law 16 = .ok (.aload_n 0, 1) := by decide +kernel
theorem dd_X12_law_17 : decode mb_X12_law 17 = .ok (.iconst 5, 1) := by decide +kernel
theorem dd_X12_law_18 : decode mb_X12_law 18 = .ok (.aload_n 0, 1) := by decide +kernel
theorem dd_X12_law_19 : decode mb_X12_law 19 = .ok (.getfield 142, 3) := by decide +kernel
theorem dd_X12_law_22 : decode mb_X12_law 22 = .ok (.imul, 1) := by decide +kernel
theorem dd_X12_law_23 : decode mb_X12_law 23 = .ok (.invokevirtual 239, 3) := by decide +kernel
theorem dd_X12_law_26 : decode mb_X12_law 26 = .ok (.istore_n 1, 1) := by decide +kernel
theorem dd_X12_law_27 : decode mb_X12_law 27 = .ok (.aload_n 0, 1) := by decide +kernel
theorem dd_X12_law_28 : decode mb_X12_law 28 = .ok (.iconst 0, 1) := by decide +kernel
theorem dd_X12_law_29 : decode mb_X12_law 29 = .ok (.putfield 199, 3) := by decide +kernel
theorem dd_X12_law_32 : decode mb_X12_law 32 = .ok (.iload_n 1, 1) := by decide +kernel
theorem dd_X12_law_33 : decode mb_X12_law 33 = .ok (.ifCond .lt 15, 3) := by decide +kernel
theorem dd_X12_law_36 : decode mb_X12_law 36 = .ok (.aload_n 0, 1) := by decide +kernel
theorem dd_X12_law_37 : decode mb_X12_law 37 = .ok (.bipush (-2), 2) := by decide +kernel
theorem dd_X12_law_39 : decode mb_X12_law 39 = .ok (.invokevirtual 152, 3) := by decide +kernel
theorem dd_X12_law_42 : decode mb_X12_law 42 = .ok (.pop, 1) := by decide +kernel
theorem dd_X12_law_43 : decode mb_X12_law 43 = .ok (.bipush (-20), 2) := by decide +kernel
theorem dd_X12_law_45 : decode mb_X12_law 45 = .ok (.iload_n 1, 1) := by decide +kernel
theorem dd_X12_law_46 : decode mb_X12_law 46 = .ok (.isub, 1) := by decide +kernel
theorem dd_X12_law_47 : decode mb_X12_law 47 = .ok (.ireturn, 1) := by decide +kernel
theorem dd_X12_read_0 : decode mb_X12_read 0 = .ok (.aload_n 0, 1) := by decide +kernel
theorem dd_X12_read_1 : decode mb_X12_read 1 = .ok (.getfield 47, 3) := by decide +kernel
theorem dd_X12_read_4 : decode mb_X12_read 4 = .ok (.iload_n 1, 1) := by decide +kernel
theorem dd_X12_read_5 : decode mb_X12_read 5 = .ok (.bipush 100, 2) := by decide +kernel
theorem dd_X12_read_7 : decode mb_X12_read 7 = .ok (.iastore, 1) := by decide +kernel
theorem dd_X12_read_8 : decode mb_X12_read 8 = .ok (.aload_n 0, 1) := by decide +kernel
theorem dd_X12_read_9 : decode mb_X12_read 9 = .ok (.getfield 47, 3) := by decide +kernel
theorem dd_X12_read_12 : decode mb_X12_read 12 = .ok (.iload_n 1, 1) := by decide +kernel
theorem dd_X12_read_13 : decode mb_X12_read 13 = .ok (.iconst 1, 1) := by decide +kernel
theorem dd_X12_read_14 : decode mb_X12_read 14 = .ok (.iadd, 1) := by decide +kernel
theorem dd_X12_read_15 : decode mb_X12_read 15 = .ok (.bipush 50, 2) := by decide +kernel
theorem dd_X12_read_17 : decode mb_X12_read 17 = .ok (.iastore, 1) := by decide +kernel
theorem dd_X12_read_18 : decode mb_X12_read 18 = .ok (.aload_n 0, 1) := by decide +kernel
theorem dd_X12_read_19 : decode mb_X12_read 19 = .ok (.getfield 47, 3) := by decide +kernel
theorem dd_X12_read_22 : decode mb_X12_read 22 = .ok (.iload_n 1, 1) := by decide +kernel
theorem dd_X12_read_23 : decode mb_X12_read 23 = .ok (.iconst 2, 1) := by decide +kernel
theorem dd_X12_read_24 : decode mb_X12_read 24 = .ok (.iadd, 1) := by decide +kernel
theorem dd_X12_read_25 : decode mb_X12_read 25 = .ok (.iconst 1, 1) := by decide +kernel
theorem dd_X12_read_26 : decode mb_X12_read 26 = .ok (.iastore, 1) := by decide +kernel
theorem dd_X12_read_27 : decode mb_X12_read 27 = .ok (.aload_n 0, 1) := by decide +kernel
theorem dd_X12_read_28 : decode mb_X12_read 28 = .ok (.getfield 47, 3) := by decide +kernel
theorem dd_X12_read_31 : decode mb_X12_read 31 = .ok (.iload_n 1, 1) := by decide +kernel
theorem dd_X12_read_32 : decode mb_X12_read 32 = .ok (.iconst 3, 1) := by decide +kernel
theorem dd_X12_read_33 : decode mb_X12_read 33 = .ok (.iadd, 1) := by decide +kernel
theorem dd_X12_read_34 : decode mb_X12_read 34 = .ok (.iconst 0, 1) := by decide +kernel
theorem dd_X12_read_35 : decode mb_X12_read 35 = .ok (.iastore, 1) := by decide +kernel
theorem dd_X12_read_36 : decode mb_X12_read 36 = .ok (.aload_n 0, 1) := by decide +kernel
theorem dd_X12_read_37 : decode mb_X12_read 37 = .ok (.getfield 47, 3) := by decide +kernel
theorem dd_X12_read_40 : decode mb_X12_read 40 = .ok (.iload_n 1, 1) := by decide +kernel
theorem dd_X12_read_41 : decode mb_X12_read 41 = .ok (.iconst 4, 1) := by decide +kernel
theorem dd_X12_read_42 : decode mb_X12_read 42 = .ok (.iadd, 1) := by decide +kernel
theorem dd_X12_read_43 : decode mb_X12_read 43 = .ok (.sipush 999, 3) := by decide +kernel
theorem dd_X12_read_46 : decode mb_X12_read 46 = .ok (.iastore, 1) := by decide +kernel
theorem dd_X12_read_47 : decode mb_X12_read 47 = .ok (.iconst 0, 1) := by decide +kernel
theorem dd_X12_read_48 : decode mb_X12_read 48 = .ok (.istore_n 2, 1) := by decide +kernel
theorem dd_X12_read_49 : decode mb_X12_read 49 = .ok (.iconst 0, 1) := by decide +kernel
theorem dd_X12_read_50 : decode mb_X12_read 50 = .ok (.istore_n 3, 1) := by decide +kernel
theorem dd_X12_read_51 : decode mb_X12_read 51 = .ok (.iconst 0, 1) := by decide +kernel
theorem dd_X12_read_52 : decode mb_X12_read 52 = .ok (.istore 4, 2) := by decide +kernel
theorem dd_X12_read_54 : decode mb_X12_read 54 = .ok (.iload_n 2, 1) := by decide +kernel
theorem dd_X12_read_55 : decode mb_X12_read 55 = .ok (.aload_n 0, 1) := by decide +kernel
theorem dd_X12_read_56 : decode mb_X12_read 56 = .ok (.getfield 199, 3) := by decide +kernel
theorem dd_X12_read_59 : decode mb_X12_read 59 = .ok (.if_icmp .ge 20, 3) := by decide +kernel
theorem dd_X12_read_79 : decode mb_X12_read 79 = .ok (.iload_n 2, 1) := by decide +kernel
theorem dd_X12_read_80 : decode mb_X12_read 80 = .ok (.aload_n 0, 1) := by decide +kernel
theorem dd_X12_read_81 : decode mb_X12_read 81 = .ok (.getfield 199, 3) := by decide +kernel
theorem dd_X12_read_84 : decode mb_X12_read 84 = .ok (.if_icmp .ne 17, 3) := by decide +kernel
theorem dd_X12_read_87 : decode mb_X12_read 87 = .ok (.iload_n 3, 1) := by decide +kernel
theorem dd_X12_read_88 : decode mb_X12_read 88 = .ok (.iconst 2, 1) := by decide +kernel
theorem dd_X12_read_89 : decode mb_X12_read 89 = .ok (.if_icmp .ne 7, 3) := by decide +kernel
theorem dd_X12_read_96 : decode mb_X12_read 96 = .ok (.aload_n 0, 1) := by decide +kernel
theorem dd_X12_read_97 : decode mb_X12_read 97 = .ok (.getfield 199, 3) := by decide +kernel
theorem dd_X12_read_100 : decode mb_X12_read 100 = .ok (.ireturn, 1) := by decide +kernel
theorem dd_X3_clearDraft_0 : decode mb_X3_clearDraft 0 = .ok (.getstatic 36, 3) := by decide +kernel
theorem dd_X3_clearDraft_3 : decode mb_X3_clearDraft 3 = .ok (.iconst 0, 1) := by decide +kernel
theorem dd_X3_clearDraft_4 : decode mb_X3_clearDraft 4 = .ok (.aload_n 0, 1) := by decide +kernel
theorem dd_X3_clearDraft_5 : decode mb_X3_clearDraft 5 = .ok (.getfield 15, 3) := by decide +kernel
theorem dd_X3_clearDraft_8 : decode mb_X3_clearDraft 8 = .ok (.iconst 0, 1) := by decide +kernel
theorem dd_X3_clearDraft_9 : decode mb_X3_clearDraft 9 = .ok (.iconst 5, 1) := by decide +kernel
theorem dd_X3_clearDraft_10 : decode mb_X3_clearDraft 10 = .ok (.invokestatic 39, 3) := by decide +kernel
theorem dd_X3_clearDraft_13 : decode mb_X3_clearDraft 13 = .ok (.return_, 1) := by decide +kernel
theorem dd_X9_isWord_0 : decode mb_X9_isWord 0 = .ok (.aload_n 0, 1) := by decide +kernel
theorem dd_X9_isWord_1 : decode mb_X9_isWord 1 = .ok (.getfield 22, 3) := by decide +kernel
theorem dd_X9_isWord_4 : decode mb_X9_isWord 4 = .ok (.aload_n 0, 1) := by decide +kernel
theorem dd_X9_isWord_5 : decode mb_X9_isWord 5 = .ok (.getfield 19, 3) := by decide +kernel
theorem dd_X9_isWord_8 : decode mb_X9_isWord 8 = .ok (.isub, 1) := by decide +kernel
theorem dd_X9_isWord_9 : decode mb_X9_isWord 9 = .ok (.aload_n 1, 1) := by decide +kernel
theorem dd_X9_isWord_10 : decode mb_X9_isWord 10 = .ok (.invokevirtual 69, 3) := by decide +kernel
theorem dd_X9_isWord_13 : decode mb_X9_isWord 13 = .ok (.if_icmp .eq 5, 3) := by decide +kernel
theorem dd_X9_isWord_16 : decode mb_X9_isWord 16 = .ok (.iconst 0, 1) := by decide +kernel
theorem dd_X9_isWord_17 : decode mb_X9_isWord 17 = .ok (.ireturn, 1) := by decide +kernel
theorem dd_X9_partNamed_0 : decode mb_X9_partNamed 0 = .ok (.aload_n 0, 1) := by decide +kernel
theorem dd_X9_partNamed_1 : decode mb_X9_partNamed 1 = .ok (.ldc 55, 2) := by decide +kernel
theorem dd_X9_partNamed_3 : decode mb_X9_partNamed 3 = .ok (.invokevirtual 57, 3) := by decide +kernel
theorem dd_X9_partNamed_6 : decode mb_X9_partNamed 6 = .ok (.ifCond .eq 5, 3) := by decide +kernel
theorem dd_X9_partNamed_11 : decode mb_X9_partNamed 11 = .ok (.aload_n 0, 1) := by decide +kernel
theorem dd_X9_partNamed_12 : decode mb_X9_partNamed 12 = .ok (.ldc 61, 2) := by decide +kernel
theorem dd_X9_partNamed_14 : decode mb_X9_partNamed 14 = .ok (.invokevirtual 57, 3) := by decide +kernel
theorem dd_X9_partNamed_17 : decode mb_X9_partNamed 17 = .ok (.ifCond .eq 5, 3) := by decide +kernel
theorem dd_X9_partNamed_22 : decode mb_X9_partNamed 22 = .ok (.aload_n 0, 1) := by decide +kernel
theorem dd_X9_partNamed_23 : decode mb_X9_partNamed 23 = .ok (.ldc 63, 2) := by decide +kernel
theorem dd_X9_partNamed_25 : decode mb_X9_partNamed 25 = .ok (.invokevirtual 57, 3) := by decide +kernel
theorem dd_X9_partNamed_28 : decode mb_X9_partNamed 28 = .ok (.ifCond .eq 5, 3) := by decide +kernel
theorem dd_X9_partNamed_33 : decode mb_X9_partNamed 33 = .ok (.aload_n 0, 1) := by decide +kernel
theorem dd_X9_partNamed_34 : decode mb_X9_partNamed 34 = .ok (.ldc 65, 2) := by decide +kernel
theorem dd_X9_partNamed_36 : decode mb_X9_partNamed 36 = .ok (.invokevirtual 57, 3) := by decide +kernel
theorem dd_X9_partNamed_39 : decode mb_X9_partNamed 39 = .ok (.ifCond .eq 5, 3) := by decide +kernel
theorem dd_X9_partNamed_44 : decode mb_X9_partNamed 44 = .ok (.aload_n 0, 1) := by decide +kernel
theorem dd_X9_partNamed_45 : decode mb_X9_partNamed 45 = .ok (.ldc 67, 2) := by decide +kernel
theorem dd_X9_partNamed_47 : decode mb_X9_partNamed 47 = .ok (.invokevirtual 57, 3) := by decide +kernel
theorem dd_X9_partNamed_50 : decode mb_X9_partNamed 50 = .ok (.ifCond .eq 7, 3) := by decide +kernel
theorem dd_X9_partNamed_57 : decode mb_X9_partNamed 57 = .ok (.iconst (-1), 1) := by decide +kernel
theorem dd_X9_partNamed_58 : decode mb_X9_partNamed 58 = .ok (.ireturn, 1) := by decide +kernel
theorem dd_X9_readInto_0 : decode mb_X9_readInto 0 = .ok (.aload_n 1, 1) := by decide +kernel
theorem dd_X9_readInto_1 : decode mb_X9_readInto 1 = .ok (.invokevirtual 25, 3) := by decide +kernel
theorem dd_X9_readInto_4 : decode mb_X9_readInto 4 = .ok (.aload_n 0, 1) := by decide +kernel
theorem dd_X9_readInto_5 : decode mb_X9_readInto 5 = .ok (.iconst 0, 1) := by decide +kernel
theorem dd_X9_readInto_6 : decode mb_X9_readInto 6 = .ok (.putfield 19, 3) := by decide +kernel
theorem dd_X9_readInto_9 : decode mb_X9_readInto 9 = .ok (.aload_n 0, 1) := by decide +kernel
theorem dd_X9_readInto_10 : decode mb_X9_readInto 10 = .ok (.iconst 0, 1) := by decide +kernel
theorem dd_X9_readInto_11 : decode mb_X9_readInto 11 = .ok (.putfield 22, 3) := by decide +kernel
theorem dd_X9_readInto_14 : decode mb_X9_readInto 14 = .ok (.iconst 0, 1) := by decide +kernel
theorem dd_X9_readInto_15 : decode mb_X9_readInto 15 = .ok (.istore_n 2, 1) := by decide +kernel
theorem dd_X9_readInto_16 : decode mb_X9_readInto 16 = .ok (.iload_n 2, 1) := by decide +kernel
theorem dd_X9_readInto_17 : decode mb_X9_readInto 17 = .ok (.aload_n 0, 1) := by decide +kernel
theorem dd_X9_readInto_18 : decode mb_X9_readInto 18 = .ok (.getfield 15, 3) := by decide +kernel
theorem dd_X9_readInto_21 : decode mb_X9_readInto 21 = .ok (.if_icmp .gt 96, 3) := by decide +kernel
theorem dd_X9_readInto_24 : decode mb_X9_readInto 24 = .ok (.aload_n 0, 1) := by decide +kernel
theorem dd_X9_readInto_25 : decode mb_X9_readInto 25 = .ok (.invokevirtual 30, 3) := by decide +kernel
theorem dd_X9_readInto_28 : decode mb_X9_readInto 28 = .ok (.aload_n 0, 1) := by decide +kernel
theorem dd_X9_readInto_29 : decode mb_X9_readInto 29 = .ok (.invokevirtual 33, 3) := by decide +kernel
theorem dd_X9_readInto_32 : decode mb_X9_readInto 32 = .ok (.istore_n 3, 1) := by decide +kernel
theorem dd_X9_readInto_33 : decode mb_X9_readInto 33 = .ok (.iload_n 3, 1) := by decide +kernel
theorem dd_X9_readInto_34 : decode mb_X9_readInto 34 = .ok (.iconst (-1), 1) := by decide +kernel
theorem dd_X9_readInto_35 : decode mb_X9_readInto 35 = .ok (.if_icmp .ne 8, 3) := by decide +kernel
theorem dd_X9_readInto_38 : decode mb_X9_readInto 38 = .ok (.aload_n 0, 1) := by decide +kernel
theorem dd_X9_readInto_39 : decode mb_X9_readInto 39 = .ok (.getfield 19, 3) := by decide +kernel
theorem dd_X9_readInto_42 : decode mb_X9_readInto 42 = .ok (.ireturn, 1) := by decide +kernel
theorem dd_X9_step_0 : decode mb_X9_step 0 = .ok (.aload_n 0, 1) := by decide +kernel
theorem dd_X9_step_1 : decode mb_X9_step 1 = .ok (.aload_n 0, 1) := by decide +kernel
theorem dd_X9_step_2 : decode mb_X9_step 2 = .ok (.getfield 22, 3) := by decide +kernel
theorem dd_X9_step_5 : decode mb_X9_step 5 = .ok (.putfield 19, 3) := by decide +kernel
theorem dd_X9_step_8 : decode mb_X9_step 8 = .ok (.aload_n 0, 1) := by decide +kernel
theorem dd_X9_step_9 : decode mb_X9_step 9 = .ok (.getfield 19, 3) := by decide +kernel
theorem dd_X9_step_12 : decode mb_X9_step 12 = .ok (.aload_n 0, 1) := by decide +kernel
theorem dd_X9_step_13 : decode mb_X9_step 13 = .ok (.getfield 15, 3) := by decide +kernel
theorem dd_X9_step_16 : decode mb_X9_step 16 = .ok (.if_icmp .ge 30, 3) := by decide +kernel
theorem dd_X9_step_46 : decode mb_X9_step 46 = .ok (.aload_n 0, 1) := by decide +kernel
theorem dd_X9_step_47 : decode mb_X9_step 47 = .ok (.aload_n 0, 1) := by decide +kernel
theorem dd_X9_step_48 : decode mb_X9_step 48 = .ok (.getfield 19, 3) := by decide +kernel
theorem dd_X9_step_51 : decode mb_X9_step 51 = .ok (.putfield 22, 3) := by decide +kernel
theorem dd_X9_step_54 : decode mb_X9_step 54 = .ok (.aload_n 0, 1) := by decide +kernel
theorem dd_X9_step_55 : decode mb_X9_step 55 = .ok (.getfield 22, 3) := by decide +kernel
theorem dd_X9_step_58 : decode mb_X9_step 58 = .ok (.aload_n 0, 1) := by decide +kernel
theorem dd_X9_step_59 : decode mb_X9_step 59 = .ok (.getfield 15, 3) := by decide +kernel
theorem dd_X9_step_62 : decode mb_X9_step 62 = .ok (.if_icmp .ge 31, 3) := by decide +kernel
theorem dd_X9_step_93 : decode mb_X9_step 93 = .ok (.aload_n 0, 1) := by decide +kernel
theorem dd_X9_step_94 : decode mb_X9_step 94 = .ok (.getfield 22, 3) := by decide +kernel
theorem dd_X9_step_97 : decode mb_X9_step 97 = .ok (.aload_n 0, 1) := by decide +kernel
theorem dd_X9_step_98 : decode mb_X9_step 98 = .ok (.getfield 19, 3) := by decide +kernel
theorem dd_X9_step_101 : decode mb_X9_step 101 = .ok (.if_icmp .le 4, 3) := by decide +kernel
theorem dd_X9_step_105 : decode mb_X9_step 105 = .ok (.aload_n 0, 1) := by decide +kernel
theorem dd_X9_step_106 : decode mb_X9_step 106 = .ok (.getfield 22, 3) := by decide +kernel
theorem dd_X9_step_109 : decode mb_X9_step 109 = .ok (.aload_n 0, 1) := by decide +kernel
theorem dd_X9_step_110 : decode mb_X9_step 110 = .ok (.getfield 15, 3) := by decide +kernel
theorem dd_X9_step_113 : decode mb_X9_step 113 = .ok (.if_icmp .ge 31, 3) := by decide +kernel
theorem dd_X9_step_144 : decode mb_X9_step 144 = .ok (.aload_n 0, 1) := by decide +kernel
theorem dd_X9_step_145 : decode mb_X9_step 145 = .ok (.getfield 22, 3) := by decide +kernel
theorem dd_X9_step_148 : decode mb_X9_step 148 = .ok (.aload_n 0, 1) := by decide +kernel
theorem dd_X9_step_149 : decode mb_X9_step 149 = .ok (.getfield 19, 3) := by decide +kernel
theorem dd_X9_step_152 : decode mb_X9_step 152 = .ok (.if_icmp .ne 24, 3) := by decide +kernel
theorem dd_X9_step_155 : decode mb_X9_step 155 = .ok (.aload_n 0, 1) := by decide +kernel
theorem dd_X9_step_156 : decode mb_X9_step 156 = .ok (.getfield 22, 3) := by decide +kernel
theorem dd_X9_step_159 : decode mb_X9_step 159 = .ok (.aload_n 0, 1) := by decide +kernel
theorem dd_X9_step_160 : decode mb_X9_step 160 = .ok (.getfield 15, 3) := by decide +kernel
theorem dd_X9_step_163 : decode mb_X9_step 163 = .ok (.if_icmp .ge 13, 3) := by decide +kernel
theorem dd_X9_step_176 : decode mb_X9_step 176 = .ok (.return_, 1) := by decide +kernel
theorem ws_X_193 : WV "WhiteElephants" 193 my_X9_readInto mb_X9_readInto 5 ((some .int)) := ⟨kk_602, kk_603, kk_604, kk_2, kk_605⟩
theorem ws_Tape_25 : WV "WhiteElephants$Tape" 25 my_X3_clearDraft mb_X3_clearDraft 1 ((none : Option Jvm.ClassFile.FieldType)) := ⟨kk_606, kk_607, kk_608, kk_6, kk_609⟩
theorem ws_Tape_30 : WV "WhiteElephants$Tape" 30 my_X9_step mb_X9_step 1 ((none : Option Jvm.ClassFile.FieldType)) := ⟨kk_613, kk_615, (bw_at 6 (by decide +kernel) rfl), kk_2, kk_616⟩
theorem ws_Tape_33 : WV "WhiteElephants$Tape" 33 my_X9_partNamed mb_X9_partNamed 1 ((some .int)) := ⟨kk_623, kk_625, (bw_at 7 (by decide +kernel) rfl), kk_2, kk_626⟩
theorem ws_Tape_57 : WV "WhiteElephants$Tape" 57 my_X9_isWord mb_X9_isWord 3 ((some .boolean)) := ⟨kk_628, kk_630, (bw_at 8 (by decide +kernel) rfl), kk_2, kk_631⟩
theorem ws_Tape_69 : WV "WhiteElephants$Tape" 69 my_J0_length_8abf5 mb_J0_length_8abf5 1 ((some .int)) := ⟨kk_632, kk_633, kk_634, kk_18, kk_635⟩
theorem ws_M_239 : WV "WhiteElephantsModel" 239 my_X12_read mb_X12_read 7 ((some .int)) := ⟨kk_1378, kk_1380, (bw_at 37 (by decide +kernel) rfl), kk_13, kk_1381⟩
theorem ws_String_335 : WV "java/lang/String" 335 my_J0_coder_7d493 mb_J0_coder_7d493 1 ((some .byte)) := ⟨kk_636, kk_637, kk_638, kk_18, kk_639⟩
