section
-- ===== PART A: goes FIRST, ahead of the names: the tables' words, and 'selects' of the private methods out of them =====
/-- a private method of a class that the tables say can be made, by its rows of tables_1 -/
def lw_okq (q : MethodName × Nat) : Prop := (q.1.cls ≠ "java/lang/invoke/MethodHandle" ∧ q.1.cls ≠ "java/lang/invoke/VarHandle") ∧ Cond.instantiable q.1.cls q.2 ∈ tables_1 ∧ Cond.privateMethod q.1 ∈ tables_1 ∧ Cond.instanceMethod q.1 ∈ tables_1
theorem lw_p0 : lw_okq (⟨"WhiteElephants", "refuse", "(I)I"⟩, 8) := ⟨⟨by decide +kernel, by decide +kernel⟩, List.mem_of_getElem? (i := 23) (by decide +kernel), List.mem_of_getElem? (i := 418) (by decide +kernel), List.mem_of_getElem? (i := 419) (by decide +kernel)⟩
theorem lw_p1 : lw_okq (⟨"WhiteElephants", "refusalOfRow", "(I)I"⟩, 8) := ⟨⟨by decide +kernel, by decide +kernel⟩, List.mem_of_getElem? (i := 23) (by decide +kernel), List.mem_of_getElem? (i := 433) (by decide +kernel), List.mem_of_getElem? (i := 434) (by decide +kernel)⟩
theorem lw_p2 : lw_okq (⟨"WhiteElephants$Shelf", "cutToSort", "(J)J"⟩, 3) := ⟨⟨by decide +kernel, by decide +kernel⟩, List.mem_of_getElem? (i := 363) (by decide +kernel), List.mem_of_getElem? (i := 454) (by decide +kernel), List.mem_of_getElem? (i := 455) (by decide +kernel)⟩
theorem lw_p3 : lw_okq (⟨"WhiteElephants$Things", "lidWorth", "(I)I"⟩, 8) := ⟨⟨by decide +kernel, by decide +kernel⟩, List.mem_of_getElem? (i := 61) (by decide +kernel), List.mem_of_getElem? (i := 517) (by decide +kernel), List.mem_of_getElem? (i := 518) (by decide +kernel)⟩
theorem lw_p4 : lw_okq (⟨"WhiteElephants$Things", "chinaWorth", "(I)I"⟩, 8) := ⟨⟨by decide +kernel, by decide +kernel⟩, List.mem_of_getElem? (i := 61) (by decide +kernel), List.mem_of_getElem? (i := 528) (by decide +kernel), List.mem_of_getElem? (i := 529) (by decide +kernel)⟩
theorem lw_p5 : lw_okq (⟨"WhiteElephants$Things", "asVase", "(II)I"⟩, 8) := ⟨⟨by decide +kernel, by decide +kernel⟩, List.mem_of_getElem? (i := 61) (by decide +kernel), List.mem_of_getElem? (i := 532) (by decide +kernel), List.mem_of_getElem? (i := 533) (by decide +kernel)⟩
theorem lw_p6 : lw_okq (⟨"WhiteElephants$Tape", "step", "()V"⟩, 4) := ⟨⟨by decide +kernel, by decide +kernel⟩, List.mem_of_getElem? (i := 33) (by decide +kernel), List.mem_of_getElem? (i := 614) (by decide +kernel), List.mem_of_getElem? (i := 615) (by decide +kernel)⟩
theorem lw_p7 : lw_okq (⟨"WhiteElephants$Tape", "partNamed", "()I"⟩, 4) := ⟨⟨by decide +kernel, by decide +kernel⟩, List.mem_of_getElem? (i := 33) (by decide +kernel), List.mem_of_getElem? (i := 624) (by decide +kernel), List.mem_of_getElem? (i := 625) (by decide +kernel)⟩
theorem lw_p8 : lw_okq (⟨"WhiteElephants$Tape", "isWord", "(Ljava/lang/String;)Z"⟩, 4) := ⟨⟨by decide +kernel, by decide +kernel⟩, List.mem_of_getElem? (i := 33) (by decide +kernel), List.mem_of_getElem? (i := 629) (by decide +kernel), List.mem_of_getElem? (i := 630) (by decide +kernel)⟩
theorem lw_p9 : lw_okq (⟨"WhiteElephants$Tape", "number", "()I"⟩, 4) := ⟨⟨by decide +kernel, by decide +kernel⟩, List.mem_of_getElem? (i := 33) (by decide +kernel), List.mem_of_getElem? (i := 685) (by decide +kernel), List.mem_of_getElem? (i := 686) (by decide +kernel)⟩
theorem lw_p10 : lw_okq (⟨"WhiteElephants$Hall", "priceOf", "(III)I"⟩, 14) := ⟨⟨by decide +kernel, by decide +kernel⟩, List.mem_of_getElem? (i := 55) (by decide +kernel), List.mem_of_getElem? (i := 718) (by decide +kernel), List.mem_of_getElem? (i := 719) (by decide +kernel)⟩
theorem lw_p11 : lw_okq (⟨"WhiteElephants$Sale", "placeWanted", "(LWhiteElephants$Hall;II)I"⟩, 9) := ⟨⟨by decide +kernel, by decide +kernel⟩, List.mem_of_getElem? (i := 317) (by decide +kernel), List.mem_of_getElem? (i := 804) (by decide +kernel), List.mem_of_getElem? (i := 805) (by decide +kernel)⟩
theorem lw_p12 : lw_okq (⟨"WhiteElephants$Sale", "sell", "(III)I"⟩, 9) := ⟨⟨by decide +kernel, by decide +kernel⟩, List.mem_of_getElem? (i := 317) (by decide +kernel), List.mem_of_getElem? (i := 823) (by decide +kernel), List.mem_of_getElem? (i := 824) (by decide +kernel)⟩
theorem lw_p13 : lw_okq (⟨"WhiteElephants$Picks", "addBargain", "(IIII)V"⟩, 2) := ⟨⟨by decide +kernel, by decide +kernel⟩, List.mem_of_getElem? (i := 351) (by decide +kernel), List.mem_of_getElem? (i := 892) (by decide +kernel), List.mem_of_getElem? (i := 893) (by decide +kernel)⟩
theorem lw_p14 : lw_okq (⟨"WhiteElephants$Hall", "bestLady", "(II)I"⟩, 14) := ⟨⟨by decide +kernel, by decide +kernel⟩, List.mem_of_getElem? (i := 55) (by decide +kernel), List.mem_of_getElem? (i := 910) (by decide +kernel), List.mem_of_getElem? (i := 911) (by decide +kernel)⟩
theorem lw_p15 : lw_okq (⟨"WhiteElephants$Hall", "lostWith", "(III)I"⟩, 14) := ⟨⟨by decide +kernel, by decide +kernel⟩, List.mem_of_getElem? (i := 55) (by decide +kernel), List.mem_of_getElem? (i := 914) (by decide +kernel), List.mem_of_getElem? (i := 915) (by decide +kernel)⟩
def lw_privs_1 : List (MethodName × Nat) := [(⟨"WhiteElephants", "refuse", "(I)I"⟩, 8), (⟨"WhiteElephants", "refusalOfRow", "(I)I"⟩, 8), (⟨"WhiteElephants$Shelf", "cutToSort", "(J)J"⟩, 3), (⟨"WhiteElephants$Things", "lidWorth", "(I)I"⟩, 8), (⟨"WhiteElephants$Things", "chinaWorth", "(I)I"⟩, 8), (⟨"WhiteElephants$Things", "asVase", "(II)I"⟩, 8), (⟨"WhiteElephants$Tape", "step", "()V"⟩, 4), (⟨"WhiteElephants$Tape", "partNamed", "()I"⟩, 4), (⟨"WhiteElephants$Tape", "isWord", "(Ljava/lang/String;)Z"⟩, 4), (⟨"WhiteElephants$Tape", "number", "()I"⟩, 4), (⟨"WhiteElephants$Hall", "priceOf", "(III)I"⟩, 14), (⟨"WhiteElephants$Sale", "placeWanted", "(LWhiteElephants$Hall;II)I"⟩, 9), (⟨"WhiteElephants$Sale", "sell", "(III)I"⟩, 9), (⟨"WhiteElephants$Picks", "addBargain", "(IIII)V"⟩, 2), (⟨"WhiteElephants$Hall", "bestLady", "(II)I"⟩, 14), (⟨"WhiteElephants$Hall", "lostWith", "(III)I"⟩, 14)]
theorem lw_r1 : ∀ q ∈ lw_privs_1, lw_okq q := List.forall_mem_cons.mpr ⟨lw_p0, List.forall_mem_cons.mpr ⟨lw_p1, List.forall_mem_cons.mpr ⟨lw_p2, List.forall_mem_cons.mpr ⟨lw_p3, List.forall_mem_cons.mpr ⟨lw_p4, List.forall_mem_cons.mpr ⟨lw_p5, List.forall_mem_cons.mpr ⟨lw_p6, List.forall_mem_cons.mpr ⟨lw_p7, List.forall_mem_cons.mpr ⟨lw_p8, List.forall_mem_cons.mpr ⟨lw_p9, List.forall_mem_cons.mpr ⟨lw_p10, List.forall_mem_cons.mpr ⟨lw_p11, List.forall_mem_cons.mpr ⟨lw_p12, List.forall_mem_cons.mpr ⟨lw_p13, List.forall_mem_cons.mpr ⟨lw_p14, List.forall_mem_cons.mpr ⟨lw_p15, fun _ h => absurd h List.not_mem_nil⟩⟩⟩⟩⟩⟩⟩⟩⟩⟩⟩⟩⟩⟩⟩⟩
theorem lw_p16 : lw_okq (⟨"WhiteElephants$Sightings", "longestBefore", "(I)I"⟩, 8) := ⟨⟨by decide +kernel, by decide +kernel⟩, List.mem_of_getElem? (i := 191) (by decide +kernel), List.mem_of_getElem? (i := 972) (by decide +kernel), List.mem_of_getElem? (i := 973) (by decide +kernel)⟩
theorem lw_p17 : lw_okq (⟨"WhiteElephants$Secrets", "findHidden", "()V"⟩, 9) := ⟨⟨by decide +kernel, by decide +kernel⟩, List.mem_of_getElem? (i := 223) (by decide +kernel), List.mem_of_getElem? (i := 997) (by decide +kernel), List.mem_of_getElem? (i := 998) (by decide +kernel)⟩
theorem lw_p18 : lw_okq (⟨"WhiteElephants$Secrets", "canLie", "(I)Z"⟩, 9) := ⟨⟨by decide +kernel, by decide +kernel⟩, List.mem_of_getElem? (i := 223) (by decide +kernel), List.mem_of_getElem? (i := 1002) (by decide +kernel), List.mem_of_getElem? (i := 1003) (by decide +kernel)⟩
theorem lw_p19 : lw_okq (⟨"WhiteElephants$Secrets", "firstTable", "(I)I"⟩, 9) := ⟨⟨by decide +kernel, by decide +kernel⟩, List.mem_of_getElem? (i := 223) (by decide +kernel), List.mem_of_getElem? (i := 1007) (by decide +kernel), List.mem_of_getElem? (i := 1008) (by decide +kernel)⟩
theorem lw_p20 : lw_okq (⟨"WhiteElephants$Picks", "addPaid", "(III)V"⟩, 2) := ⟨⟨by decide +kernel, by decide +kernel⟩, List.mem_of_getElem? (i := 351) (by decide +kernel), List.mem_of_getElem? (i := 1025) (by decide +kernel), List.mem_of_getElem? (i := 1026) (by decide +kernel)⟩
theorem lw_p21 : lw_okq (⟨"WhiteElephants$Things", "dearestUnshared", "(I)I"⟩, 8) := ⟨⟨by decide +kernel, by decide +kernel⟩, List.mem_of_getElem? (i := 61) (by decide +kernel), List.mem_of_getElem? (i := 1042) (by decide +kernel), List.mem_of_getElem? (i := 1043) (by decide +kernel)⟩
theorem lw_p22 : lw_okq (⟨"WhiteElephants", "shelvesInUse", "()I"⟩, 8) := ⟨⟨by decide +kernel, by decide +kernel⟩, List.mem_of_getElem? (i := 23) (by decide +kernel), List.mem_of_getElem? (i := 1092) (by decide +kernel), List.mem_of_getElem? (i := 1093) (by decide +kernel)⟩
theorem lw_p23 : lw_okq (⟨"WhiteElephantsModel", "isShelf", "(I)Z"⟩, 51) := ⟨⟨by decide +kernel, by decide +kernel⟩, List.mem_of_getElem? (i := 1096) (by decide +kernel), List.mem_of_getElem? (i := 1261) (by decide +kernel), List.mem_of_getElem? (i := 1262) (by decide +kernel)⟩
theorem lw_p24 : lw_okq (⟨"WhiteElephantsModel", "no", "(I)I"⟩, 51) := ⟨⟨by decide +kernel, by decide +kernel⟩, List.mem_of_getElem? (i := 1096) (by decide +kernel), List.mem_of_getElem? (i := 1265) (by decide +kernel), List.mem_of_getElem? (i := 1266) (by decide +kernel)⟩
theorem lw_p25 : lw_okq (⟨"WhiteElephantsModel", "noRow", "(I)I"⟩, 51) := ⟨⟨by decide +kernel, by decide +kernel⟩, List.mem_of_getElem? (i := 1096) (by decide +kernel), List.mem_of_getElem? (i := 1273) (by decide +kernel), List.mem_of_getElem? (i := 1274) (by decide +kernel)⟩
theorem lw_p26 : lw_okq (⟨"WhiteElephantsModel", "holdsThing", "(I)Z"⟩, 51) := ⟨⟨by decide +kernel, by decide +kernel⟩, List.mem_of_getElem? (i := 1096) (by decide +kernel), List.mem_of_getElem? (i := 1277) (by decide +kernel), List.mem_of_getElem? (i := 1278) (by decide +kernel)⟩
theorem lw_p27 : lw_okq (⟨"WhiteElephantsModel", "isRow", "(I)Z"⟩, 51) := ⟨⟨by decide +kernel, by decide +kernel⟩, List.mem_of_getElem? (i := 1096) (by decide +kernel), List.mem_of_getElem? (i := 1285) (by decide +kernel), List.mem_of_getElem? (i := 1286) (by decide +kernel)⟩
theorem lw_p28 : lw_okq (⟨"WhiteElephantsModel", "isThing", "(I)Z"⟩, 51) := ⟨⟨by decide +kernel, by decide +kernel⟩, List.mem_of_getElem? (i := 1096) (by decide +kernel), List.mem_of_getElem? (i := 1301) (by decide +kernel), List.mem_of_getElem? (i := 1302) (by decide +kernel)⟩
theorem lw_p29 : lw_okq (⟨"WhiteElephantsModel", "isKind", "(I)Z"⟩, 51) := ⟨⟨by decide +kernel, by decide +kernel⟩, List.mem_of_getElem? (i := 1096) (by decide +kernel), List.mem_of_getElem? (i := 1309) (by decide +kernel), List.mem_of_getElem? (i := 1310) (by decide +kernel)⟩
theorem lw_p30 : lw_okq (⟨"WhiteElephantsModel", "isUnder", "(II)Z"⟩, 51) := ⟨⟨by decide +kernel, by decide +kernel⟩, List.mem_of_getElem? (i := 1096) (by decide +kernel), List.mem_of_getElem? (i := 1313) (by decide +kernel), List.mem_of_getElem? (i := 1314) (by decide +kernel)⟩
theorem lw_p31 : lw_okq (⟨"WhiteElephantsModel", "trueWorth", "(I)I"⟩, 51) := ⟨⟨by decide +kernel, by decide +kernel⟩, List.mem_of_getElem? (i := 1096) (by decide +kernel), List.mem_of_getElem? (i := 1317) (by decide +kernel), List.mem_of_getElem? (i := 1318) (by decide +kernel)⟩
def lw_privs_2 : List (MethodName × Nat) := [(⟨"WhiteElephants$Sightings", "longestBefore", "(I)I"⟩, 8), (⟨"WhiteElephants$Secrets", "findHidden", "()V"⟩, 9), (⟨"WhiteElephants$Secrets", "canLie", "(I)Z"⟩, 9), (⟨"WhiteElephants$Secrets", "firstTable", "(I)I"⟩, 9), (⟨"WhiteElephants$Picks", "addPaid", "(III)V"⟩, 2), (⟨"WhiteElephants$Things", "dearestUnshared", "(I)I"⟩, 8), (⟨"WhiteElephants", "shelvesInUse", "()I"⟩, 8), (⟨"WhiteElephantsModel", "isShelf", "(I)Z"⟩, 51), (⟨"WhiteElephantsModel", "no", "(I)I"⟩, 51), (⟨"WhiteElephantsModel", "noRow", "(I)I"⟩, 51), (⟨"WhiteElephantsModel", "holdsThing", "(I)Z"⟩, 51), (⟨"WhiteElephantsModel", "isRow", "(I)Z"⟩, 51), (⟨"WhiteElephantsModel", "isThing", "(I)Z"⟩, 51), (⟨"WhiteElephantsModel", "isKind", "(I)Z"⟩, 51), (⟨"WhiteElephantsModel", "isUnder", "(II)Z"⟩, 51), (⟨"WhiteElephantsModel", "trueWorth", "(I)I"⟩, 51)]
theorem lw_r2 : ∀ q ∈ lw_privs_2, lw_okq q := List.forall_mem_cons.mpr ⟨lw_p16, List.forall_mem_cons.mpr ⟨lw_p17, List.forall_mem_cons.mpr ⟨lw_p18, List.forall_mem_cons.mpr ⟨lw_p19, List.forall_mem_cons.mpr ⟨lw_p20, List.forall_mem_cons.mpr ⟨lw_p21, List.forall_mem_cons.mpr ⟨lw_p22, List.forall_mem_cons.mpr ⟨lw_p23, List.forall_mem_cons.mpr ⟨lw_p24, List.forall_mem_cons.mpr ⟨lw_p25, List.forall_mem_cons.mpr ⟨lw_p26, List.forall_mem_cons.mpr ⟨lw_p27, List.forall_mem_cons.mpr ⟨lw_p28, List.forall_mem_cons.mpr ⟨lw_p29, List.forall_mem_cons.mpr ⟨lw_p30, List.forall_mem_cons.mpr ⟨lw_p31, fun _ h => absurd h List.not_mem_nil⟩⟩⟩⟩⟩⟩⟩⟩⟩⟩⟩⟩⟩⟩⟩⟩
theorem lw_p32 : lw_okq (⟨"WhiteElephantsModel", "chipsOf", "(I)I"⟩, 51) := ⟨⟨by decide +kernel, by decide +kernel⟩, List.mem_of_getElem? (i := 1096) (by decide +kernel), List.mem_of_getElem? (i := 1321) (by decide +kernel), List.mem_of_getElem? (i := 1322) (by decide +kernel)⟩
theorem lw_p33 : lw_okq (⟨"WhiteElephantsModel", "isOf", "(II)Z"⟩, 51) := ⟨⟨by decide +kernel, by decide +kernel⟩, List.mem_of_getElem? (i := 1096) (by decide +kernel), List.mem_of_getElem? (i := 1325) (by decide +kernel), List.mem_of_getElem? (i := 1326) (by decide +kernel)⟩
theorem lw_p34 : lw_okq (⟨"WhiteElephantsModel", "areKinds", "(I)Z"⟩, 51) := ⟨⟨by decide +kernel, by decide +kernel⟩, List.mem_of_getElem? (i := 1096) (by decide +kernel), List.mem_of_getElem? (i := 1351) (by decide +kernel), List.mem_of_getElem? (i := 1352) (by decide +kernel)⟩
theorem lw_p35 : lw_okq (⟨"WhiteElephantsModel", "isLady", "(I)Z"⟩, 51) := ⟨⟨by decide +kernel, by decide +kernel⟩, List.mem_of_getElem? (i := 1096) (by decide +kernel), List.mem_of_getElem? (i := 1359) (by decide +kernel), List.mem_of_getElem? (i := 1360) (by decide +kernel)⟩
theorem lw_p36 : lw_okq (⟨"WhiteElephantsModel", "isLaw", "(I)Z"⟩, 51) := ⟨⟨by decide +kernel, by decide +kernel⟩, List.mem_of_getElem? (i := 1096) (by decide +kernel), List.mem_of_getElem? (i := 1363) (by decide +kernel), List.mem_of_getElem? (i := 1364) (by decide +kernel)⟩
theorem lw_p37 : lw_okq (⟨"WhiteElephantsModel", "read", "(I)I"⟩, 51) := ⟨⟨by decide +kernel, by decide +kernel⟩, List.mem_of_getElem? (i := 1096) (by decide +kernel), List.mem_of_getElem? (i := 1379) (by decide +kernel), List.mem_of_getElem? (i := 1380) (by decide +kernel)⟩
theorem lw_p38 : lw_okq (⟨"WhiteElephantsModel", "isLetter", "(I)Z"⟩, 51) := ⟨⟨by decide +kernel, by decide +kernel⟩, List.mem_of_getElem? (i := 1096) (by decide +kernel), List.mem_of_getElem? (i := 1383) (by decide +kernel), List.mem_of_getElem? (i := 1384) (by decide +kernel)⟩
theorem lw_p39 : lw_okq (⟨"WhiteElephantsModel", "wordAt", "(II)I"⟩, 51) := ⟨⟨by decide +kernel, by decide +kernel⟩, List.mem_of_getElem? (i := 1096) (by decide +kernel), List.mem_of_getElem? (i := 1387) (by decide +kernel), List.mem_of_getElem? (i := 1388) (by decide +kernel)⟩
theorem lw_p40 : lw_okq (⟨"WhiteElephantsModel", "is", "(IILjava/lang/String;)Z"⟩, 51) := ⟨⟨by decide +kernel, by decide +kernel⟩, List.mem_of_getElem? (i := 1096) (by decide +kernel), List.mem_of_getElem? (i := 1392) (by decide +kernel), List.mem_of_getElem? (i := 1393) (by decide +kernel)⟩
theorem lw_p41 : lw_okq (⟨"WhiteElephantsModel", "isDigit", "(I)Z"⟩, 51) := ⟨⟨by decide +kernel, by decide +kernel⟩, List.mem_of_getElem? (i := 1096) (by decide +kernel), List.mem_of_getElem? (i := 1402) (by decide +kernel), List.mem_of_getElem? (i := 1403) (by decide +kernel)⟩
theorem lw_p42 : lw_okq (⟨"WhiteElephantsModel", "mayBe", "(II)Z"⟩, 51) := ⟨⟨by decide +kernel, by decide +kernel⟩, List.mem_of_getElem? (i := 1096) (by decide +kernel), List.mem_of_getElem? (i := 1406) (by decide +kernel), List.mem_of_getElem? (i := 1407) (by decide +kernel)⟩
theorem lw_p43 : lw_okq (⟨"WhiteElephantsModel", "lostBy", "(II)I"⟩, 51) := ⟨⟨by decide +kernel, by decide +kernel⟩, List.mem_of_getElem? (i := 1096) (by decide +kernel), List.mem_of_getElem? (i := 1418) (by decide +kernel), List.mem_of_getElem? (i := 1419) (by decide +kernel)⟩
theorem lw_p44 : lw_okq (⟨"WhiteElephantsModel", "priceBy", "(II)I"⟩, 51) := ⟨⟨by decide +kernel, by decide +kernel⟩, List.mem_of_getElem? (i := 1096) (by decide +kernel), List.mem_of_getElem? (i := 1422) (by decide +kernel), List.mem_of_getElem? (i := 1423) (by decide +kernel)⟩
theorem lw_p45 : lw_okq (⟨"WhiteElephantsModel", "isHour", "(I)Z"⟩, 51) := ⟨⟨by decide +kernel, by decide +kernel⟩, List.mem_of_getElem? (i := 1096) (by decide +kernel), List.mem_of_getElem? (i := 1438) (by decide +kernel), List.mem_of_getElem? (i := 1439) (by decide +kernel)⟩
theorem lw_p46 : lw_okq (⟨"WhiteElephantsModel", "isBuyer", "(I)Z"⟩, 51) := ⟨⟨by decide +kernel, by decide +kernel⟩, List.mem_of_getElem? (i := 1096) (by decide +kernel), List.mem_of_getElem? (i := 1446) (by decide +kernel), List.mem_of_getElem? (i := 1447) (by decide +kernel)⟩
theorem lw_p47 : lw_okq (⟨"WhiteElephantsModel", "costIn", "(IIII)I"⟩, 51) := ⟨⟨by decide +kernel, by decide +kernel⟩, List.mem_of_getElem? (i := 1096) (by decide +kernel), List.mem_of_getElem? (i := 1458) (by decide +kernel), List.mem_of_getElem? (i := 1459) (by decide +kernel)⟩
def lw_privs_3 : List (MethodName × Nat) := [(⟨"WhiteElephantsModel", "chipsOf", "(I)I"⟩, 51), (⟨"WhiteElephantsModel", "isOf", "(II)Z"⟩, 51), (⟨"WhiteElephantsModel", "areKinds", "(I)Z"⟩, 51), (⟨"WhiteElephantsModel", "isLady", "(I)Z"⟩, 51), (⟨"WhiteElephantsModel", "isLaw", "(I)Z"⟩, 51), (⟨"WhiteElephantsModel", "read", "(I)I"⟩, 51), (⟨"WhiteElephantsModel", "isLetter", "(I)Z"⟩, 51), (⟨"WhiteElephantsModel", "wordAt", "(II)I"⟩, 51), (⟨"WhiteElephantsModel", "is", "(IILjava/lang/String;)Z"⟩, 51), (⟨"WhiteElephantsModel", "isDigit", "(I)Z"⟩, 51), (⟨"WhiteElephantsModel", "mayBe", "(II)Z"⟩, 51), (⟨"WhiteElephantsModel", "lostBy", "(II)I"⟩, 51), (⟨"WhiteElephantsModel", "priceBy", "(II)I"⟩, 51), (⟨"WhiteElephantsModel", "isHour", "(I)Z"⟩, 51), (⟨"WhiteElephantsModel", "isBuyer", "(I)Z"⟩, 51), (⟨"WhiteElephantsModel", "costIn", "(IIII)I"⟩, 51)]
theorem lw_r3 : ∀ q ∈ lw_privs_3, lw_okq q := List.forall_mem_cons.mpr ⟨lw_p32, List.forall_mem_cons.mpr ⟨lw_p33, List.forall_mem_cons.mpr ⟨lw_p34, List.forall_mem_cons.mpr ⟨lw_p35, List.forall_mem_cons.mpr ⟨lw_p36, List.forall_mem_cons.mpr ⟨lw_p37, List.forall_mem_cons.mpr ⟨lw_p38, List.forall_mem_cons.mpr ⟨lw_p39, List.forall_mem_cons.mpr ⟨lw_p40, List.forall_mem_cons.mpr ⟨lw_p41, List.forall_mem_cons.mpr ⟨lw_p42, List.forall_mem_cons.mpr ⟨lw_p43, List.forall_mem_cons.mpr ⟨lw_p44, List.forall_mem_cons.mpr ⟨lw_p45, List.forall_mem_cons.mpr ⟨lw_p46, List.forall_mem_cons.mpr ⟨lw_p47, fun _ h => absurd h List.not_mem_nil⟩⟩⟩⟩⟩⟩⟩⟩⟩⟩⟩⟩⟩⟩⟩⟩
theorem lw_p48 : lw_okq (⟨"WhiteElephantsModel", "asNow", "()V"⟩, 51) := ⟨⟨by decide +kernel, by decide +kernel⟩, List.mem_of_getElem? (i := 1096) (by decide +kernel), List.mem_of_getElem? (i := 1466) (by decide +kernel), List.mem_of_getElem? (i := 1467) (by decide +kernel)⟩
theorem lw_p49 : lw_okq (⟨"WhiteElephantsModel", "choice", "(IIII)I"⟩, 51) := ⟨⟨by decide +kernel, by decide +kernel⟩, List.mem_of_getElem? (i := 1096) (by decide +kernel), List.mem_of_getElem? (i := 1470) (by decide +kernel), List.mem_of_getElem? (i := 1471) (by decide +kernel)⟩
theorem lw_p50 : lw_okq (⟨"WhiteElephantsModel", "wholeDay", "(II)I"⟩, 51) := ⟨⟨by decide +kernel, by decide +kernel⟩, List.mem_of_getElem? (i := 1096) (by decide +kernel), List.mem_of_getElem? (i := 1478) (by decide +kernel), List.mem_of_getElem? (i := 1479) (by decide +kernel)⟩
theorem lw_p51 : lw_okq (⟨"WhiteElephantsModel", "lostOver", "(II)I"⟩, 51) := ⟨⟨by decide +kernel, by decide +kernel⟩, List.mem_of_getElem? (i := 1096) (by decide +kernel), List.mem_of_getElem? (i := 1498) (by decide +kernel), List.mem_of_getElem? (i := 1499) (by decide +kernel)⟩
theorem lw_p52 : lw_okq (⟨"WhiteElephantsModel", "sold", "()I"⟩, 51) := ⟨⟨by decide +kernel, by decide +kernel⟩, List.mem_of_getElem? (i := 1096) (by decide +kernel), List.mem_of_getElem? (i := 1510) (by decide +kernel), List.mem_of_getElem? (i := 1511) (by decide +kernel)⟩
theorem lw_p53 : lw_okq (⟨"WhiteElephantsModel", "isPerson", "(I)Z"⟩, 51) := ⟨⟨by decide +kernel, by decide +kernel⟩, List.mem_of_getElem? (i := 1096) (by decide +kernel), List.mem_of_getElem? (i := 1534) (by decide +kernel), List.mem_of_getElem? (i := 1535) (by decide +kernel)⟩
theorem lw_p54 : lw_okq (⟨"WhiteElephantsModel", "mayBecome", "(II)Z"⟩, 51) := ⟨⟨by decide +kernel, by decide +kernel⟩, List.mem_of_getElem? (i := 1096) (by decide +kernel), List.mem_of_getElem? (i := 1542) (by decide +kernel), List.mem_of_getElem? (i := 1543) (by decide +kernel)⟩
theorem lw_p55 : lw_okq (⟨"WhiteElephantsModel", "follow", "(I)Z"⟩, 51) := ⟨⟨by decide +kernel, by decide +kernel⟩, List.mem_of_getElem? (i := 1096) (by decide +kernel), List.mem_of_getElem? (i := 1550) (by decide +kernel), List.mem_of_getElem? (i := 1551) (by decide +kernel)⟩
theorem lw_p56 : lw_okq (⟨"WhiteElephantsModel", "fits", "(I)Z"⟩, 51) := ⟨⟨by decide +kernel, by decide +kernel⟩, List.mem_of_getElem? (i := 1096) (by decide +kernel), List.mem_of_getElem? (i := 1570) (by decide +kernel), List.mem_of_getElem? (i := 1571) (by decide +kernel)⟩
theorem lw_p57 : lw_okq (⟨"WhiteElephantsModel", "finest", "(I)I"⟩, 51) := ⟨⟨by decide +kernel, by decide +kernel⟩, List.mem_of_getElem? (i := 1096) (by decide +kernel), List.mem_of_getElem? (i := 1583) (by decide +kernel), List.mem_of_getElem? (i := 1584) (by decide +kernel)⟩
theorem lw_p58 : lw_okq (⟨"WhiteElephantsModel", "moveAll", "(Z)V"⟩, 51) := ⟨⟨by decide +kernel, by decide +kernel⟩, List.mem_of_getElem? (i := 1096) (by decide +kernel), List.mem_of_getElem? (i := 1591) (by decide +kernel), List.mem_of_getElem? (i := 1592) (by decide +kernel)⟩
theorem lw_p59 : lw_okq (⟨"WhiteElephantsModel", "move", "([IIZ)I"⟩, 51) := ⟨⟨by decide +kernel, by decide +kernel⟩, List.mem_of_getElem? (i := 1096) (by decide +kernel), List.mem_of_getElem? (i := 1595) (by decide +kernel), List.mem_of_getElem? (i := 1596) (by decide +kernel)⟩
def lw_privs_4 : List (MethodName × Nat) := [(⟨"WhiteElephantsModel", "asNow", "()V"⟩, 51), (⟨"WhiteElephantsModel", "choice", "(IIII)I"⟩, 51), (⟨"WhiteElephantsModel", "wholeDay", "(II)I"⟩, 51), (⟨"WhiteElephantsModel", "lostOver", "(II)I"⟩, 51), (⟨"WhiteElephantsModel", "sold", "()I"⟩, 51), (⟨"WhiteElephantsModel", "isPerson", "(I)Z"⟩, 51), (⟨"WhiteElephantsModel", "mayBecome", "(II)Z"⟩, 51), (⟨"WhiteElephantsModel", "follow", "(I)Z"⟩, 51), (⟨"WhiteElephantsModel", "fits", "(I)Z"⟩, 51), (⟨"WhiteElephantsModel", "finest", "(I)I"⟩, 51), (⟨"WhiteElephantsModel", "moveAll", "(Z)V"⟩, 51), (⟨"WhiteElephantsModel", "move", "([IIZ)I"⟩, 51)]
theorem lw_r4 : ∀ q ∈ lw_privs_4, lw_okq q := List.forall_mem_cons.mpr ⟨lw_p48, List.forall_mem_cons.mpr ⟨lw_p49, List.forall_mem_cons.mpr ⟨lw_p50, List.forall_mem_cons.mpr ⟨lw_p51, List.forall_mem_cons.mpr ⟨lw_p52, List.forall_mem_cons.mpr ⟨lw_p53, List.forall_mem_cons.mpr ⟨lw_p54, List.forall_mem_cons.mpr ⟨lw_p55, List.forall_mem_cons.mpr ⟨lw_p56, List.forall_mem_cons.mpr ⟨lw_p57, List.forall_mem_cons.mpr ⟨lw_p58, List.forall_mem_cons.mpr ⟨lw_p59, fun _ h => absurd h List.not_mem_nil⟩⟩⟩⟩⟩⟩⟩⟩⟩⟩⟩⟩
def lw_privs : List (MethodName × Nat) := lw_privs_1 ++ (lw_privs_2 ++ (lw_privs_3 ++ (lw_privs_4)))
def lw_tbl : List Cond := k2_sels lw_privs ++ tables_1
theorem lw_privs_ok : ∀ q ∈ lw_privs, lw_okq q := by
  show ∀ q ∈ lw_privs_1 ++ (lw_privs_2 ++ (lw_privs_3 ++ (lw_privs_4))), lw_okq q
  exact List.forall_mem_append.mpr ⟨lw_r1, List.forall_mem_append.mpr ⟨lw_r2, List.forall_mem_append.mpr ⟨lw_r3, lw_r4⟩⟩⟩
-- ===== end of PART A; then your names; then what follows =====
end
section
/-! own rows: words kept by calls, two shapes of contracts, calls of both -/
def BW : List Cond := lw_tbl.filter goodWord
theorem bw_at {w : Cond} (i : Nat) (h : lw_tbl[i]? = some w) (g : goodWord w = true) : w ∈ BW := List.mem_filter.mpr ⟨List.mem_of_getElem? h, g⟩
theorem bw_good : ∀ w ∈ BW, (w.onTables && w.keeps) = true ∨ ∃ ty, w = .arrayClass ty := fun w h => good_of_word (List.mem_filter.mp h).2
theorem bw_in (ws : List Cond) (h : ∀ w ∈ ws, w ∈ BW) : GoodIn BW ws := fun w hw => ⟨h w hw, bw_good w (h w hw)⟩
abbrev wq (y : MethodName) (b : ByteArray) (n : Nat) (r : Option FieldType) : List Cond := .code y b n r :: BW
theorem wq_in {y : MethodName} {b : ByteArray} {n : Nat} {r : Option FieldType} (h : Cond.code y b n r ∈ BW) : ∀ w ∈ wq y b n r, w ∈ BW := fun w hw => by
  rcases List.mem_cons.mp hw with q | q
  · rw [q]; exact h
  · exact q
theorem bw_cons {w : Cond} {ws : List Cond} (h : w ∈ BW) (k : ∀ v ∈ ws, v ∈ BW) : ∀ v ∈ (w :: ws), v ∈ BW := fun v hv => by
  rcases List.mem_cons.mp hv with q | q
  · rw [q]; exact h
  · exact k v q
theorem bw_nil : ∀ v ∈ ([] : List Cond), v ∈ BW := fun v h => absurd h List.not_mem_nil
/-- the nest's links -/
def NNl : List (String × Nat × MethodName) := [("WhiteElephants", 21, ⟨"WhiteElephants$Tape", "<init>", "()V"⟩), ("WhiteElephants", 28, ⟨"WhiteElephants$Hall", "<init>", "()V"⟩), ("WhiteElephants$Hall", 11, ⟨"WhiteElephants$Things", "<init>", "()V"⟩), ("WhiteElephants$Hall", 20, ⟨"WhiteElephants$Ladies", "<init>", "()V"⟩), ("WhiteElephants$Hall", 27, ⟨"WhiteElephants$Laws", "<init>", "()V"⟩), ("WhiteElephants$Hall", 34, ⟨"WhiteElephants$Buyers", "<init>", "()V"⟩), ("WhiteElephants$Hall", 41, ⟨"WhiteElephants$Sightings", "<init>", "()V"⟩), ("WhiteElephants$Hall", 48, ⟨"WhiteElephants$Secrets", "<init>", "()V"⟩), ("WhiteElephants", 38, ⟨"WhiteElephants$Sale", "<init>", "()V"⟩), ("WhiteElephants", 45, ⟨"WhiteElephants$Picks", "<init>", "()V"⟩), ("WhiteElephants", 54, ⟨"WhiteElephants$Shelf", "<init>", "()V"⟩), ("WhiteElephants$Shelf", 22, ⟨"WhiteElephants", "within", "(III)Z"⟩), ("WhiteElephants$Things", 37, ⟨"WhiteElephants", "within", "(III)Z"⟩), ("WhiteElephants$Things", 45, ⟨"WhiteElephants", "hasBit", "(II)Z"⟩), ("WhiteElephants$Ladies", 25, ⟨"WhiteElephants", "within", "(III)Z"⟩), ("WhiteElephants$Laws", 28, ⟨"WhiteElephants", "within", "(III)Z"⟩), ("WhiteElephants$Hall", 96, ⟨"WhiteElephants", "hasBit", "(II)Z"⟩), ("WhiteElephants$Buyers", 31, ⟨"WhiteElephants", "within", "(III)Z"⟩), ("WhiteElephants$Sightings", 37, ⟨"WhiteElephants", "within", "(III)Z"⟩), ("WhiteElephants$Secrets", 57, ⟨"WhiteElephants", "hasBit", "(II)Z"⟩)]
def NN (U : State) : Prop := ∀ q ∈ NNl, va_Nw (.methodLinkNest q.1 q.2.1 q.2.2 "WhiteElephants") U
theorem NN.warm {s U : State} (hW : s.WarmedH U.vm) (h : NN s) : NN U := fun q hq => va_Nw.warmM hW (h q hq)
theorem NN.call {U : State} {g : JFrame} {mk : MethodId} {a : Array Value} (h : NN U) : NN (U.calling g mk a) := fun q hq => va_Nw.same rfl rfl (h q hq)
abbrev NX : (Nat → Prop) → State → Prop := fun _ U => NN U
def MD (y : MethodName) (k : Nat) : Prop := y.cls ≠ "java/lang/invoke/MethodHandle" ∧ y.cls ≠ "java/lang/invoke/VarHandle" ∧ (parseMethodDescriptor y.desc).map (fun d => d.parameters.length) = some k
def WV (own : String) (idx : Nat) (y : MethodName) (b : ByteArray) (n : Nat) (r : Option FieldType) : Prop := Cond.methodLink own idx y ∈ BW ∧ Cond.instanceMethod y ∈ BW ∧ Cond.selects y.cls y y ∈ BW ∧ Cond.initialized y.cls ∈ BW ∧ Cond.code y b n r ∈ BW
def WT (own : String) (idx : Nat) (y : MethodName) (b : ByteArray) (n : Nat) (r : Option FieldType) : Prop := Cond.methodLink own idx y ∈ BW ∧ Cond.static y ∈ BW ∧ Cond.initialized y.cls ∈ BW ∧ Cond.code y b n r ∈ BW
def WI (own : String) (idx : Nat) (y : MethodName) (b : ByteArray) (n : Nat) : Prop := Cond.methodLink own idx y ∈ BW ∧ Cond.instanceMethod y ∈ BW ∧ Cond.initialized y.cls ∈ BW ∧ Cond.code y b n none ∈ BW
def WTN (own : String) (idx : Nat) (y : MethodName) (b : ByteArray) (n : Nat) (r : Option FieldType) : Prop := (own, idx, y) ∈ NNl ∧ Cond.static y ∈ BW ∧ Cond.initialized y.cls ∈ BW ∧ Cond.code y b n r ∈ BW
def WIN (own : String) (idx : Nat) (y : MethodName) (b : ByteArray) (n : Nat) : Prop := (own, idx, y) ∈ NNl ∧ Cond.instanceMethod y ∈ BW ∧ Cond.initialized y.cls ∈ BW ∧ Cond.code y b n none ∈ BW
section WK
variable {p : Program} {l : Launch} {e : Env} {R : Room} {s : State} {m : MethodId} {args : Array Value} {below : List Frame} {meth : Method} {c : Code} {H : Heap} {locs : List Loc} {cells slots : Nat} {Q : State → Prop}
variable {cc : ByteArray} {pc nL idx n k : Nat} {ls : Array Slot} {own : String} {y : MethodName} {b : ByteArray} {r : Option FieldType} {rm : Room} {B : State → Prop} {Qc : Array Value → State → Outcome → State → Prop} {free : Addr → Prop} {mc ms : Nat} {o : Nat} {st0 : List Value}

theorem wk_gV {own : String} {idx : Nat} {y : MethodName} {b : ByteArray} {n : Nat} {r : Option FieldType} (w : WV own idx y b n r) : GoodIn BW (wsV own idx y.cls y (wq y b n r)) := fun v hv => (List.mem_append.mp hv).elim (bw_in _ (bw_cons w.1 (bw_cons w.2.1 (bw_cons w.2.2.1 (bw_cons w.2.2.2.1 bw_nil)))) v) (bw_in _ (wq_in w.2.2.2.2) v)
theorem wk_gT {own : String} {idx : Nat} {y : MethodName} {b : ByteArray} {n : Nat} {r : Option FieldType} (w : WT own idx y b n r) : GoodIn BW (va_wsS own idx y (wq y b n r)) := fun v hv => (List.mem_append.mp hv).elim (bw_in _ (bw_cons w.1 (bw_cons w.2.1 (bw_cons w.2.2.1 bw_nil))) v) (bw_in _ (wq_in w.2.2.2) v)
theorem wk_rV (As rest : List Value) (Sx : CallFix p m c cc nL s args BW own) (hls : ls.size = nL) (w : WV own idx y b n r) (md : MD y k) (hM : Met l y (wq y b n r) rm (va_Pc (.ref o :: As) B) Qc mc ms free) (hrm : rm.cells = mc ∧ rm.slots = ms) (hR : rm.frames + 1 ≤ R.frames ∧ 8 + (n + 11) + rm.locals ≤ R.locals) (hbl : ∀ (a : Array Value) (U : State) (g : JFrame) (mk : MethodId), B U → B (U.calling g mk a)) (hpre : ∀ U : State, U.heap = H → s.WarmedH U.vm → B U)
    (hrv : ∃ cell : Cell, H[o]? = some cell ∧ cell.vm.isStatics = false ∧ s.vm.findClass y.cls = some cell.cls) (hn : As.length = k) (hst : st0 = As.reverse ++ .ref o :: rest) (hW : (rest.map fun v => v.category).sum ≤ 8) (hdg : decode cc pc = .ok (.invokevirtual idx, 3)) (hf : cells + mc ≤ R.cells ∧ slots + ms ≤ R.slots) :
    va_Run p l e R s m args below meth c H locs cells slots mc ms (F0 m pc ls st0) rest (Qc (Value.ref o :: As).toArray) free :=
  va_runV (As := As) (rest := rest) Sx hM (cwV k Sx.2.2.2.2 (wk_gV w) rfl hrm.1 hrm.2 ⟨rfl, md⟩ hR) ⟨fun a U g mk q => ⟨q.1, hbl a U g mk q.2⟩, hrv, fun U hU hw => ⟨rfl, hpre U hU hw⟩⟩ rfl hn hls hst (lv_room hW) hdg hf
theorem wk_rT (As rest : List Value) (Sx : CallFix p m c cc nL s args BW own) (hls : ls.size = nL) (w : WT own idx y b n r) (md : MD y k) (hM : Met l y (wq y b n r) rm (va_Pc As B) Qc mc ms free) (hrm : rm.cells = mc ∧ rm.slots = ms) (hR : rm.frames + 1 ≤ R.frames ∧ 8 + (n + 11) + rm.locals ≤ R.locals) (hbl : ∀ (a : Array Value) (U : State) (g : JFrame) (mk : MethodId), B U → B (U.calling g mk a)) (hpre : ∀ U : State, U.heap = H → s.WarmedH U.vm → B U)
    (hn : As.length = k) (hst : st0 = As.reverse ++ rest) (hW : (rest.map fun v => v.category).sum ≤ 8) (hdg : decode cc pc = .ok (.invokestatic idx, 3)) (hf : cells + mc ≤ R.cells ∧ slots + ms ≤ R.slots) :
    va_Run p l e R s m args below meth c H locs cells slots mc ms (F0 m pc ls st0) rest (Qc As.toArray) free :=
  va_runS (As := As) (rest := rest) Sx hM (va_cwS k Sx.2.2.2.2 (wk_gT w) rfl hrm.1 hrm.2 md hR) ⟨fun a U g mk q => ⟨q.1, hbl a U g mk q.2⟩, fun U hU hw => ⟨rfl, hpre U hU hw⟩⟩ rfl hn hls hst (lv_room hW) hdg hf
theorem wk_rI (As rest : List Value) (Sx : CallFix p m c cc nL s args BW own) (hls : ls.size = nL) (w : WI own idx y b n) (md : MD y k) (hi : y.name = "<init>") (hM : Met l y (wq y b n none) rm (va_Pc (.ref o :: As) B) Qc mc ms free) (hrm : rm.cells = mc ∧ rm.slots = ms) (hR : rm.frames + 1 ≤ R.frames ∧ 8 + (n + 11) + rm.locals ≤ R.locals) (hbl : ∀ (a : Array Value) (U : State) (g : JFrame) (mk : MethodId), B U → B (U.calling g mk a)) (hpre : ∀ U : State, U.heap = H → s.WarmedH U.vm → B U)
    (hn : As.length = k) (hst : st0 = As.reverse ++ .ref o :: rest) (hW : (rest.map fun v => v.category).sum ≤ 8) (hdg : decode cc pc = .ok (.invokespecial idx, 3)) (hf : cells + mc ≤ R.cells ∧ slots + ms ≤ R.slots) :
    va_Run p l e R s m args below meth c H locs cells slots mc ms (F0 m pc ls st0) rest (Qc (Value.ref o :: As).toArray) free :=
  va_runI (As := As) (rest := rest) Sx hM (cwI k Sx.2.2.2.2 (bw_in _ (wq_in w.2.2.2)) rfl hrm.1 hrm.2 (Sx.2.2.2.2 _ w.2.2.1) (Sx.2.2.2.2 _ w.1) (Sx.2.2.2.2 _ w.2.1) hi md hR) ⟨fun a U g mk q => ⟨q.1, hbl a U g mk q.2⟩, fun U hU hw => ⟨rfl, hpre U hU hw⟩⟩ rfl hn hls hst (lv_room hW) hdg hf
theorem wk_rTN (As rest : List Value) (Sx : CallFix p m c cc nL s args BW own) (hNN : NN s) (hls : ls.size = nL) (w : WTN own idx y b n r) (md : MD y k) (hM : Met l y (wq y b n r) rm (va_Pc As B) Qc mc ms free) (hrm : rm.cells = mc ∧ rm.slots = ms) (hR : rm.frames + 1 ≤ R.frames ∧ 8 + (n + 11) + rm.locals ≤ R.locals) (hbl : ∀ (a : Array Value) (U : State) (g : JFrame) (mk : MethodId), B U → B (U.calling g mk a)) (hpre : ∀ U : State, U.heap = H → s.WarmedH U.vm → B U)
    (hn : As.length = k) (hst : st0 = As.reverse ++ rest) (hW : (rest.map fun v => v.category).sum ≤ 8) (hdg : decode cc pc = .ok (.invokestatic idx, 3)) (hf : cells + mc ≤ R.cells ∧ slots + ms ≤ R.slots) :
    va_Run p l e R s m args below meth c H locs cells slots mc ms (F0 m pc ls st0) rest (Qc As.toArray) free :=
  va_runSN (As := As) (rest := rest) (host := "WhiteElephants") Sx hM ⟨va_cnB k Sx.2.2.2.2 (bw_in _ (wq_in w.2.2.2)) rfl hrm.1 hrm.2 (hNN _ w.1) (Sx.2.2.2.2 _ w.2.2.1) md hR, Sx.2.2.2.2 _ w.2.1, trivial⟩ ⟨fun a U g mk q => ⟨q.1, hbl a U g mk q.2⟩, fun U hU hw => ⟨rfl, hpre U hU hw⟩⟩ rfl hn hls hst (lv_room hW) hdg hf
theorem wk_rIN (As rest : List Value) (Sx : CallFix p m c cc nL s args BW own) (hNN : NN s) (hls : ls.size = nL) (w : WIN own idx y b n) (md : MD y k) (hi : y.name = "<init>") (hM : Met l y (wq y b n none) rm (va_Pc (.ref o :: As) B) Qc mc ms free) (hrm : rm.cells = mc ∧ rm.slots = ms) (hR : rm.frames + 1 ≤ R.frames ∧ 8 + (n + 11) + rm.locals ≤ R.locals) (hbl : ∀ (a : Array Value) (U : State) (g : JFrame) (mk : MethodId), B U → B (U.calling g mk a)) (hpre : ∀ U : State, U.heap = H → s.WarmedH U.vm → B U)
    (hn : As.length = k) (hst : st0 = As.reverse ++ .ref o :: rest) (hW : (rest.map fun v => v.category).sum ≤ 8) (hdg : decode cc pc = .ok (.invokespecial idx, 3)) (hf : cells + mc ≤ R.cells ∧ slots + ms ≤ R.slots) :
    va_Run p l e R s m args below meth c H locs cells slots mc ms (F0 m pc ls st0) rest (Qc (Value.ref o :: As).toArray) free :=
  va_runIN (As := As) (rest := rest) (host := "WhiteElephants") Sx hM ⟨va_cnB k Sx.2.2.2.2 (bw_in _ (wq_in w.2.2.2)) rfl hrm.1 hrm.2 (hNN _ w.1) (Sx.2.2.2.2 _ w.2.2.1) md hR, hi, Sx.2.2.2.2 _ w.2.1⟩ ⟨fun a U g mk q => ⟨q.1, hbl a U g mk q.2⟩, fun U hU hw => ⟨rfl, hpre U hU hw⟩⟩ rfl hn hls hst (lv_room hW) hdg hf
theorem wk_int {v x : Int32} {rest : List Value} (h : x = v) (kk : W p l e R s m args below meth c H locs cells slots Q (F0 m pc ls (.int v :: rest))) : W p l e R s m args below meth c H locs cells slots Q (F0 m pc ls (.int x :: rest)) := h ▸ kk
theorem wk_long {v x : Int64} {rest : List Value} (h : x = v) (kk : W p l e R s m args below meth c H locs cells slots Q (F0 m pc ls (.long v :: rest))) : W p l e R s m args below meth c H locs cells slots Q (F0 m pc ls (.long x :: rest)) := h ▸ kk
theorem wk_val {v x : Value} {rest : List Value} (h : x = v) (kk : W p l e R s m args below meth c H locs cells slots Q (F0 m pc ls (v :: rest))) : W p l e R s m args below meth c H locs cells slots Q (F0 m pc ls (x :: rest)) := h ▸ kk
end WK
/-- the classes whose objects the worlds hold -/
theorem wk_subC {D : va_G} {cl : List vw_C} {ws wc : va_W} {H : Heap} (h : va_P D cl ws H) {is : List Nat} (hC : is.map (fun i => ws[i]?) = wc.map some) : va_P D cl wc H := by
  intro k q hq
  have h1 : (wc.map some)[k]? = some (some q) := by rw [List.getElem?_map, hq]; rfl
  rw [← hC, List.getElem?_map] at h1
  cases hi : is[k]? with
  | none => rw [hi] at h1; cases h1
  | some i =>
    rw [hi] at h1
    exact h i q (Option.some.inj h1)
end
section
/-! names, fields, words (out of the class files' tables, by a program of this repository) -/
def ET0 : u_T := fun k => match k with
  | 0 => ("WhiteElephants$Buyers", "hour", "[I", true)
  | 1 => ("WhiteElephants$Buyers", "purse", "[I", true)
  | 2 => ("WhiteElephants$Buyers", "wishes", "[I", true)
  | 3 => ("WhiteElephants$Buyers", "eye", "[I", true)
  | 4 => ("WhiteElephants$Buyers", "bought", "[I", true)
  | _ => ("WhiteElephants$Buyers", "count", "I", false)
def EY0 : Nat → FieldType := fun k => match k with
  | 0 => .array .int
  | 1 => .array .int
  | 2 => .array .int
  | 3 => .array .int
  | 4 => .array .int
  | _ => .int
def ET1 : u_T := fun k => match k with
  | 0 => ("WhiteElephants$Hall", "things", "LWhiteElephants$Things;", true)
  | 1 => ("WhiteElephants$Hall", "ladies", "LWhiteElephants$Ladies;", true)
  | 2 => ("WhiteElephants$Hall", "laws", "LWhiteElephants$Laws;", true)
  | 3 => ("WhiteElephants$Hall", "buyers", "LWhiteElephants$Buyers;", true)
  | 4 => ("WhiteElephants$Hall", "sightings", "LWhiteElephants$Sightings;", true)
  | 5 => ("WhiteElephants$Hall", "secrets", "LWhiteElephants$Secrets;", true)
  | 6 => ("WhiteElephants$Hall", "tables", "[I", true)
  | 7 => ("WhiteElephants$Hall", "tableCount", "I", false)
  | 8 => ("WhiteElephants$Hall", "half", "I", false)
  | 9 => ("WhiteElephants$Hall", "bag", "I", false)
  | 10 => ("WhiteElephants$Hall", "hour", "I", false)
  | 11 => ("WhiteElephants$Hall", "taken", "I", false)
  | 12 => ("WhiteElephants$Hall", "lostAt", "[I", true)
  | _ => ("WhiteElephants$Hall", "leastLost", "[I", true)
def EY1 : Nat → FieldType := fun k => match k with
  | 0 => .object "WhiteElephants$Things"
  | 1 => .object "WhiteElephants$Ladies"
  | 2 => .object "WhiteElephants$Laws"
  | 3 => .object "WhiteElephants$Buyers"
  | 4 => .object "WhiteElephants$Sightings"
  | 5 => .object "WhiteElephants$Secrets"
  | 6 => .array .int
  | 7 => .int
  | 8 => .int
  | 9 => .int
  | 10 => .int
  | 11 => .int
  | 12 => .array .int
  | _ => .array .int
def ET2 : u_T := fun k => match k with
  | 0 => ("WhiteElephants$Ladies", "knows", "[I", true)
  | 1 => ("WhiteElephants$Ladies", "guess", "[I", true)
  | 2 => ("WhiteElephants$Ladies", "law", "[I", true)
  | _ => ("WhiteElephants$Ladies", "count", "I", false)
def EY2 : Nat → FieldType := fun k => match k with
  | 0 => .array .int
  | 1 => .array .int
  | 2 => .array .int
  | _ => .int
def ET3 : u_T := fun k => match k with
  | 0 => ("WhiteElephants$Laws", "parts", "[I", true)
  | 1 => ("WhiteElephants$Laws", "draft", "[I", true)
  | _ => ("WhiteElephants$Laws", "count", "I", false)
def EY3 : Nat → FieldType := fun k => match k with
  | 0 => .array .int
  | 1 => .array .int
  | _ => .int
def ET4 : u_T := fun k => match k with
  | 0 => ("WhiteElephants$Picks", "sets", "[I", true)
  | _ => ("WhiteElephants$Picks", "gains", "[I", true)
def EY4 : Nat → FieldType := fun k => match k with
  | 0 => .array .int
  | _ => .array .int
def ET5 : u_T := fun k => match k with
  | 0 => ("WhiteElephants$Sale", "half", "I", false)
  | 1 => ("WhiteElephants$Sale", "bag", "I", false)
  | 2 => ("WhiteElephants$Sale", "left", "[I", true)
  | 3 => ("WhiteElephants$Sale", "leftCount", "I", false)
  | 4 => ("WhiteElephants$Sale", "truth", "[I", true)
  | 5 => ("WhiteElephants$Sale", "buyer", "[I", true)
  | 6 => ("WhiteElephants$Sale", "paid", "[I", true)
  | 7 => ("WhiteElephants$Sale", "purse", "[I", true)
  | _ => ("WhiteElephants$Sale", "idle", "[I", true)
def EY5 : Nat → FieldType := fun k => match k with
  | 0 => .int
  | 1 => .int
  | 2 => .array .int
  | 3 => .int
  | 4 => .array .int
  | 5 => .array .int
  | 6 => .array .int
  | 7 => .array .int
  | _ => .array .int
def ET6 : u_T := fun k => match k with
  | 0 => ("WhiteElephants$Secrets", "thing", "[I", true)
  | 1 => ("WhiteElephants$Secrets", "person", "[I", true)
  | 2 => ("WhiteElephants$Secrets", "count", "I", false)
  | 3 => ("WhiteElephants$Secrets", "sees", "[I", true)
  | 4 => ("WhiteElephants$Secrets", "hidden", "[I", true)
  | 5 => ("WhiteElephants$Secrets", "safe", "[I", true)
  | 6 => ("WhiteElephants$Secrets", "lies", "[I", true)
  | 7 => ("WhiteElephants$Secrets", "hiddenCount", "I", false)
  | _ => ("WhiteElephants$Secrets", "space", "[I", true)
def EY6 : Nat → FieldType := fun k => match k with
  | 0 => .array .int
  | 1 => .array .int
  | 2 => .int
  | 3 => .array .int
  | 4 => .array .int
  | 5 => .array .int
  | 6 => .array .int
  | 7 => .int
  | _ => .array .int
def ET7 : u_T := fun k => match k with
  | 0 => ("WhiteElephants$Shelf", "elements", "[J", true)
  | 1 => ("WhiteElephants$Shelf", "held", "I", false)
  | _ => ("WhiteElephants$Shelf", "size", "I", false)
def EY7 : Nat → FieldType := fun k => match k with
  | 0 => .array .long
  | 1 => .int
  | _ => .int
def ET8 : u_T := fun k => match k with
  | 0 => ("WhiteElephants$Sightings", "year", "[I", true)
  | 1 => ("WhiteElephants$Sightings", "chips", "[I", true)
  | 2 => ("WhiteElephants$Sightings", "gave", "[I", true)
  | 3 => ("WhiteElephants$Sightings", "bought", "[I", true)
  | 4 => ("WhiteElephants$Sightings", "count", "I", false)
  | 5 => ("WhiteElephants$Sightings", "before", "[I", true)
  | 6 => ("WhiteElephants$Sightings", "tried", "[I", true)
  | _ => ("WhiteElephants$Sightings", "length", "[I", true)
def EY8 : Nat → FieldType := fun k => match k with
  | 0 => .array .int
  | 1 => .array .int
  | 2 => .array .int
  | 3 => .array .int
  | 4 => .int
  | 5 => .array .int
  | 6 => .array .int
  | _ => .array .int
def ET9 : u_T := fun k => match k with
  | 0 => ("WhiteElephants$Tape", "bytes", "[B", true)
  | 1 => ("WhiteElephants$Tape", "size", "I", false)
  | 2 => ("WhiteElephants$Tape", "begin", "I", false)
  | _ => ("WhiteElephants$Tape", "end", "I", false)
def EY9 : Nat → FieldType := fun k => match k with
  | 0 => .array .byte
  | 1 => .int
  | 2 => .int
  | _ => .int
def ET10 : u_T := fun k => match k with
  | 0 => ("WhiteElephants$Things", "kind", "[I", true)
  | 1 => ("WhiteElephants$Things", "worth", "[I", true)
  | 2 => ("WhiteElephants$Things", "chips", "[I", true)
  | 3 => ("WhiteElephants$Things", "price", "[I", true)
  | 4 => ("WhiteElephants$Things", "buyer", "[I", true)
  | 5 => ("WhiteElephants$Things", "paid", "[I", true)
  | 6 => ("WhiteElephants$Things", "count", "I", false)
  | _ => ("WhiteElephants$Things", "sharedTo", "[I", true)
def EY10 : Nat → FieldType := fun k => match k with
  | 0 => .array .int
  | 1 => .array .int
  | 2 => .array .int
  | 3 => .array .int
  | 4 => .array .int
  | 5 => .array .int
  | 6 => .int
  | _ => .array .int
def ET11 : u_T := fun k => match k with
  | 0 => ("WhiteElephants", "shelves", "[LWhiteElephants$Shelf;", true)
  | 1 => ("WhiteElephants", "refusals", "[I", true)
  | 2 => ("WhiteElephants", "tape", "LWhiteElephants$Tape;", true)
  | 3 => ("WhiteElephants", "now", "LWhiteElephants$Hall;", true)
  | 4 => ("WhiteElephants", "kept", "LWhiteElephants$Hall;", true)
  | 5 => ("WhiteElephants", "sale", "LWhiteElephants$Sale;", true)
  | 6 => ("WhiteElephants", "picks", "LWhiteElephants$Picks;", true)
  | _ => ("WhiteElephants", "imaged", "Z", false)
def EY11 : Nat → FieldType := fun k => match k with
  | 0 => .array (.object "WhiteElephants$Shelf")
  | 1 => .array .int
  | 2 => .object "WhiteElephants$Tape"
  | 3 => .object "WhiteElephants$Hall"
  | 4 => .object "WhiteElephants$Hall"
  | 5 => .object "WhiteElephants$Sale"
  | 6 => .object "WhiteElephants$Picks"
  | _ => .boolean
def ET12 : u_T := fun k => match k with
  | 0 => ("WhiteElephantsModel", "holding", "[I", true)
  | 1 => ("WhiteElephantsModel", "rowLength", "[I", true)
  | 2 => ("WhiteElephantsModel", "rowOf", "[J", true)
  | 3 => ("WhiteElephantsModel", "things", "I", false)
  | 4 => ("WhiteElephantsModel", "thKind", "[I", true)
  | 5 => ("WhiteElephantsModel", "thWorth", "[I", true)
  | 6 => ("WhiteElephantsModel", "thChips", "[I", true)
  | 7 => ("WhiteElephantsModel", "thPrice", "[I", true)
  | 8 => ("WhiteElephantsModel", "thBy", "[I", true)
  | 9 => ("WhiteElephantsModel", "thPaid", "[I", true)
  | 10 => ("WhiteElephantsModel", "ladies", "I", false)
  | 11 => ("WhiteElephantsModel", "laKnows", "[I", true)
  | 12 => ("WhiteElephantsModel", "laGuess", "[I", true)
  | 13 => ("WhiteElephantsModel", "laLaw", "[I", true)
  | 14 => ("WhiteElephantsModel", "laws", "I", false)
  | 15 => ("WhiteElephantsModel", "lawSays", "[I", true)
  | 16 => ("WhiteElephantsModel", "tapeSize", "I", false)
  | 17 => ("WhiteElephantsModel", "tape", "[I", true)
  | 18 => ("WhiteElephantsModel", "buyers", "I", false)
  | 19 => ("WhiteElephantsModel", "buHour", "[I", true)
  | 20 => ("WhiteElephantsModel", "buPurse", "[I", true)
  | 21 => ("WhiteElephantsModel", "buWishes", "[I", true)
  | 22 => ("WhiteElephantsModel", "buEye", "[I", true)
  | 23 => ("WhiteElephantsModel", "buMany", "[I", true)
  | 24 => ("WhiteElephantsModel", "tables", "I", false)
  | 25 => ("WhiteElephantsModel", "taKinds", "[I", true)
  | 26 => ("WhiteElephantsModel", "sightings", "I", false)
  | 27 => ("WhiteElephantsModel", "siYear", "[I", true)
  | 28 => ("WhiteElephantsModel", "siChips", "[I", true)
  | 29 => ("WhiteElephantsModel", "siGave", "[I", true)
  | 30 => ("WhiteElephantsModel", "siBought", "[I", true)
  | 31 => ("WhiteElephantsModel", "secrets", "I", false)
  | 32 => ("WhiteElephantsModel", "seThing", "[I", true)
  | 33 => ("WhiteElephantsModel", "sePerson", "[I", true)
  | 34 => ("WhiteElephantsModel", "looksAt", "[I", true)
  | 35 => ("WhiteElephantsModel", "hours", "[I", true)
  | 36 => ("WhiteElephantsModel", "refusals", "[I", true)
  | 37 => ("WhiteElephantsModel", "isImage", "Z", false)
  | 38 => ("WhiteElephantsModel", "kept", "[I", true)
  | 39 => ("WhiteElephantsModel", "counts", "[I", true)
  | 40 => ("WhiteElephantsModel", "gone", "[Z", true)
  | 41 => ("WhiteElephantsModel", "purse", "[I", true)
  | 42 => ("WhiteElephantsModel", "best", "[I", true)
  | 43 => ("WhiteElephantsModel", "mate", "[I", true)
  | 44 => ("WhiteElephantsModel", "mateOf", "[I", true)
  | 45 => ("WhiteElephantsModel", "from", "[I", true)
  | 46 => ("WhiteElephantsModel", "line", "[I", true)
  | 47 => ("WhiteElephantsModel", "may", "[I", true)
  | 48 => ("WhiteElephantsModel", "room", "[I", true)
  | 49 => ("WhiteElephantsModel", "loses", "[I", true)
  | _ => ("WhiteElephantsModel", "fewest", "[B", false)
def EY12 : Nat → FieldType := fun k => match k with
  | 0 => .array .int
  | 1 => .array .int
  | 2 => .array .long
  | 3 => .int
  | 4 => .array .int
  | 5 => .array .int
  | 6 => .array .int
  | 7 => .array .int
  | 8 => .array .int
  | 9 => .array .int
  | 10 => .int
  | 11 => .array .int
  | 12 => .array .int
  | 13 => .array .int
  | 14 => .int
  | 15 => .array .int
  | 16 => .int
  | 17 => .array .int
  | 18 => .int
  | 19 => .array .int
  | 20 => .array .int
  | 21 => .array .int
  | 22 => .array .int
  | 23 => .array .int
  | 24 => .int
  | 25 => .array .int
  | 26 => .int
  | 27 => .array .int
  | 28 => .array .int
  | 29 => .array .int
  | 30 => .array .int
  | 31 => .int
  | 32 => .array .int
  | 33 => .array .int
  | 34 => .array .int
  | 35 => .array .int
  | 36 => .array .int
  | 37 => .boolean
  | 38 => .array .int
  | 39 => .array .int
  | 40 => .array .boolean
  | 41 => .array .int
  | 42 => .array .int
  | 43 => .array .int
  | 44 => .array .int
  | 45 => .array .int
  | 46 => .array .int
  | 47 => .array .int
  | 48 => .array .int
  | 49 => .array .int
  | _ => .array .byte
abbrev cls : List vw_C := [("WhiteElephants$Buyers", ET0, 6), ("WhiteElephants$Hall", ET1, 14), ("WhiteElephants$Ladies", ET2, 4), ("WhiteElephants$Laws", ET3, 3), ("WhiteElephants$Picks", ET4, 2), ("WhiteElephants$Sale", ET5, 9), ("WhiteElephants$Secrets", ET6, 9), ("WhiteElephants$Shelf", ET7, 3), ("WhiteElephants$Sightings", ET8, 8), ("WhiteElephants$Tape", ET9, 4), ("WhiteElephants$Things", ET10, 8), ("WhiteElephants", ET11, 8), ("WhiteElephantsModel", ET12, 51)]
theorem bw_ps (ws : List Cond) (ps : List Nat) (hp : ws = ps.filterMap (fun i => lw_tbl[i]?)) (hg : ws.all goodWord = true) : ∀ w ∈ ws, w ∈ BW := by
  intro w hw
  have h1 := List.all_eq_true.mp hg w hw
  rw [hp] at hw
  obtain ⟨i, -, hi⟩ := List.mem_filterMap.mp hw
  exact bw_at i hi h1
abbrev mb_X11_isHour : ByteArray := prog_1_method_54_code
abbrev my_X11_isHour : MethodName := ⟨"WhiteElephants", "isHour", "(I)Z"⟩
theorem md_X11_isHour : MD my_X11_isHour 1 := ⟨by decide, by decide, by decide +kernel⟩
abbrev mb_X11_isKind : ByteArray := prog_1_method_52_code
abbrev my_X11_isKind : MethodName := ⟨"WhiteElephants", "isKind", "(I)Z"⟩
theorem md_X11_isKind : MD my_X11_isKind 1 := ⟨by decide, by decide, by decide +kernel⟩
abbrev mb_X11_isKinds : ByteArray := prog_1_method_53_code
abbrev my_X11_isKinds : MethodName := ⟨"WhiteElephants", "isKinds", "(I)Z"⟩
theorem md_X11_isKinds : MD my_X11_isKinds 1 := ⟨by decide, by decide, by decide +kernel⟩
abbrev mb_X11_isPerson : ByteArray := prog_1_method_55_code
abbrev my_X11_isPerson : MethodName := ⟨"WhiteElephants", "isPerson", "(I)Z"⟩
theorem md_X11_isPerson : MD my_X11_isPerson 1 := ⟨by decide, by decide, by decide +kernel⟩
abbrev mb_X11_isPersonOrNone : ByteArray := prog_1_method_56_code
abbrev my_X11_isPersonOrNone : MethodName := ⟨"WhiteElephants", "isPersonOrNone", "(I)Z"⟩
theorem md_X11_isPersonOrNone : MD my_X11_isPersonOrNone 1 := ⟨by decide, by decide, by decide +kernel⟩
abbrev mb_X11_isShelf : ByteArray := prog_1_method_51_code
abbrev my_X11_isShelf : MethodName := ⟨"WhiteElephants", "isShelf", "(I)Z"⟩
theorem md_X11_isShelf : MD my_X11_isShelf 1 := ⟨by decide, by decide, by decide +kernel⟩
abbrev mb_X11_refusalOfRow : ByteArray := prog_1_method_59_code
abbrev my_X11_refusalOfRow : MethodName := ⟨"WhiteElephants", "refusalOfRow", "(I)I"⟩
theorem md_X11_refusalOfRow : MD my_X11_refusalOfRow 1 := ⟨by decide, by decide, by decide +kernel⟩
abbrev mb_X11_refuse : ByteArray := prog_1_method_58_code
abbrev my_X11_refuse : MethodName := ⟨"WhiteElephants", "refuse", "(I)I"⟩
theorem md_X11_refuse : MD my_X11_refuse 1 := ⟨by decide, by decide, by decide +kernel⟩
abbrev mb_X11_set : ByteArray := prog_1_method_3_code
abbrev my_X11_set : MethodName := ⟨"WhiteElephants", "set", "(IIJ)I"⟩
theorem md_X11_set : MD my_X11_set 3 := ⟨by decide, by decide, by decide +kernel⟩
abbrev mb_X11_within : ByteArray := prog_1_method_50_code
abbrev my_X11_within : MethodName := ⟨"WhiteElephants", "within", "(III)Z"⟩
theorem md_X11_within : MD my_X11_within 3 := ⟨by decide, by decide, by decide +kernel⟩
abbrev mb_X7_hasRow : ByteArray := prog_9_method_3_code
abbrev my_X7_hasRow : MethodName := ⟨"WhiteElephants$Shelf", "hasRow", "()Z"⟩
theorem md_X7_hasRow : MD my_X7_hasRow 0 := ⟨by decide, by decide, by decide +kernel⟩
abbrev mb_X7_hasThing : ByteArray := prog_9_method_4_code
abbrev my_X7_hasThing : MethodName := ⟨"WhiteElephants$Shelf", "hasThing", "()Z"⟩
theorem md_X7_hasThing : MD my_X7_hasThing 0 := ⟨by decide, by decide, by decide +kernel⟩
abbrev mb_X7_isEmpty : ByteArray := prog_9_method_2_code
abbrev my_X7_isEmpty : MethodName := ⟨"WhiteElephants$Shelf", "isEmpty", "()Z"⟩
theorem md_X7_isEmpty : MD my_X7_isEmpty 0 := ⟨by decide, by decide, by decide +kernel⟩
theorem kk_1 : Cond.initialized "WhiteElephants" ∈ BW := bw_at 61 (by decide +kernel) rfl
theorem kk_12 : Cond.initialized "WhiteElephants$Shelf" ∈ BW := bw_at 72 (by decide +kernel) rfl
theorem kk_370 : Cond.fieldLink "WhiteElephants$Shelf" 15 "WhiteElephants$Shelf" "held" "I" ∈ BW := bw_at 430 (by decide +kernel) rfl
theorem kk_382 : Cond.fieldLink "WhiteElephants" 11 "WhiteElephants" "shelves" "[LWhiteElephants$Shelf;" ∈ BW := bw_at 442 (by decide +kernel) rfl
theorem kk_383 : Cond.fieldLink "WhiteElephants" 15 "WhiteElephants" "refusals" "[I" ∈ BW := bw_at 443 (by decide +kernel) rfl
theorem kk_411 : Cond.methodLink "WhiteElephants" 55 ⟨"WhiteElephants", "isShelf", "(I)Z"⟩ ∈ BW := bw_at 471 (by decide +kernel) rfl
theorem kk_412 : Cond.static ⟨"WhiteElephants", "isShelf", "(I)Z"⟩ ∈ BW := bw_at 472 (by decide +kernel) rfl
theorem kk_413 : Cond.code ⟨"WhiteElephants", "isShelf", "(I)Z"⟩ prog_1_method_51_code 1 (some .boolean) ∈ BW := bw_at 473 (by decide +kernel) rfl
theorem kk_414 : Cond.methodLink "WhiteElephants" 59 ⟨"WhiteElephants", "within", "(III)Z"⟩ ∈ BW := bw_at 474 (by decide +kernel) rfl
theorem kk_415 : Cond.static ⟨"WhiteElephants", "within", "(III)Z"⟩ ∈ BW := bw_at 475 (by decide +kernel) rfl
theorem kk_416 : Cond.code ⟨"WhiteElephants", "within", "(III)Z"⟩ prog_1_method_50_code 3 (some .boolean) ∈ BW := bw_at 476 (by decide +kernel) rfl
theorem kk_417 : Cond.methodLink "WhiteElephants" 63 ⟨"WhiteElephants", "refuse", "(I)I"⟩ ∈ BW := bw_at 477 (by decide +kernel) rfl
theorem kk_419 : Cond.instanceMethod ⟨"WhiteElephants", "refuse", "(I)I"⟩ ∈ BW := bw_at 479 (by decide +kernel) rfl
theorem kk_420 : Cond.code ⟨"WhiteElephants", "refuse", "(I)I"⟩ prog_1_method_58_code 3 (some .int) ∈ BW := bw_at 480 (by decide +kernel) rfl
theorem kk_431 : Cond.code ⟨"WhiteElephants", "set", "(IIJ)I"⟩ prog_1_method_3_code 6 (some .int) ∈ BW := bw_at 491 (by decide +kernel) rfl
theorem kk_432 : Cond.methodLink "WhiteElephants" 71 ⟨"WhiteElephants", "refusalOfRow", "(I)I"⟩ ∈ BW := bw_at 492 (by decide +kernel) rfl
theorem kk_434 : Cond.instanceMethod ⟨"WhiteElephants", "refusalOfRow", "(I)I"⟩ ∈ BW := bw_at 494 (by decide +kernel) rfl
theorem kk_435 : Cond.code ⟨"WhiteElephants", "refusalOfRow", "(I)I"⟩ prog_1_method_59_code 2 (some .int) ∈ BW := bw_at 495 (by decide +kernel) rfl
theorem kk_436 : Cond.methodLink "WhiteElephants" 82 ⟨"WhiteElephants$Shelf", "hasThing", "()Z"⟩ ∈ BW := bw_at 496 (by decide +kernel) rfl
theorem kk_437 : Cond.instanceMethod ⟨"WhiteElephants$Shelf", "hasThing", "()Z"⟩ ∈ BW := bw_at 497 (by decide +kernel) rfl
theorem kk_438 : Cond.selects "WhiteElephants$Shelf" ⟨"WhiteElephants$Shelf", "hasThing", "()Z"⟩ ⟨"WhiteElephants$Shelf", "hasThing", "()Z"⟩ ∈ BW := bw_at 498 (by decide +kernel) rfl
theorem kk_439 : Cond.code ⟨"WhiteElephants$Shelf", "hasThing", "()Z"⟩ prog_9_method_4_code 1 (some .boolean) ∈ BW := bw_at 499 (by decide +kernel) rfl
theorem kk_440 : Cond.methodLink "WhiteElephants" 92 ⟨"WhiteElephants$Shelf", "isEmpty", "()Z"⟩ ∈ BW := bw_at 500 (by decide +kernel) rfl
theorem kk_441 : Cond.instanceMethod ⟨"WhiteElephants$Shelf", "isEmpty", "()Z"⟩ ∈ BW := bw_at 501 (by decide +kernel) rfl
theorem kk_442 : Cond.selects "WhiteElephants$Shelf" ⟨"WhiteElephants$Shelf", "isEmpty", "()Z"⟩ ⟨"WhiteElephants$Shelf", "isEmpty", "()Z"⟩ ∈ BW := bw_at 502 (by decide +kernel) rfl
theorem kk_443 : Cond.code ⟨"WhiteElephants$Shelf", "isEmpty", "()Z"⟩ prog_9_method_2_code 1 (some .boolean) ∈ BW := bw_at 503 (by decide +kernel) rfl
theorem kk_451 : Cond.code ⟨"WhiteElephants$Shelf", "hasRow", "()Z"⟩ prog_9_method_3_code 1 (some .boolean) ∈ BW := bw_at 511 (by decide +kernel) rfl
theorem kk_496 : Cond.code ⟨"WhiteElephants", "isKind", "(I)Z"⟩ prog_1_method_52_code 1 (some .boolean) ∈ BW := bw_at 556 (by decide +kernel) rfl
theorem kk_567 : Cond.code ⟨"WhiteElephants", "isKinds", "(I)Z"⟩ prog_1_method_53_code 1 (some .boolean) ∈ BW := bw_at 627 (by decide +kernel) rfl
theorem kk_756 : Cond.code ⟨"WhiteElephants", "isHour", "(I)Z"⟩ prog_1_method_54_code 1 (some .boolean) ∈ BW := bw_at 816 (by decide +kernel) rfl
theorem kk_927 : Cond.code ⟨"WhiteElephants", "isPersonOrNone", "(I)Z"⟩ prog_1_method_56_code 1 (some .boolean) ∈ BW := bw_at 987 (by decide +kernel) rfl
theorem kk_928 : Cond.methodLink "WhiteElephants" 339 ⟨"WhiteElephants", "isPerson", "(I)Z"⟩ ∈ BW := bw_at 988 (by decide +kernel) rfl
theorem kk_929 : Cond.static ⟨"WhiteElephants", "isPerson", "(I)Z"⟩ ∈ BW := bw_at 989 (by decide +kernel) rfl
theorem kk_930 : Cond.code ⟨"WhiteElephants", "isPerson", "(I)Z"⟩ prog_1_method_55_code 1 (some .boolean) ∈ BW := bw_at 990 (by decide +kernel) rfl
theorem dd_X11_isHour_0 : decode mb_X11_isHour 0 = .ok (.iload_n 0, 1) := by decide +kernel
theorem dd_X11_isHour_1 : decode mb_X11_isHour 1 = .ok (.iconst 0, 1) := by decide +kernel
theorem dd_X11_isHour_2 : decode mb_X11_isHour 2 = .ok (.bipush 11, 2) := by decide +kernel
theorem dd_X11_isHour_4 : decode mb_X11_isHour 4 = .ok (.invokestatic 59, 3) := by decide +kernel
theorem dd_X11_isHour_7 : decode mb_X11_isHour 7 = .ok (.ireturn, 1) := by decide +kernel
theorem dd_X11_isKind_0 : decode mb_X11_isKind 0 = .ok (.iload_n 0, 1) := by decide +kernel
theorem dd_X11_isKind_1 : decode mb_X11_isKind 1 = .ok (.iconst 0, 1) := by decide +kernel
theorem dd_X11_isKind_2 : decode mb_X11_isKind 2 = .ok (.iconst 5, 1) := by decide +kernel
theorem dd_X11_isKind_3 : decode mb_X11_isKind 3 = .ok (.invokestatic 59, 3) := by decide +kernel
theorem dd_X11_isKind_6 : decode mb_X11_isKind 6 = .ok (.ireturn, 1) := by decide +kernel
theorem dd_X11_isKinds_0 : decode mb_X11_isKinds 0 = .ok (.iload_n 0, 1) := by decide +kernel
theorem dd_X11_isKinds_1 : decode mb_X11_isKinds 1 = .ok (.iconst 0, 1) := by decide +kernel
theorem dd_X11_isKinds_2 : decode mb_X11_isKinds 2 = .ok (.bipush 63, 2) := by decide +kernel
theorem dd_X11_isKinds_4 : decode mb_X11_isKinds 4 = .ok (.invokestatic 59, 3) := by decide +kernel
theorem dd_X11_isKinds_7 : decode mb_X11_isKinds 7 = .ok (.ireturn, 1) := by decide +kernel
theorem dd_X11_isPerson_0 : decode mb_X11_isPerson 0 = .ok (.iload_n 0, 1) := by decide +kernel
theorem dd_X11_isPerson_1 : decode mb_X11_isPerson 1 = .ok (.iconst 0, 1) := by decide +kernel
theorem dd_X11_isPerson_2 : decode mb_X11_isPerson 2 = .ok (.bipush 15, 2) := by decide +kernel
theorem dd_X11_isPerson_4 : decode mb_X11_isPerson 4 = .ok (.invokestatic 59, 3) := by decide +kernel
theorem dd_X11_isPerson_7 : decode mb_X11_isPerson 7 = .ok (.ireturn, 1) := by decide +kernel
theorem dd_X11_isPersonOrNone_0 : decode mb_X11_isPersonOrNone 0 = .ok (.iload_n 0, 1) := by decide +kernel
theorem dd_X11_isPersonOrNone_1 : decode mb_X11_isPersonOrNone 1 = .ok (.iconst (-1), 1) := by decide +kernel
theorem dd_X11_isPersonOrNone_2 : decode mb_X11_isPersonOrNone 2 = .ok (.if_icmp .eq 10, 3) := by decide +kernel
theorem dd_X11_isPersonOrNone_5 : decode mb_X11_isPersonOrNone 5 = .ok (.iload_n 0, 1) := by decide +kernel
theorem dd_X11_isPersonOrNone_6 : decode mb_X11_isPersonOrNone 6 = .ok (.invokestatic 339, 3) := by decide +kernel
theorem dd_X11_isPersonOrNone_9 : decode mb_X11_isPersonOrNone 9 = .ok (.ifCond .eq 7, 3) := by decide +kernel
theorem dd_X11_isPersonOrNone_12 : decode mb_X11_isPersonOrNone 12 = .ok (.iconst 1, 1) := by decide +kernel
theorem dd_X11_isPersonOrNone_13 : decode mb_X11_isPersonOrNone 13 = .ok (.goto 4, 3) := by decide +kernel
theorem dd_X11_isPersonOrNone_16 : decode mb_X11_isPersonOrNone 16 = .ok (.iconst 0, 1) := by decide +kernel
theorem dd_X11_isPersonOrNone_17 : decode mb_X11_isPersonOrNone 17 = .ok (.ireturn, 1) := by decide +kernel
theorem dd_X11_isShelf_0 : decode mb_X11_isShelf 0 = .ok (.iload_n 0, 1) := by decide +kernel
theorem dd_X11_isShelf_1 : decode mb_X11_isShelf 1 = .ok (.iconst 0, 1) := by decide +kernel
theorem dd_X11_isShelf_2 : decode mb_X11_isShelf 2 = .ok (.bipush 7, 2) := by decide +kernel
theorem dd_X11_isShelf_4 : decode mb_X11_isShelf 4 = .ok (.invokestatic 59, 3) := by decide +kernel
theorem dd_X11_isShelf_7 : decode mb_X11_isShelf 7 = .ok (.ireturn, 1) := by decide +kernel
theorem dd_X11_refusalOfRow_0 : decode mb_X11_refusalOfRow 0 = .ok (.iload_n 1, 1) := by decide +kernel
theorem dd_X11_refusalOfRow_1 : decode mb_X11_refusalOfRow 1 = .ok (.invokestatic 55, 3) := by decide +kernel
theorem dd_X11_refusalOfRow_4 : decode mb_X11_refusalOfRow 4 = .ok (.ifCond .ne 6, 3) := by decide +kernel
theorem dd_X11_refusalOfRow_7 : decode mb_X11_refusalOfRow 7 = .ok (.bipush (-2), 2) := by decide +kernel
theorem dd_X11_refusalOfRow_9 : decode mb_X11_refusalOfRow 9 = .ok (.ireturn, 1) := by decide +kernel
theorem dd_X11_refusalOfRow_10 : decode mb_X11_refusalOfRow 10 = .ok (.aload_n 0, 1) := by decide +kernel
theorem dd_X11_refusalOfRow_11 : decode mb_X11_refusalOfRow 11 = .ok (.getfield 11, 3) := by decide +kernel
theorem dd_X11_refusalOfRow_14 : decode mb_X11_refusalOfRow 14 = .ok (.iload_n 1, 1) := by decide +kernel
theorem dd_X11_refusalOfRow_15 : decode mb_X11_refusalOfRow 15 = .ok (.aaload, 1) := by decide +kernel
theorem dd_X11_refusalOfRow_16 : decode mb_X11_refusalOfRow 16 = .ok (.invokevirtual 82, 3) := by decide +kernel
theorem dd_X11_refusalOfRow_19 : decode mb_X11_refusalOfRow 19 = .ok (.ifCond .eq 6, 3) := by decide +kernel
theorem dd_X11_refusalOfRow_25 : decode mb_X11_refusalOfRow 25 = .ok (.aload_n 0, 1) := by decide +kernel
theorem dd_X11_refusalOfRow_26 : decode mb_X11_refusalOfRow 26 = .ok (.getfield 11, 3) := by decide +kernel
theorem dd_X11_refusalOfRow_29 : decode mb_X11_refusalOfRow 29 = .ok (.iload_n 1, 1) := by decide +kernel
theorem dd_X11_refusalOfRow_30 : decode mb_X11_refusalOfRow 30 = .ok (.aaload, 1) := by decide +kernel
theorem dd_X11_refusalOfRow_31 : decode mb_X11_refusalOfRow 31 = .ok (.invokevirtual 92, 3) := by decide +kernel
theorem dd_X11_refusalOfRow_34 : decode mb_X11_refusalOfRow 34 = .ok (.ifCond .eq 8, 3) := by decide +kernel
theorem dd_X11_refusalOfRow_37 : decode mb_X11_refusalOfRow 37 = .ok (.bipush (-4), 2) := by decide +kernel
theorem dd_X11_refusalOfRow_39 : decode mb_X11_refusalOfRow 39 = .ok (.goto 4, 3) := by decide +kernel
theorem dd_X11_refusalOfRow_43 : decode mb_X11_refusalOfRow 43 = .ok (.ireturn, 1) := by decide +kernel
theorem dd_X11_refuse_0 : decode mb_X11_refuse 0 = .ok (.bipush (-2), 2) := by decide +kernel
theorem dd_X11_refuse_2 : decode mb_X11_refuse 2 = .ok (.iload_n 1, 1) := by decide +kernel
theorem dd_X11_refuse_3 : decode mb_X11_refuse 3 = .ok (.isub, 1) := by decide +kernel
theorem dd_X11_refuse_4 : decode mb_X11_refuse 4 = .ok (.istore_n 2, 1) := by decide +kernel
theorem dd_X11_refuse_5 : decode mb_X11_refuse 5 = .ok (.iload_n 2, 1) := by decide +kernel
theorem dd_X11_refuse_6 : decode mb_X11_refuse 6 = .ok (.iconst 0, 1) := by decide +kernel
theorem dd_X11_refuse_7 : decode mb_X11_refuse 7 = .ok (.iconst 4, 1) := by decide +kernel
theorem dd_X11_refuse_8 : decode mb_X11_refuse 8 = .ok (.invokestatic 59, 3) := by decide +kernel
theorem dd_X11_refuse_11 : decode mb_X11_refuse 11 = .ok (.ifCond .eq 13, 3) := by decide +kernel
theorem dd_X11_refuse_14 : decode mb_X11_refuse 14 = .ok (.aload_n 0, 1) := by decide +kernel
theorem dd_X11_refuse_15 : decode mb_X11_refuse 15 = .ok (.getfield 15, 3) := by decide +kernel
theorem dd_X11_refuse_18 : decode mb_X11_refuse 18 = .ok (.iload_n 2, 1) := by decide +kernel
theorem dd_X11_refuse_19 : decode mb_X11_refuse 19 = .ok (.dup2, 1) := by decide +kernel
theorem dd_X11_refuse_20 : decode mb_X11_refuse 20 = .ok (.iaload, 1) := by decide +kernel
theorem dd_X11_refuse_21 : decode mb_X11_refuse 21 = .ok (.iconst 1, 1) := by decide +kernel
theorem dd_X11_refuse_22 : decode mb_X11_refuse 22 = .ok (.iadd, 1) := by decide +kernel
theorem dd_X11_refuse_23 : decode mb_X11_refuse 23 = .ok (.iastore, 1) := by decide +kernel
theorem dd_X11_refuse_24 : decode mb_X11_refuse 24 = .ok (.iload_n 1, 1) := by decide +kernel
theorem dd_X11_refuse_25 : decode mb_X11_refuse 25 = .ok (.ireturn, 1) := by decide +kernel
theorem dd_X11_set_0 : decode mb_X11_set 0 = .ok (.aload_n 0, 1) := by decide +kernel
theorem dd_X11_set_1 : decode mb_X11_set 1 = .ok (.iload_n 1, 1) := by decide +kernel
theorem dd_X11_set_2 : decode mb_X11_set 2 = .ok (.invokevirtual 71, 3) := by decide +kernel
theorem dd_X11_set_5 : decode mb_X11_set 5 = .ok (.istore 5, 2) := by decide +kernel
theorem dd_X11_set_7 : decode mb_X11_set 7 = .ok (.iload 5, 2) := by decide +kernel
theorem dd_X11_set_9 : decode mb_X11_set 9 = .ok (.ifCond .eq 10, 3) := by decide +kernel
theorem dd_X11_set_12 : decode mb_X11_set 12 = .ok (.aload_n 0, 1) := by decide +kernel
theorem dd_X11_set_13 : decode mb_X11_set 13 = .ok (.iload 5, 2) := by decide +kernel
theorem dd_X11_set_15 : decode mb_X11_set 15 = .ok (.invokevirtual 63, 3) := by decide +kernel
theorem dd_X11_set_18 : decode mb_X11_set 18 = .ok (.ireturn, 1) := by decide +kernel
theorem dd_X11_within_0 : decode mb_X11_within 0 = .ok (.iload_n 0, 1) := by decide +kernel
theorem dd_X11_within_1 : decode mb_X11_within 1 = .ok (.iload_n 1, 1) := by decide +kernel
theorem dd_X11_within_2 : decode mb_X11_within 2 = .ok (.if_icmp .lt 12, 3) := by decide +kernel
theorem dd_X11_within_5 : decode mb_X11_within 5 = .ok (.iload_n 0, 1) := by decide +kernel
theorem dd_X11_within_6 : decode mb_X11_within 6 = .ok (.iload_n 2, 1) := by decide +kernel
theorem dd_X11_within_7 : decode mb_X11_within 7 = .ok (.if_icmp .gt 7, 3) := by decide +kernel
theorem dd_X11_within_10 : decode mb_X11_within 10 = .ok (.iconst 1, 1) := by decide +kernel
theorem dd_X11_within_11 : decode mb_X11_within 11 = .ok (.goto 4, 3) := by decide +kernel
theorem dd_X11_within_14 : decode mb_X11_within 14 = .ok (.iconst 0, 1) := by decide +kernel
theorem dd_X11_within_15 : decode mb_X11_within 15 = .ok (.ireturn, 1) := by decide +kernel
theorem dd_X7_hasRow_0 : decode mb_X7_hasRow 0 = .ok (.aload_n 0, 1) := by decide +kernel
theorem dd_X7_hasRow_1 : decode mb_X7_hasRow 1 = .ok (.getfield 15, 3) := by decide +kernel
theorem dd_X7_hasRow_4 : decode mb_X7_hasRow 4 = .ok (.iconst 0, 1) := by decide +kernel
theorem dd_X7_hasRow_5 : decode mb_X7_hasRow 5 = .ok (.iconst 4, 1) := by decide +kernel
theorem dd_X7_hasRow_6 : decode mb_X7_hasRow 6 = .ok (.invokestatic 22, 3) := by decide +kernel
theorem dd_X7_hasRow_9 : decode mb_X7_hasRow 9 = .ok (.ireturn, 1) := by decide +kernel
theorem dd_X7_hasThing_0 : decode mb_X7_hasThing 0 = .ok (.aload_n 0, 1) := by decide +kernel
theorem dd_X7_hasThing_1 : decode mb_X7_hasThing 1 = .ok (.getfield 15, 3) := by decide +kernel
theorem dd_X7_hasThing_4 : decode mb_X7_hasThing 4 = .ok (.bipush 10, 2) := by decide +kernel
theorem dd_X7_hasThing_6 : decode mb_X7_hasThing 6 = .ok (.if_icmp .lt 7, 3) := by decide +kernel
theorem dd_X7_hasThing_13 : decode mb_X7_hasThing 13 = .ok (.iconst 0, 1) := by decide +kernel
theorem dd_X7_hasThing_14 : decode mb_X7_hasThing 14 = .ok (.ireturn, 1) := by decide +kernel
theorem dd_X7_isEmpty_0 : decode mb_X7_isEmpty 0 = .ok (.aload_n 0, 1) := by decide +kernel
theorem dd_X7_isEmpty_1 : decode mb_X7_isEmpty 1 = .ok (.getfield 15, 3) := by decide +kernel
theorem dd_X7_isEmpty_4 : decode mb_X7_isEmpty 4 = .ok (.iconst (-1), 1) := by decide +kernel
theorem dd_X7_isEmpty_5 : decode mb_X7_isEmpty 5 = .ok (.if_icmp .ne 7, 3) := by decide +kernel
theorem dd_X7_isEmpty_8 : decode mb_X7_isEmpty 8 = .ok (.iconst 1, 1) := by decide +kernel
theorem dd_X7_isEmpty_9 : decode mb_X7_isEmpty 9 = .ok (.goto 4, 3) := by decide +kernel
theorem dd_X7_isEmpty_13 : decode mb_X7_isEmpty 13 = .ok (.ireturn, 1) := by decide +kernel
end
section
/-! contracts of two shapes, and how they are opened, ended and called -/
abbrev TY4 (cy : Nat → ClassId) : List (ClassId × FieldType) := [(cy 0, .int), (cy 1, .byte), (cy 2, .long), (cy 3, .boolean)]
abbrev TY (cy : Nat → ClassId) : List (ClassId × FieldType) := [(cy 0, .int), (cy 1, .byte), (cy 2, .long), (cy 3, .boolean), (cy 4, .object "WhiteElephants$Shelf")]
abbrev rmD (d mc ms : Nat) : Room := { frames := d, cells := mc, slots := ms, locals := 100 * d }
/-- a method that leaves the heap as it is -/
def PC (l : Launch) (y : MethodName) (b : ByteArray) (n : Nat) (r : Option FieldType) (rm : Room) (D : va_G) (ty : List (ClassId × FieldType)) (args : List Value) (X : State → Prop) (WS : va_W) (Qc : Array Value → State → Outcome → State → Prop) : Prop :=
  Met l y (wq y b n r) rm (va_Pc args (fun U => va_P D cls WS U.heap ∧ va_K D cls ty U ∧ X U)) Qc 0 0 (fun _ => False)
/-- a method that writes its cells WS and makes new ones -/
def HC (l : Launch) (y : MethodName) (b : ByteArray) (n : Nat) (r : Option FieldType) (rm : Room) (D : va_G) (ty : List (ClassId × FieldType)) (args : List Value) (X : (Nat → Prop) → State → Prop) (WS : va_W) (Qc : (Nat → Prop) → Array Value → State → Outcome → State → Prop) : Prop :=
  ∀ sz : Nat, Met l y (wq y b n r) rm (va_Pc args (fun U => U.heap.size = sz ∧ va_P D cls WS U.heap ∧ va_K D cls ty U ∧ va_D (fun _ => True) WS ∧ X (va_A WS sz) U)) (Qc (va_A WS sz)) rm.cells rm.slots (va_A WS sz)
abbrev QI {S : Type} (D : va_G) (post : Int32 → S → Prop) (W1 : S → va_W) : (Nat → Prop) → Array Value → State → Outcome → State → Prop := fun A => va_Qi post (fun u t => va_P D cls (W1 u) t.heap ∧ va_D A (W1 u)) A
abbrev QL {S : Type} (D : va_G) (post : Int64 → S → Prop) (W1 : S → va_W) : (Nat → Prop) → Array Value → State → Outcome → State → Prop := fun A => va_Ql post (fun u t => va_P D cls (W1 u) t.heap ∧ va_D A (W1 u)) A
abbrev QV {S : Type} (D : va_G) (post : S → Prop) (W1 : S → va_W) : (Nat → Prop) → Array Value → State → Outcome → State → Prop := fun A => va_Qv post (fun u t => va_P D cls (W1 u) t.heap ∧ va_D A (W1 u)) A
abbrev NS : State → Prop := fun U => NN U
theorem ns_b : ∀ (a : Array Value) (U : State) (g : JFrame) (mk : MethodId), NS U → NS (U.calling g mk a) := fun _ _ _ _ h => NN.call h
theorem nx_b : ∀ (A : Nat → Prop) (a : Array Value) (U : State) (g : JFrame) (mk : MethodId), NX A U → NX A (U.calling g mk a) := fun _ _ _ _ _ h => NN.call h
theorem ns_w {s : State} {H : Heap} (h : NN s) : ∀ U : State, U.heap = H → s.WarmedH U.vm → NS U := fun _ _ hW => NN.warm hW h
theorem nx_w {s : State} {H : Heap} {A : Nat → Prop} (h : NN s) : ∀ U : State, U.heap = H → s.WarmedH U.vm → NX A U := fun _ _ hW => NN.warm hW h
theorem pc_intro {l : Launch} {y : MethodName} {b : ByteArray} {n : Nat} {r : Option FieldType} {rm : Room} {D : va_G} {ty : List (ClassId × FieldType)} {args : List Value} {X : State → Prop} {WS : va_W} {Qc : Array Value → State → Outcome → State → Prop} (hy : plainName y.cls = true) (hn : (lg_sl args).length ≤ n)
    (body : ∀ (p : Program) (e : Env) (s : State) (m : MethodId) (below : List Frame) (meth : Method) (c : Code) (ls : Array Slot), CallFix p m c b n s args.toArray BW y.cls → meth.sig.returnType = r → meth.locks = false → lv_has ls n (lv_args 0 args) → va_P D cls WS s.heap → va_K D cls ty s → X s →
      W p l e rm s m args.toArray below meth c s.heap [] 0 0 (MQ below Qc args.toArray s 0 0 (fun _ => False)) (F0 m 0 ls [])) : PC l y b n r rm D ty args X WS Qc := by
  refine Met.ofW (cc := b) (maxL := n) (ret := r) hy rfl ?_
  intro p e s m args' below meth c s₁ B hml hv
  obtain ⟨rfl, hP, hK, hX⟩ := hv
  have hts := atoms_spec (ws := wq y b n r) B.pre
  have hl := lv_entry args (n := n) hn
  rw [lg_entry_eq]
  generalize (lg_sl args ++ List.replicate (n - (lg_sl args).length) Slot.unset).toArray = ls at hl ⊢
  exact body p e s m below meth c ls ⟨B.exec, B.bytes, hml, findClass_of_methodNamed B.named, fun w h => hts w (List.mem_cons_of_mem _ h)⟩ B.returns B.notSynchronized hl hP hK hX
theorem hc_intro {l : Launch} {y : MethodName} {b : ByteArray} {n : Nat} {r : Option FieldType} {rm : Room} {D : va_G} {ty : List (ClassId × FieldType)} {args : List Value} {X : (Nat → Prop) → State → Prop} {WS : va_W} {Qc : (Nat → Prop) → Array Value → State → Outcome → State → Prop} (hy : plainName y.cls = true) (hn : (lg_sl args).length ≤ n)
    (body : ∀ (p : Program) (e : Env) (s : State) (m : MethodId) (below : List Frame) (meth : Method) (c : Code) (A : Nat → Prop) (ls : Array Slot), CallFix p m c b n s args.toArray BW y.cls → meth.sig.returnType = r → meth.locks = false → meth.name = y.name → lv_has ls n (lv_args 0 args) → va_P D cls WS s.heap → va_D A WS → va_K D cls ty s → va_S A s.heap s.heap [] → (∀ q : Nat, s.heap.size ≤ q → A q) → X A s →
      W p l e rm s m args.toArray below meth c s.heap [] 0 0 (MQ below (Qc A) args.toArray s rm.cells rm.slots A) (F0 m 0 ls [])) : HC l y b n r rm D ty args X WS Qc := by
  intro sz
  refine Met.ofW (cc := b) (maxL := n) (ret := r) hy rfl ?_
  intro p e s m args' below meth c s₁ B hml hv
  obtain ⟨rfl, hsz, hP, hK, hD0, hX⟩ := hv
  have hts := atoms_spec (ws := wq y b n r) B.pre
  have hl := lv_entry args (n := n) hn
  rw [lg_entry_eq]
  generalize (lg_sl args ++ List.replicate (n - (lg_sl args).length) Slot.unset).toArray = ls at hl ⊢
  subst hsz
  exact body p e s m below meth c _ ls ⟨B.exec, B.bytes, hml, findClass_of_methodNamed B.named, fun w h => hts w (List.mem_cons_of_mem _ h)⟩ B.returns B.notSynchronized (name_of_methodNamed B.named B.method).1 hl hP hD0.self hK va_S.rf (fun q h => Or.inr h) hX
theorem ci_lt {x y : Int32} {a b : Int} (hx : x.toInt = a) (hy : y.toInt = b) (h : x < y) : a < b := by subst hx; subst hy; exact Int32.lt_iff_toInt_lt.mp h
theorem ci_nlt {x y : Int32} {a b : Int} (hx : x.toInt = a) (hy : y.toInt = b) (h : ¬ x < y) : b ≤ a := by subst hx; subst hy; exact Int.not_lt.mp (fun q => h (Int32.lt_iff_toInt_lt.mpr q))
theorem ci_le {x y : Int32} {a b : Int} (hx : x.toInt = a) (hy : y.toInt = b) (h : x ≤ y) : a ≤ b := by subst hx; subst hy; exact Int32.le_iff_toInt_le.mp h
theorem ci_nle {x y : Int32} {a b : Int} (hx : x.toInt = a) (hy : y.toInt = b) (h : ¬ x ≤ y) : b < a := by subst hx; subst hy; exact Int.not_le.mp (fun q => h (Int32.le_iff_toInt_le.mpr q))
theorem ci_eq {x y : Int32} {a b : Int} (hx : x.toInt = a) (hy : y.toInt = b) (h : x = y) : a = b := by subst hx; subst hy; rw [h]
theorem ci_ne {x y : Int32} {a b : Int} (hx : x.toInt = a) (hy : y.toInt = b) (h : ¬ x = y) : ¬ a = b := by subst hx; subst hy; exact fun q => h (Int32.toInt_inj.mp q)
theorem ci_of {x y : Int32} {b : Int} (hy : y.toInt = b) (h : x.toInt = b) : x = y := Int32.toInt_inj.mp (h.trans hy.symm)
theorem vi_of {x : Int32} {n : Nat} (h : 0 ≤ x.toInt ∧ x.toInt < (n : Int)) : vp_in x n := vp_in_iff.mpr h
theorem vi_lt {x : Int32} {n : Nat} (h : vp_in x n) : x.toNatClampNeg < n := Nat.lt_of_not_le (fun q => h (Or.inr q))
/-- one of two answers, by a condition -/
abbrev if2 (P : Prop) (a b r : Int32) : Prop := (P ∧ r = a) ∨ (¬ P ∧ r = b)
theorem if2_eq {P : Prop} {a b r t : Int32} (h1 : if2 P a b r) (h2 : if2 P a b t) : r = t := by
  rcases h1 with ⟨p, h⟩ | ⟨p, h⟩ <;> rcases h2 with ⟨q, k⟩ | ⟨q, k⟩
  · rw [h, k]
  · exact absurd p q
  · exact absurd q p
  · rw [h, k]
section WK2
variable {p : Program} {l : Launch} {e : Env} {R : Room} {s : State} {m : MethodId} {args : Array Value} {below : List Frame} {meth : Method} {c : Code} {H : Heap} {locs : List Loc} {cells slots : Nat} {Q : State → Prop}
variable {cc : ByteArray} {pc nL idx n k : Nat} {ls : Array Slot} {own : String} {y : MethodName} {b : ByteArray} {r : Option FieldType} {rm : Room} {o : Nat} {st0 : List Value} {D : va_G} {ty : List (ClassId × FieldType)} {X : State → Prop} {Y : (Nat → Prop) → State → Prop} {ws wc wr : va_W} {A0 : Nat → Prop} {H0 : Heap}
theorem pc_bl {av : List (ClassId × FieldType)} {WS : va_W} (hX : ∀ (a : Array Value) (U : State) (g : JFrame) (mk : MethodId), X U → X (U.calling g mk a)) : ∀ (a : Array Value) (U : State) (g : JFrame) (mk : MethodId), (va_P D cls WS U.heap ∧ va_K D cls av U ∧ X U) → (va_P D cls WS (U.calling g mk a).heap ∧ va_K D cls av (U.calling g mk a) ∧ X (U.calling g mk a)) := fun a U g mk q => ⟨q.1, va_K.moved (u := U) (U := U.calling g mk a) (Vm.Alike.refl U.vm) q.2.1, hX a U g mk q.2.2⟩
theorem hc_bl {av : List (ClassId × FieldType)} {WS : va_W} {sz : Nat} {A : Nat → Prop} (hX : ∀ (A : Nat → Prop) (a : Array Value) (U : State) (g : JFrame) (mk : MethodId), Y A U → Y A (U.calling g mk a)) : ∀ (a : Array Value) (U : State) (g : JFrame) (mk : MethodId), (U.heap.size = sz ∧ va_P D cls WS U.heap ∧ va_K D cls av U ∧ va_D (fun _ => True) WS ∧ Y A U) → ((U.calling g mk a).heap.size = sz ∧ va_P D cls WS (U.calling g mk a).heap ∧ va_K D cls av (U.calling g mk a) ∧ va_D (fun _ => True) WS ∧ Y A (U.calling g mk a)) := fun a U g mk q => ⟨q.1, q.2.1, va_K.moved (u := U) (U := U.calling g mk a) (Vm.Alike.refl U.vm) q.2.2.1, q.2.2.2.1, hX A a U g mk q.2.2.2.2⟩
/-- the ends -/
theorem pc_ret {post : Int32 → Prop} {v : Int32} (Sx : CallFix p m c cc nL s args BW own) {ft : FieldType} (hr : meth.sig.returnType = some ft) (hlocks : meth.locks = false) (hn : narrow ft (.int v) = .int v) (hdg : decode cc pc = .ok (.ireturn, 1)) (hv : post v) : W p l e R s m args below meth c s.heap [] cells slots (MQ below (vp_Si post) args s cells slots (fun _ => False)) (F0 m pc ls [.int v]) :=
  W.zret Sx.1 Sx.2.1 hr hn (fun t ht _ => ⟨v, rfl, hv, ht⟩) (fun q h => absurd h List.not_mem_nil) hdg hlocks
theorem pc_vret {post : Unit → Prop} (Sx : CallFix p m c cc nL s args BW own) (hr : meth.sig.returnType = none) (hlocks : meth.locks = false) (hdg : decode cc pc = .ok (.return_, 1)) (hv : post ()) : W p l e R s m args below meth c s.heap [] cells slots (MQ below (va_Sv post) args s cells slots (fun _ => False)) (F0 m pc ls []) :=
  W.vret Sx.1 Sx.2.1 hr (fun t ht _ => ⟨rfl, hv, ht⟩) (fun q h => absurd h List.not_mem_nil) hdg hlocks
theorem pc_lret {post : Int64 → Prop} {v : Int64} (Sx : CallFix p m c cc nL s args BW own) (hr : meth.sig.returnType = some .long) (hlocks : meth.locks = false) (hdg : decode cc pc = .ok (.lreturn, 1)) (hv : post v) : W p l e R s m args below meth c s.heap [] cells slots (MQ below (vp_Sl post) args s cells slots (fun _ => False)) (F0 m pc ls [.long v]) :=
  W.lret Sx.1 Sx.2.1 hr (fun t ht _ => ⟨v, rfl, hv, ht⟩) (fun q h => absurd h List.not_mem_nil) hdg hlocks
theorem hc_ret {S : Type} {post : Int32 → S → Prop} {W1 : S → va_W} {v : Int32} (Sx : CallFix p m c cc nL s args BW own) (hr : meth.sig.returnType = some .int) (hlocks : meth.locks = false) (hdg : decode cc pc = .ok (.ireturn, 1)) (hS : va_S A0 s.heap H locs) (u : S) (hv : post v u) (hP : va_P D cls (W1 u) H) (hD : va_D A0 (W1 u)) : W p l e R s m args below meth c H locs cells slots (MQ below (QI D post W1 A0) args s cells slots A0) (F0 m pc ls [.int v]) :=
  W.iret Sx.1 Sx.2.1 hr (fun t ht _ => ⟨⟨v, u, rfl, hv, by rw [ht]; exact hP, hD⟩, hS.F ht⟩) hS.2.2 hdg hlocks
theorem hc_vret {S : Type} {post : S → Prop} {W1 : S → va_W} (Sx : CallFix p m c cc nL s args BW own) (hr : meth.sig.returnType = none) (hlocks : meth.locks = false) (hdg : decode cc pc = .ok (.return_, 1)) (hS : va_S A0 s.heap H locs) (u : S) (hv : post u) (hP : va_P D cls (W1 u) H) (hD : va_D A0 (W1 u)) : W p l e R s m args below meth c H locs cells slots (MQ below (QV D post W1 A0) args s cells slots A0) (F0 m pc ls []) :=
  W.vret Sx.1 Sx.2.1 hr (fun t ht _ => ⟨⟨u, rfl, hv, by rw [ht]; exact hP, hD⟩, hS.F ht⟩) hS.2.2 hdg hlocks
theorem hc_lret {S : Type} {post : Int64 → S → Prop} {W1 : S → va_W} {v : Int64} (Sx : CallFix p m c cc nL s args BW own) (hr : meth.sig.returnType = some .long) (hlocks : meth.locks = false) (hdg : decode cc pc = .ok (.lreturn, 1)) (hS : va_S A0 s.heap H locs) (u : S) (hv : post v u) (hP : va_P D cls (W1 u) H) (hD : va_D A0 (W1 u)) : W p l e R s m args below meth c H locs cells slots (MQ below (QL D post W1 A0) args s cells slots A0) (F0 m pc ls [.long v]) :=
  W.lret Sx.1 Sx.2.1 hr (fun t ht _ => ⟨⟨v, u, rfl, hv, by rw [ht]; exact hP, hD⟩, hS.F ht⟩) hS.2.2 hdg hlocks
/-- calls of a method that leaves the heap as it is: what it answers -/
theorem pk_i {post : Int32 → Prop} {a : Array Value} {rest : List Value} (hr : va_Run p l e R s m args below meth c H locs cells slots 0 0 (F0 m pc ls st0) rest (vp_Si post a) (fun _ => False)) (kk : ∀ v : Int32, post v → W p l e R s m args below meth c H locs cells slots Q (F0 m (pc + 3) ls (.int v :: rest))) : W p l e R s m args below meth c H locs cells slots Q (F0 m pc ls st0) := vp_callSi hr.run kk
theorem pk_l {post : Int64 → Prop} {a : Array Value} {rest : List Value} (hr : va_Run p l e R s m args below meth c H locs cells slots 0 0 (F0 m pc ls st0) rest (vp_Sl post a) (fun _ => False)) (kk : ∀ v : Int64, post v → W p l e R s m args below meth c H locs cells slots Q (F0 m (pc + 3) ls (.long v :: rest))) : W p l e R s m args below meth c H locs cells slots Q (F0 m pc ls st0) := vp_callSl hr.run kk
theorem pk_v {post : Unit → Prop} {a : Array Value} {rest : List Value} (hr : va_Run p l e R s m args below meth c H locs cells slots 0 0 (F0 m pc ls st0) rest (va_Sv post a) (fun _ => False)) (kk : post () → W p l e R s m args below meth c H locs cells slots Q (F0 m (pc + 3) ls rest)) : W p l e R s m args below meth c H locs cells slots Q (F0 m pc ls st0) := va_csv hr.run kk
theorem pc_V {Qc : Array Value → State → Outcome → State → Prop} (As rest : List Value) (Sx : CallFix p m c cc nL s args BW own) (hls : ls.size = nL) (w : WV own idx y b n r) (md : MD y k) (hM : PC l y b n r rm D ty (.ref o :: As) X wc Qc) (hrm : rm.cells = 0 ∧ rm.slots = 0) (hR : rm.frames + 1 ≤ R.frames ∧ 8 + (n + 11) + rm.locals ≤ R.locals) (hP : va_P D cls wc H) (hK : va_K D cls ty s) (hXb : ∀ (a : Array Value) (U : State) (g : JFrame) (mk : MethodId), X U → X (U.calling g mk a)) (hX : ∀ U : State, U.heap = H → s.WarmedH U.vm → X U)
    (hrv : ∃ cell : Cell, H[o]? = some cell ∧ cell.vm.isStatics = false ∧ s.vm.findClass y.cls = some cell.cls) (hn : As.length = k) (hst : st0 = As.reverse ++ .ref o :: rest) (hW : (rest.map fun v => v.category).sum ≤ 8) (hdg : decode cc pc = .ok (.invokevirtual idx, 3)) (hf : cells + 0 ≤ R.cells ∧ slots + 0 ≤ R.slots) :
    va_Run p l e R s m args below meth c H locs cells slots 0 0 (F0 m pc ls st0) rest (Qc (Value.ref o :: As).toArray) (fun _ => False) :=
  wk_rV As rest Sx hls w md hM hrm hR (pc_bl hXb) (fun U hU hW => ⟨by rw [hU]; exact hP, va_K.moved hW.alike hK, hX U hU hW⟩) hrv hn hst hW hdg hf
theorem pc_T {Qc : Array Value → State → Outcome → State → Prop} (As rest : List Value) (Sx : CallFix p m c cc nL s args BW own) (hls : ls.size = nL) (w : WT own idx y b n r) (md : MD y k) (hM : PC l y b n r rm D ty As X wc Qc) (hrm : rm.cells = 0 ∧ rm.slots = 0) (hR : rm.frames + 1 ≤ R.frames ∧ 8 + (n + 11) + rm.locals ≤ R.locals) (hP : va_P D cls wc H) (hK : va_K D cls ty s) (hXb : ∀ (a : Array Value) (U : State) (g : JFrame) (mk : MethodId), X U → X (U.calling g mk a)) (hX : ∀ U : State, U.heap = H → s.WarmedH U.vm → X U)
    (hn : As.length = k) (hst : st0 = As.reverse ++ rest) (hW : (rest.map fun v => v.category).sum ≤ 8) (hdg : decode cc pc = .ok (.invokestatic idx, 3)) (hf : cells + 0 ≤ R.cells ∧ slots + 0 ≤ R.slots) :
    va_Run p l e R s m args below meth c H locs cells slots 0 0 (F0 m pc ls st0) rest (Qc As.toArray) (fun _ => False) :=
  wk_rT As rest Sx hls w md hM hrm hR (pc_bl hXb) (fun U hU hW => ⟨by rw [hU]; exact hP, va_K.moved hW.alike hK, hX U hU hW⟩) hn hst hW hdg hf
theorem pc_TN {Qc : Array Value → State → Outcome → State → Prop} (As rest : List Value) (Sx : CallFix p m c cc nL s args BW own) (hNN : NN s) (hls : ls.size = nL) (w : WTN own idx y b n r) (md : MD y k) (hM : PC l y b n r rm D ty As X wc Qc) (hrm : rm.cells = 0 ∧ rm.slots = 0) (hR : rm.frames + 1 ≤ R.frames ∧ 8 + (n + 11) + rm.locals ≤ R.locals) (hP : va_P D cls wc H) (hK : va_K D cls ty s) (hXb : ∀ (a : Array Value) (U : State) (g : JFrame) (mk : MethodId), X U → X (U.calling g mk a)) (hX : ∀ U : State, U.heap = H → s.WarmedH U.vm → X U)
    (hn : As.length = k) (hst : st0 = As.reverse ++ rest) (hW : (rest.map fun v => v.category).sum ≤ 8) (hdg : decode cc pc = .ok (.invokestatic idx, 3)) (hf : cells + 0 ≤ R.cells ∧ slots + 0 ≤ R.slots) :
    va_Run p l e R s m args below meth c H locs cells slots 0 0 (F0 m pc ls st0) rest (Qc As.toArray) (fun _ => False) :=
  wk_rTN As rest Sx hNN hls w md hM hrm hR (pc_bl hXb) (fun U hU hW => ⟨by rw [hU]; exact hP, va_K.moved hW.alike hK, hX U hU hW⟩) hn hst hW hdg hf
/-- calls of a method that writes -/
theorem hc_V {Qc : (Nat → Prop) → Array Value → State → Outcome → State → Prop} (As rest : List Value) (isC : List Nat) (Sx : CallFix p m c cc nL s args BW own) (hls : ls.size = nL) (w : WV own idx y b n r) (md : MD y k) (hM : HC l y b n r rm D ty (.ref o :: As) Y wc Qc) (hR : rm.frames + 1 ≤ R.frames ∧ 8 + (n + 11) + rm.locals ≤ R.locals) (hP : va_P D cls ws H) (hD : va_D A0 ws) (hC : isC.map (fun i => ws[i]?) = wc.map some) (hnC : va_nd isC = true) (hK : va_K D cls ty s) (hXb : ∀ (A : Nat → Prop) (a : Array Value) (U : State) (g : JFrame) (mk : MethodId), Y A U → Y A (U.calling g mk a)) (hX : ∀ U : State, U.heap = H → s.WarmedH U.vm → Y (va_A wc H.size) U)
    (hrv : ∃ cell : Cell, H[o]? = some cell ∧ cell.vm.isStatics = false ∧ s.vm.findClass y.cls = some cell.cls) (hn : As.length = k) (hst : st0 = As.reverse ++ .ref o :: rest) (hW : (rest.map fun v => v.category).sum ≤ 8) (hdg : decode cc pc = .ok (.invokevirtual idx, 3)) (hf : cells + rm.cells ≤ R.cells ∧ slots + rm.slots ≤ R.slots) :
    va_Run p l e R s m args below meth c H locs cells slots rm.cells rm.slots (F0 m pc ls st0) rest (Qc (va_A wc H.size) (Value.ref o :: As).toArray) (va_A wc H.size) :=
  wk_rV As rest Sx hls w md (hM H.size) ⟨rfl, rfl⟩ hR (hc_bl hXb) (fun U hU hW => ⟨by rw [hU], by rw [hU]; exact wk_subC hP hC, va_K.moved hW.alike hK, (hD.sub isC hnC hC).weaken (fun _ _ _ _ => trivial), hX U hU hW⟩) hrv hn hst hW hdg hf
theorem hc_T {Qc : (Nat → Prop) → Array Value → State → Outcome → State → Prop} (As rest : List Value) (isC : List Nat) (Sx : CallFix p m c cc nL s args BW own) (hls : ls.size = nL) (w : WT own idx y b n r) (md : MD y k) (hM : HC l y b n r rm D ty As Y wc Qc) (hR : rm.frames + 1 ≤ R.frames ∧ 8 + (n + 11) + rm.locals ≤ R.locals) (hP : va_P D cls ws H) (hD : va_D A0 ws) (hC : isC.map (fun i => ws[i]?) = wc.map some) (hnC : va_nd isC = true) (hK : va_K D cls ty s) (hXb : ∀ (A : Nat → Prop) (a : Array Value) (U : State) (g : JFrame) (mk : MethodId), Y A U → Y A (U.calling g mk a)) (hX : ∀ U : State, U.heap = H → s.WarmedH U.vm → Y (va_A wc H.size) U)
    (hn : As.length = k) (hst : st0 = As.reverse ++ rest) (hW : (rest.map fun v => v.category).sum ≤ 8) (hdg : decode cc pc = .ok (.invokestatic idx, 3)) (hf : cells + rm.cells ≤ R.cells ∧ slots + rm.slots ≤ R.slots) :
    va_Run p l e R s m args below meth c H locs cells slots rm.cells rm.slots (F0 m pc ls st0) rest (Qc (va_A wc H.size) As.toArray) (va_A wc H.size) :=
  wk_rT As rest Sx hls w md (hM H.size) ⟨rfl, rfl⟩ hR (hc_bl hXb) (fun U hU hW => ⟨by rw [hU], by rw [hU]; exact wk_subC hP hC, va_K.moved hW.alike hK, (hD.sub isC hnC hC).weaken (fun _ _ _ _ => trivial), hX U hU hW⟩) hn hst hW hdg hf
theorem hc_I {Qc : (Nat → Prop) → Array Value → State → Outcome → State → Prop} (As rest : List Value) (isC : List Nat) (Sx : CallFix p m c cc nL s args BW own) (hls : ls.size = nL) (w : WI own idx y b n) (md : MD y k) (hi : y.name = "<init>") (hM : HC l y b n none rm D ty (.ref o :: As) Y wc Qc) (hR : rm.frames + 1 ≤ R.frames ∧ 8 + (n + 11) + rm.locals ≤ R.locals) (hP : va_P D cls ws H) (hD : va_D A0 ws) (hC : isC.map (fun i => ws[i]?) = wc.map some) (hnC : va_nd isC = true) (hK : va_K D cls ty s) (hXb : ∀ (A : Nat → Prop) (a : Array Value) (U : State) (g : JFrame) (mk : MethodId), Y A U → Y A (U.calling g mk a)) (hX : ∀ U : State, U.heap = H → s.WarmedH U.vm → Y (va_A wc H.size) U)
    (hn : As.length = k) (hst : st0 = As.reverse ++ .ref o :: rest) (hW : (rest.map fun v => v.category).sum ≤ 8) (hdg : decode cc pc = .ok (.invokespecial idx, 3)) (hf : cells + rm.cells ≤ R.cells ∧ slots + rm.slots ≤ R.slots) :
    va_Run p l e R s m args below meth c H locs cells slots rm.cells rm.slots (F0 m pc ls st0) rest (Qc (va_A wc H.size) (Value.ref o :: As).toArray) (va_A wc H.size) :=
  wk_rI As rest Sx hls w md hi (hM H.size) ⟨rfl, rfl⟩ hR (hc_bl hXb) (fun U hU hW => ⟨by rw [hU], by rw [hU]; exact wk_subC hP hC, va_K.moved hW.alike hK, (hD.sub isC hnC hC).weaken (fun _ _ _ _ => trivial), hX U hU hW⟩) hn hst hW hdg hf
theorem hc_IN {Qc : (Nat → Prop) → Array Value → State → Outcome → State → Prop} (As rest : List Value) (isC : List Nat) (Sx : CallFix p m c cc nL s args BW own) (hNN : NN s) (hls : ls.size = nL) (w : WIN own idx y b n) (md : MD y k) (hi : y.name = "<init>") (hM : HC l y b n none rm D ty (.ref o :: As) Y wc Qc) (hR : rm.frames + 1 ≤ R.frames ∧ 8 + (n + 11) + rm.locals ≤ R.locals) (hP : va_P D cls ws H) (hD : va_D A0 ws) (hC : isC.map (fun i => ws[i]?) = wc.map some) (hnC : va_nd isC = true) (hK : va_K D cls ty s) (hXb : ∀ (A : Nat → Prop) (a : Array Value) (U : State) (g : JFrame) (mk : MethodId), Y A U → Y A (U.calling g mk a)) (hX : ∀ U : State, U.heap = H → s.WarmedH U.vm → Y (va_A wc H.size) U)
    (hn : As.length = k) (hst : st0 = As.reverse ++ .ref o :: rest) (hW : (rest.map fun v => v.category).sum ≤ 8) (hdg : decode cc pc = .ok (.invokespecial idx, 3)) (hf : cells + rm.cells ≤ R.cells ∧ slots + rm.slots ≤ R.slots) :
    va_Run p l e R s m args below meth c H locs cells slots rm.cells rm.slots (F0 m pc ls st0) rest (Qc (va_A wc H.size) (Value.ref o :: As).toArray) (va_A wc H.size) :=
  wk_rIN As rest Sx hNN hls w md hi (hM H.size) ⟨rfl, rfl⟩ hR (hc_bl hXb) (fun U hU hW => ⟨by rw [hU], by rw [hU]; exact wk_subC hP hC, va_K.moved hW.alike hK, (hD.sub isC hnC hC).weaken (fun _ _ _ _ => trivial), hX U hU hW⟩) hn hst hW hdg hf
/-- behind such a call: what it left, beside the rest -/
theorem hk_i {S : Type} {post : Int32 → S → Prop} {W1 : S → va_W} {a : Array Value} {rest : List Value} {mc ms c1 s1 : Nat} (isC isR : List Nat) (hr : va_Run p l e R s m args below meth c H locs cells slots mc ms (F0 m pc ls st0) rest (QI D post W1 (va_A wc H.size) a) (va_A wc H.size)) (hS : va_S A0 H0 H locs) (hA : ∀ q : Nat, H0.size ≤ q → A0 q) (hP : va_P D cls ws H) (hD : va_D A0 ws) (hC : isC.map (fun i => ws[i]?) = wc.map some) (hRr : isR.map (fun i => ws[i]?) = wr.map some) (hn : va_nd isR = true) (hdis : ∀ i ∈ isR, i ∉ isC) (h1 : cells + mc = c1) (h2 : slots + ms = s1)
    (kk : ∀ (v : Int32) (u : S) (H1 : Heap) (locs1 : List Loc), post v u → va_P D cls (wr ++ W1 u) H1 → va_D A0 (wr ++ W1 u) → va_S A0 H0 H1 locs1 → W p l e R s m args below meth c H1 locs1 c1 s1 Q (F0 m (pc + 3) ls (.int v :: rest))) : W p l e R s m args below meth c H locs cells slots Q (F0 m pc ls st0) := by
  subst h1; subst h2
  have hFc := va_free hD hS hA isC hC
  refine va_calli hr hS (fun q _ h => hFc q h) hFc (fun v u t H1 locs1 ht hvm hw hB hz hk hS1 => ?_)
  obtain ⟨hP1, hD1⟩ := hB
  rw [ht] at hP1
  obtain ⟨hP2, hD2⟩ := va_join hP hD isC isR hC hRr hn hdis hk hFc hP1 hD1
  exact kk v u H1 locs1 hw hP2 hD2 hS1
theorem hk_l {S : Type} {post : Int64 → S → Prop} {W1 : S → va_W} {a : Array Value} {rest : List Value} {mc ms c1 s1 : Nat} (isC isR : List Nat) (hr : va_Run p l e R s m args below meth c H locs cells slots mc ms (F0 m pc ls st0) rest (QL D post W1 (va_A wc H.size) a) (va_A wc H.size)) (hS : va_S A0 H0 H locs) (hA : ∀ q : Nat, H0.size ≤ q → A0 q) (hP : va_P D cls ws H) (hD : va_D A0 ws) (hC : isC.map (fun i => ws[i]?) = wc.map some) (hRr : isR.map (fun i => ws[i]?) = wr.map some) (hn : va_nd isR = true) (hdis : ∀ i ∈ isR, i ∉ isC) (h1 : cells + mc = c1) (h2 : slots + ms = s1)
    (kk : ∀ (v : Int64) (u : S) (H1 : Heap) (locs1 : List Loc), post v u → va_P D cls (wr ++ W1 u) H1 → va_D A0 (wr ++ W1 u) → va_S A0 H0 H1 locs1 → W p l e R s m args below meth c H1 locs1 c1 s1 Q (F0 m (pc + 3) ls (.long v :: rest))) : W p l e R s m args below meth c H locs cells slots Q (F0 m pc ls st0) := by
  subst h1; subst h2
  have hFc := va_free hD hS hA isC hC
  refine va_calll hr hS (fun q _ h => hFc q h) hFc (fun v u t H1 locs1 ht hvm hw hB hz hk hS1 => ?_)
  obtain ⟨hP1, hD1⟩ := hB
  rw [ht] at hP1
  obtain ⟨hP2, hD2⟩ := va_join hP hD isC isR hC hRr hn hdis hk hFc hP1 hD1
  exact kk v u H1 locs1 hw hP2 hD2 hS1
theorem hk_v {S : Type} {post : S → Prop} {W1 : S → va_W} {a : Array Value} {rest : List Value} {mc ms c1 s1 : Nat} (isC isR : List Nat) (hr : va_Run p l e R s m args below meth c H locs cells slots mc ms (F0 m pc ls st0) rest (QV D post W1 (va_A wc H.size) a) (va_A wc H.size)) (hS : va_S A0 H0 H locs) (hA : ∀ q : Nat, H0.size ≤ q → A0 q) (hP : va_P D cls ws H) (hD : va_D A0 ws) (hC : isC.map (fun i => ws[i]?) = wc.map some) (hRr : isR.map (fun i => ws[i]?) = wr.map some) (hn : va_nd isR = true) (hdis : ∀ i ∈ isR, i ∉ isC) (h1 : cells + mc = c1) (h2 : slots + ms = s1)
    (kk : ∀ (u : S) (H1 : Heap) (locs1 : List Loc), post u → va_P D cls (wr ++ W1 u) H1 → va_D A0 (wr ++ W1 u) → va_S A0 H0 H1 locs1 → W p l e R s m args below meth c H1 locs1 c1 s1 Q (F0 m (pc + 3) ls rest)) : W p l e R s m args below meth c H locs cells slots Q (F0 m pc ls st0) := by
  subst h1; subst h2
  have hFc := va_free hD hS hA isC hC
  refine va_callv hr hS (fun q _ h => hFc q h) hFc (fun u t H1 locs1 ht hvm hw hB hz hk hS1 => ?_)
  obtain ⟨hP1, hD1⟩ := hB
  rw [ht] at hP1
  obtain ⟨hP2, hD2⟩ := va_join hP hD isC isR hC hRr hn hdis hk hFc hP1 hD1
  exact kk u H1 locs1 hw hP2 hD2 hS1
/-- fields and elements, with the world behind them named -/
def EF (C : String) (T : u_T) (N : Nat) (t : Nat → FieldType) : Prop := (∀ w ∈ u_ws C T N, w ∈ BW) ∧ (∀ k, k < N → parseFieldDescriptor (T k).2.2.1 = some (t k)) ∧ (∀ a, a < N → ∀ b, b < N → a ≠ b → (T a).2.1 ≠ (T b).2.1)
theorem wk_get {C : String} {T : u_T} {N ci a : Nat} {t : Nat → FieldType} {rest : List Value} (Sx : CallFix p m c cc nL s args BW own) (ef : EF C T N t) (hK : va_K D cls ty s) (hP : va_P D cls ws H) (q0 : Nat) {fs : List Value} (he : ws[q0]? = some (a, .inr (ci, fs))) (hc : cls[ci]? = some (C, T, N)) (k : Nat) (hk : k < N) (hlink : Cond.fieldLink own idx (T k).1 (T k).2.1 (T k).2.2.1 ∈ BW) {v : Value} (hv : fs[k]? = some v) (hdg : decode cc pc = .ok (.getfield idx, 3)) (kk : W p l e R s m args below meth c H locs cells slots Q (F0 m (pc + 3) ls (v :: rest))) : W p l e R s m args below meth c H locs cells slots Q (F0 m pc ls (.ref a :: rest)) :=
  va_get Sx.1 Sx.2.1 Sx.2.2.2.2 ef.1 Sx.2.2.2.1 hK hP q0 he hc k hk (Sx.2.2.2.2 _ hlink) (fun _ h => h) hv hdg kk
theorem wk_put {C : String} {T : u_T} {N ci a : Nat} {t : Nat → FieldType} {rest : List Value} {ws' : va_W} (Sx : CallFix p m c cc nL s args BW own) (ef : EF C T N t) (hK : va_K D cls ty s) (hP : va_P D cls ws H) (hD : va_D A0 ws) (hS : va_S A0 H0 H locs) (q0 : Nat) {fs : List Value} (he : ws[q0]? = some (a, .inr (ci, fs))) (hc : cls[ci]? = some (C, T, N)) (k : Nat) (hk : k < N) (hlink : Cond.fieldLink own idx (T k).1 (T k).2.1 (T k).2.2.1 ∈ BW) (hfin : (T k).2.2.2 = false) {v : Value} (hn : narrow (t k) v = v) (hfit : fits (t k) v = true) (hl : k < fs.length) (hdg : decode cc pc = .ok (.putfield idx, 3)) (hw : ws.set q0 (a, .inr (ci, fs.set k v)) = ws')
    (kk : ∀ (H1 : Heap) (locs1 : List Loc), va_P D cls ws' H1 → va_D A0 ws' → va_S A0 H0 H1 locs1 → W p l e R s m args below meth c H1 locs1 cells slots Q (F0 m (pc + 3) ls rest)) : W p l e R s m args below meth c H locs cells slots Q (F0 m pc ls (v :: .ref a :: rest)) := by
  subst hw
  exact va_put Sx.1 Sx.2.1 Sx.2.2.2.2 ef.1 t ef.2.1 ef.2.2 Sx.2.2.2.1 hK hP hD hS q0 he hc k hk (Sx.2.2.2.2 _ hlink) (fun _ h => h) hfin (ef.2.1 k hk) hn hfit hl hdg kk
theorem wk_putF {C : String} {T : u_T} {N ci a : Nat} {t : Nat → FieldType} {rest : List Value} {ws' : va_W} (Sx : CallFix p m c cc nL s args BW own) (ef : EF C T N t) (hK : va_K D cls ty s) (hP : va_P D cls ws H) (hD : va_D A0 ws) (hS : va_S A0 H0 H locs) (q0 : Nat) {fs : List Value} (he : ws[q0]? = some (a, .inr (ci, fs))) (hc : cls[ci]? = some (C, T, N)) (k : Nat) (hk : k < N) (hlink : Cond.fieldLink own idx (T k).1 (T k).2.1 (T k).2.2.1 ∈ BW) (hfin : (T k).2.2.2 = true) (hin : meth.name = "<init>") (hdecl : (T k).1 = own) {v : Value} (hn : narrow (t k) v = v) (hfit : fits (t k) v = true) (hl : k < fs.length) (hdg : decode cc pc = .ok (.putfield idx, 3)) (hw : ws.set q0 (a, .inr (ci, fs.set k v)) = ws')
    (kk : ∀ (H1 : Heap) (locs1 : List Loc), va_P D cls ws' H1 → va_D A0 ws' → va_S A0 H0 H1 locs1 → W p l e R s m args below meth c H1 locs1 cells slots Q (F0 m (pc + 3) ls rest)) : W p l e R s m args below meth c H locs cells slots Q (F0 m pc ls (v :: .ref a :: rest)) := by
  subst hw
  exact va_putF Sx.1 Sx.2.1 Sx.2.2.2.2 ef.1 t ef.2.1 ef.2.2 Sx.2.2.2.1 hK hP hD hS q0 he hc k hk (Sx.2.2.2.2 _ hlink) (fun _ h => h) hfin hin hdecl (ef.2.1 k hk) hn hfit hl hdg kk
theorem wk_new {C : String} {T : u_T} {N ci : Nat} {t : Nat → FieldType} {rest : List Value} {fs : List Value} {c1 s1 : Nat} (Sx : CallFix p m c cc nL s args BW own) (ef : EF C T N t) (hK : va_K D cls ty s) (hP : va_P D cls ws H) (hD : va_D A0 ws) (hS : va_S A0 H0 H locs) (hA : ∀ q : Nat, H0.size ≤ q → A0 q) (hc : cls[ci]? = some (C, T, N)) (hcl : Cond.classLink own idx C ∈ BW) (hinst : Cond.instantiable C N ∈ BW) (hini : Cond.initialized C ∈ BW) (hfs : ∀ j, j < N → defaultValue (t j) = vp_V fs j) (hcells : cells + 1 ≤ R.cells) (hslots : slots + N ≤ R.slots) (h1 : cells + 1 = c1) (h2 : slots + N = s1) (hdg : decode cc pc = .ok (.new idx, 3))
    (kk : ∀ (q : Nat) (H1 : Heap), va_P D cls (ws ++ [(q, .inr (ci, fs))]) H1 → va_D A0 (ws ++ [(q, .inr (ci, fs))]) → va_S A0 H0 H1 locs → W p l e R s m args below meth c H1 locs c1 s1 Q (F0 m (pc + 3) ls (.ref q :: rest))) : W p l e R s m args below meth c H locs cells slots Q (F0 m pc ls rest) := by
  subst h1; subst h2
  exact va_new Sx.1 Sx.2.1 Sx.2.2.2.2 ef.1 t ef.2.1 Sx.2.2.2.1 (Sx.2.2.2.2 _ hcl) (Sx.2.2.2.2 _ hinst) (Sx.2.2.2.2 _ hini) hK hP hD hS hA hc hfs hcells hslots hdg kk
theorem wk_newa {at_ : ArrayType} {ft : FieldType} {rest : List Value} {c1 s1 : Nat} {cI : ClassId} (Sx : CallFix p m c cc nL s args BW own) (harr : Cond.arrayClass (newarray.typeOf at_) ∈ BW) (hty : newarray.typeOf at_ = ft) (hK : va_K D cls ty s) (t0 : Nat) (ht : ty[t0]? = some (cI, ft)) (hprim : ∀ c1 : ClassId, va_RA s c1 ft → s.vm.findClass ("[" ++ ft.toString) = some c1) (hP : va_P D cls ws H) (hD : va_D A0 ws) (hS : va_S A0 H0 H locs) (hA : ∀ q : Nat, H0.size ≤ q → A0 q) {n' : Int32} (N' : Nat) {a0 : vp_A} (ha : ∀ cA : ClassId, vp_cell cA a0 = arrV cA N' (fun _ => defaultValue ft)) (hn : ¬ n' < 0) (hN : n'.toNatClampNeg = N') (hbytes : N' * componentBytes ft ≤ 536870912) (hcells : cells + 1 ≤ R.cells) (hslots : slots + N' ≤ R.slots) (h1 : cells + 1 = c1) (h2 : slots + N' = s1) (hdg : decode cc pc = .ok (.newarray at_, 2))
    (kk : ∀ (q : Nat) (H1 : Heap), va_P D cls (ws ++ [(q, .inl (cI, a0))]) H1 → va_D A0 (ws ++ [(q, .inl (cI, a0))]) → va_S A0 H0 H1 locs → W p l e R s m args below meth c H1 locs c1 s1 Q (F0 m (pc + 2) ls (.ref q :: rest))) : W p l e R s m args below meth c H locs cells slots Q (F0 m pc ls (.int n' :: rest)) := by
  subst h1; subst h2
  refine va_newa Sx.1 Sx.2.1 (atype := at_) (Sx.2.2.2.2 _ harr) hty hK hP hD hS hA ha hn hN hbytes hcells hslots hdg (fun q cA H1 hK1 hP1 hD1 hS1 => ?_)
  have e1 := hprim cA ((hK1.2 ty.length (cA, ft) (by rw [List.getElem?_append_right (Nat.le_refl _), Nat.sub_self]; rfl)).2)
  have e2 := hprim cI ((hK.2 t0 (cI, ft) ht).2)
  have e3 : cA = cI := Option.some.inj (e1.symm.trans e2)
  subst e3
  exact kk q H1 hP1 hD1 hS1
theorem wk_iast {a : Nat} {cA : ClassId} {n' : Nat} {f : Nat → Int32} {rest : List Value} {ws' : va_W} (Sx : CallFix p m c cc nL s args BW own) (hK : va_K D cls ty s) (hP : va_P D cls ws H) (hD : va_D A0 ws) (hS : va_S A0 H0 H locs) (q0 t0 : Nat) (ha : ws[q0]? = some (a, .inl (cA, n', .inl f))) (ht : ty[t0]? = some (cA, .int)) {i x : Int32} (hin : vp_in i n') (hdg : decode cc pc = .ok (.iastore, 1)) (hw : ws.set q0 (a, .inl (cA, n', .inl (upd f i.toNatClampNeg x))) = ws')
    (kk : ∀ (H1 : Heap) (locs1 : List Loc), va_P D cls ws' H1 → va_D A0 ws' → va_S A0 H0 H1 locs1 → W p l e R s m args below meth c H1 locs1 cells slots Q (F0 m (pc + 1) ls rest)) : W p l e R s m args below meth c H locs cells slots Q (F0 m pc ls (.int x :: .int i :: .ref a :: rest)) := by
  subst hw
  exact va_iast Sx.1 Sx.2.1 hK hP hD hS q0 t0 ha ht hin hdg kk
theorem wk_bast {a : Nat} {cA : ClassId} {n' : Nat} {f : Nat → Int32} {rest : List Value} {ws' : va_W} (Sx : CallFix p m c cc nL s args BW own) (hK : va_K D cls ty s) (hP : va_P D cls ws H) (hD : va_D A0 ws) (hS : va_S A0 H0 H locs) (q0 t0 : Nat) (ha : ws[q0]? = some (a, .inl (cA, n', .inl f))) (ht : ty[t0]? = some (cA, .byte)) {i x : Int32} (hin : vp_in i n') (hdg : decode cc pc = .ok (.bastore, 1)) (hw : ws.set q0 (a, .inl (cA, n', .inl (upd f i.toNatClampNeg (vp_nar .byte x)))) = ws')
    (kk : ∀ (H1 : Heap) (locs1 : List Loc), va_P D cls ws' H1 → va_D A0 ws' → va_S A0 H0 H1 locs1 → W p l e R s m args below meth c H1 locs1 cells slots Q (F0 m (pc + 1) ls rest)) : W p l e R s m args below meth c H locs cells slots Q (F0 m pc ls (.int x :: .int i :: .ref a :: rest)) := by
  subst hw
  exact va_bast Sx.1 Sx.2.1 hK hP hD hS q0 t0 ha ht hin hdg kk
theorem wk_last {a : Nat} {cA : ClassId} {n' : Nat} {f : Nat → Int64} {rest : List Value} {ws' : va_W} (Sx : CallFix p m c cc nL s args BW own) (hK : va_K D cls ty s) (hP : va_P D cls ws H) (hD : va_D A0 ws) (hS : va_S A0 H0 H locs) (q0 t0 : Nat) (ha : ws[q0]? = some (a, .inl (cA, n', .inr (.inl f)))) (ht : ty[t0]? = some (cA, .long)) {i : Int32} {x : Int64} (hin : vp_in i n') (hdg : decode cc pc = .ok (.lastore, 1)) (hw : ws.set q0 (a, .inl (cA, n', .inr (.inl (vp_updL f i.toNatClampNeg x)))) = ws')
    (kk : ∀ (H1 : Heap) (locs1 : List Loc), va_P D cls ws' H1 → va_D A0 ws' → va_S A0 H0 H1 locs1 → W p l e R s m args below meth c H1 locs1 cells slots Q (F0 m (pc + 1) ls rest)) : W p l e R s m args below meth c H locs cells slots Q (F0 m pc ls (.long x :: .int i :: .ref a :: rest)) := by
  subst hw
  exact va_last Sx.1 Sx.2.1 hK hP hD hS q0 t0 ha ht hin hdg kk
end WK2

theorem ef_0 : EF "WhiteElephants$Buyers" ET0 6 EY0 := ⟨bw_ps _ [237, 239, 241, 243, 245, 247] (by decide +kernel) (by decide +kernel), by decide +kernel, by decide +kernel⟩
theorem nd_0 : ∀ j, j < 6 → defaultValue (EY0 j) = vp_V [.null, .null, .null, .null, .null, .int 0] j := by
  intro j hj
  rcases (show j = 0 ∨ j = 1 ∨ j = 2 ∨ j = 3 ∨ j = 4 ∨ j = 5 by omega) with rfl | rfl | rfl | rfl | rfl | rfl <;> rfl
theorem ef_1 : EF "WhiteElephants$Hall" ET1 14 EY1 := ⟨bw_ps _ [347, 349, 351, 353, 355, 357, 359, 361, 363, 365, 367, 369, 371, 373] (by decide +kernel) (by decide +kernel), by decide +kernel, by decide +kernel⟩
theorem nd_1 : ∀ j, j < 14 → defaultValue (EY1 j) = vp_V [.null, .null, .null, .null, .null, .null, .null, .int 0, .int 0, .int 0, .int 0, .int 0, .null, .null] j := by
  intro j hj
  rcases (show j = 0 ∨ j = 1 ∨ j = 2 ∨ j = 3 ∨ j = 4 ∨ j = 5 ∨ j = 6 ∨ j = 7 ∨ j = 8 ∨ j = 9 ∨ j = 10 ∨ j = 11 ∨ j = 12 ∨ j = 13 by omega) with rfl | rfl | rfl | rfl | rfl | rfl | rfl | rfl | rfl | rfl | rfl | rfl | rfl | rfl <;> rfl
theorem ef_2 : EF "WhiteElephants$Ladies" ET2 4 EY2 := ⟨bw_ps _ [186, 188, 190, 192] (by decide +kernel) (by decide +kernel), by decide +kernel, by decide +kernel⟩
theorem nd_2 : ∀ j, j < 4 → defaultValue (EY2 j) = vp_V [.null, .null, .null, .int 0] j := by
  intro j hj
  rcases (show j = 0 ∨ j = 1 ∨ j = 2 ∨ j = 3 by omega) with rfl | rfl | rfl | rfl <;> rfl
theorem ef_3 : EF "WhiteElephants$Laws" ET3 3 EY3 := ⟨bw_ps _ [206, 208, 210] (by decide +kernel) (by decide +kernel), by decide +kernel, by decide +kernel⟩
theorem nd_3 : ∀ j, j < 3 → defaultValue (EY3 j) = vp_V [.null, .null, .int 0] j := by
  intro j hj
  rcases (show j = 0 ∨ j = 1 ∨ j = 2 by omega) with rfl | rfl | rfl <;> rfl
theorem ef_4 : EF "WhiteElephants$Picks" ET4 2 EY4 := ⟨bw_ps _ [418, 420] (by decide +kernel) (by decide +kernel), by decide +kernel, by decide +kernel⟩
theorem nd_4 : ∀ j, j < 2 → defaultValue (EY4 j) = vp_V [.null, .null] j := by
  intro j hj
  rcases (show j = 0 ∨ j = 1 by omega) with rfl | rfl <;> rfl
theorem ef_5 : EF "WhiteElephants$Sale" ET5 9 EY5 := ⟨bw_ps _ [391, 393, 395, 397, 399, 401, 403, 405, 407] (by decide +kernel) (by decide +kernel), by decide +kernel, by decide +kernel⟩
theorem nd_5 : ∀ j, j < 9 → defaultValue (EY5 j) = vp_V [.int 0, .int 0, .null, .int 0, .null, .null, .null, .null, .null] j := by
  intro j hj
  rcases (show j = 0 ∨ j = 1 ∨ j = 2 ∨ j = 3 ∨ j = 4 ∨ j = 5 ∨ j = 6 ∨ j = 7 ∨ j = 8 by omega) with rfl | rfl | rfl | rfl | rfl | rfl | rfl | rfl | rfl <;> rfl
theorem ef_6 : EF "WhiteElephants$Secrets" ET6 9 EY6 := ⟨bw_ps _ [299, 301, 303, 305, 307, 309, 311, 313, 315] (by decide +kernel) (by decide +kernel), by decide +kernel, by decide +kernel⟩
theorem nd_6 : ∀ j, j < 9 → defaultValue (EY6 j) = vp_V [.null, .null, .int 0, .null, .null, .null, .null, .int 0, .null] j := by
  intro j hj
  rcases (show j = 0 ∨ j = 1 ∨ j = 2 ∨ j = 3 ∨ j = 4 ∨ j = 5 ∨ j = 6 ∨ j = 7 ∨ j = 8 by omega) with rfl | rfl | rfl | rfl | rfl | rfl | rfl | rfl | rfl <;> rfl
theorem ef_7 : EF "WhiteElephants$Shelf" ET7 3 EY7 := ⟨bw_ps _ [434, 436, 438] (by decide +kernel) (by decide +kernel), by decide +kernel, by decide +kernel⟩
theorem nd_7 : ∀ j, j < 3 → defaultValue (EY7 j) = vp_V [.null, .int 0, .int 0] j := by
  intro j hj
  rcases (show j = 0 ∨ j = 1 ∨ j = 2 by omega) with rfl | rfl | rfl <;> rfl
theorem ef_8 : EF "WhiteElephants$Sightings" ET8 8 EY8 := ⟨bw_ps _ [265, 267, 269, 271, 273, 275, 277, 279] (by decide +kernel) (by decide +kernel), by decide +kernel, by decide +kernel⟩
theorem nd_8 : ∀ j, j < 8 → defaultValue (EY8 j) = vp_V [.null, .null, .null, .null, .int 0, .null, .null, .null] j := by
  intro j hj
  rcases (show j = 0 ∨ j = 1 ∨ j = 2 ∨ j = 3 ∨ j = 4 ∨ j = 5 ∨ j = 6 ∨ j = 7 by omega) with rfl | rfl | rfl | rfl | rfl | rfl | rfl | rfl <;> rfl
theorem ef_9 : EF "WhiteElephants$Tape" ET9 4 EY9 := ⟨bw_ps _ [103, 105, 107, 109] (by decide +kernel) (by decide +kernel), by decide +kernel, by decide +kernel⟩
theorem nd_9 : ∀ j, j < 4 → defaultValue (EY9 j) = vp_V [.null, .int 0, .int 0, .int 0] j := by
  intro j hj
  rcases (show j = 0 ∨ j = 1 ∨ j = 2 ∨ j = 3 by omega) with rfl | rfl | rfl | rfl <;> rfl
theorem ef_10 : EF "WhiteElephants$Things" ET10 8 EY10 := ⟨bw_ps _ [153, 155, 157, 159, 161, 163, 165, 167] (by decide +kernel) (by decide +kernel), by decide +kernel, by decide +kernel⟩
theorem nd_10 : ∀ j, j < 8 → defaultValue (EY10 j) = vp_V [.null, .null, .null, .null, .null, .null, .int 0, .null] j := by
  intro j hj
  rcases (show j = 0 ∨ j = 1 ∨ j = 2 ∨ j = 3 ∨ j = 4 ∨ j = 5 ∨ j = 6 ∨ j = 7 by omega) with rfl | rfl | rfl | rfl | rfl | rfl | rfl | rfl <;> rfl
theorem ef_11 : EF "WhiteElephants" ET11 8 EY11 := ⟨bw_ps _ [450, 452, 454, 456, 458, 460, 462, 464] (by decide +kernel) (by decide +kernel), by decide +kernel, by decide +kernel⟩
theorem nd_11 : ∀ j, j < 8 → defaultValue (EY11 j) = vp_V [.null, .null, .null, .null, .null, .null, .null, .int 0] j := by
  intro j hj
  rcases (show j = 0 ∨ j = 1 ∨ j = 2 ∨ j = 3 ∨ j = 4 ∨ j = 5 ∨ j = 6 ∨ j = 7 by omega) with rfl | rfl | rfl | rfl | rfl | rfl | rfl | rfl <;> rfl
theorem ef_12 : EF "WhiteElephantsModel" ET12 51 EY12 := ⟨bw_ps _ [1212, 1214, 1216, 1218, 1220, 1222, 1224, 1226, 1228, 1230, 1232, 1234, 1236, 1238, 1240, 1242, 1244, 1246, 1248, 1250, 1252, 1254, 1256, 1258, 1260, 1262, 1264, 1266, 1268, 1270, 1272, 1274, 1276, 1278, 1280, 1282, 1284, 1286, 1288, 1290, 1292, 1294, 1296, 1298, 1300, 1302, 1304, 1306, 1308, 1310, 1312] (by decide +kernel) (by decide +kernel), by decide +kernel, by decide +kernel⟩
theorem nd_12 : ∀ j, j < 51 → defaultValue (EY12 j) = vp_V [.null, .null, .null, .int 0, .null, .null, .null, .null, .null, .null, .int 0, .null, .null, .null, .int 0, .null, .int 0, .null, .int 0, .null, .null, .null, .null, .null, .int 0, .null, .int 0, .null, .null, .null, .null, .int 0, .null, .null, .null, .null, .null, .int 0, .null, .null, .null, .null, .null, .null, .null, .null, .null, .null, .null, .null, .null] j := by
  intro j hj
  rcases (show j = 0 ∨ j = 1 ∨ j = 2 ∨ j = 3 ∨ j = 4 ∨ j = 5 ∨ j = 6 ∨ j = 7 ∨ j = 8 ∨ j = 9 ∨ j = 10 ∨ j = 11 ∨ j = 12 ∨ j = 13 ∨ j = 14 ∨ j = 15 ∨ j = 16 ∨ j = 17 ∨ j = 18 ∨ j = 19 ∨ j = 20 ∨ j = 21 ∨ j = 22 ∨ j = 23 ∨ j = 24 ∨ j = 25 ∨ j = 26 ∨ j = 27 ∨ j = 28 ∨ j = 29 ∨ j = 30 ∨ j = 31 ∨ j = 32 ∨ j = 33 ∨ j = 34 ∨ j = 35 ∨ j = 36 ∨ j = 37 ∨ j = 38 ∨ j = 39 ∨ j = 40 ∨ j = 41 ∨ j = 42 ∨ j = 43 ∨ j = 44 ∨ j = 45 ∨ j = 46 ∨ j = 47 ∨ j = 48 ∨ j = 49 ∨ j = 50 by omega) with rfl | rfl | rfl | rfl | rfl | rfl | rfl | rfl | rfl | rfl | rfl | rfl | rfl | rfl | rfl | rfl | rfl | rfl | rfl | rfl | rfl | rfl | rfl | rfl | rfl | rfl | rfl | rfl | rfl | rfl | rfl | rfl | rfl | rfl | rfl | rfl | rfl | rfl | rfl | rfl | rfl | rfl | rfl | rfl | rfl | rfl | rfl | rfl | rfl | rfl | rfl <;> rfl
theorem ws_X_55 : WT "WhiteElephants" 55 my_X11_isShelf mb_X11_isShelf 1 ((some .boolean)) := ⟨kk_411, kk_412, kk_1, kk_413⟩
theorem ws_X_59 : WT "WhiteElephants" 59 my_X11_within mb_X11_within 3 ((some .boolean)) := ⟨kk_414, kk_415, kk_1, kk_416⟩
theorem ws_X_63 : WV "WhiteElephants" 63 my_X11_refuse mb_X11_refuse 3 ((some .int)) := ⟨kk_417, kk_419, (bw_at 0 (by decide +kernel) rfl), kk_1, kk_420⟩
theorem ws_X_71 : WV "WhiteElephants" 71 my_X11_refusalOfRow mb_X11_refusalOfRow 2 ((some .int)) := ⟨kk_432, kk_434, (bw_at 1 (by decide +kernel) rfl), kk_1, kk_435⟩
theorem ws_X_82 : WV "WhiteElephants" 82 my_X7_hasThing mb_X7_hasThing 1 ((some .boolean)) := ⟨kk_436, kk_437, kk_438, kk_12, kk_439⟩
theorem ws_X_92 : WV "WhiteElephants" 92 my_X7_isEmpty mb_X7_isEmpty 1 ((some .boolean)) := ⟨kk_440, kk_441, kk_442, kk_12, kk_443⟩
theorem ws_X_339 : WT "WhiteElephants" 339 my_X11_isPerson mb_X11_isPerson 1 ((some .boolean)) := ⟨kk_928, kk_929, kk_1, kk_930⟩
theorem ws_Shelf_22 : WTN "WhiteElephants$Shelf" 22 my_X11_within mb_X11_within 3 ((some .boolean)) := ⟨by decide +kernel, kk_415, kk_1, kk_416⟩
abbrev fThings (q : Nat → Nat) : List Value := [.ref (q 1), .ref (q 2), .ref (q 3), .ref (q 4), .ref (q 5), .ref (q 6), .int 0, .ref (q 7)]
abbrev fLadies (q : Nat → Nat) : List Value := [.ref (q 1), .ref (q 2), .ref (q 3), .int 0]
abbrev fLaws (q : Nat → Nat) : List Value := [.ref (q 1), .ref (q 2), .int 0]
abbrev fBuyers (q : Nat → Nat) : List Value := [.ref (q 1), .ref (q 2), .ref (q 3), .ref (q 4), .ref (q 5), .int 0]
abbrev fSightings (q : Nat → Nat) : List Value := [.ref (q 1), .ref (q 2), .ref (q 3), .ref (q 4), .int 0, .ref (q 5), .ref (q 6), .ref (q 7)]
abbrev fSecrets (q : Nat → Nat) : List Value := [.ref (q 1), .ref (q 2), .int 0, .ref (q 3), .ref (q 4), .ref (q 5), .ref (q 6), .int 0, .ref (q 7)]
abbrev fHall (q : Nat → Nat) : List Value := [.ref (q 1), .ref (q 9), .ref (q 13), .ref (q 16), .ref (q 22), .ref (q 30), .ref (q 38), .int 0, .int 12, .int 12, .int 0, .int 0, .ref (q 39), .ref (q 40)]
abbrev fTape (q : Nat → Nat) : List Value := [.ref (q 1), .int 0, .int 0, .int 0]
abbrev fShelf (q : Nat → Nat) : List Value := [.ref (q 1), .int (-1), .int 0]
abbrev fSale (q : Nat → Nat) : List Value := [.int 12, .int 12, .ref (q 1), .int 0, .ref (q 2), .ref (q 3), .ref (q 4), .ref (q 5), .ref (q 6)]
abbrev fPicks (q : Nat → Nat) : List Value := [.ref (q 1), .ref (q 2)]
abbrev fX (q : Nat → Nat) : List Value := [.ref (q 1), .ref (q 2), .ref (q 3), .ref (q 5), .ref (q 46), .ref (q 87), .ref (q 94), .int 0]
abbrev fM (q : Nat → Nat) : List Value := [.ref (q 0), .ref (q 1), .ref (q 2), .int 0, .ref (q 4), .ref (q 5), .ref (q 6), .ref (q 7), .ref (q 8), .ref (q 9), .int 0, .ref (q 11), .ref (q 12), .ref (q 13), .int 0, .ref (q 15), .int 0, .ref (q 17), .int 0, .ref (q 19), .ref (q 20), .ref (q 21), .ref (q 22), .ref (q 23), .int 0, .ref (q 25), .int 0, .ref (q 27), .ref (q 28), .ref (q 29), .ref (q 30), .int 0, .ref (q 32), .ref (q 33), .ref (q 34), .ref (q 35), .ref (q 36), .int 0, .ref (q 38), .ref (q 39), .ref (q 40), .ref (q 41), .ref (q 42), .ref (q 43), .ref (q 44), .ref (q 45), .ref (q 46), .ref (q 47), .ref (q 48), .ref (q 49), .null]
abbrev shv (q : Nat → Nat) : Nat → Option Nat := (va_up (va_up (va_up (va_up (va_up (va_up (va_up (va_up (fun _ => none) 0 (some (q 97))) 1 (some (q 99))) 2 (some (q 101))) 3 (some (q 103))) 4 (some (q 105))) 5 (some (q 107))) 6 (some (q 109))) 7 (some (q 111)))
abbrev hold0 : Nat → Int32 := (upd (upd (upd (upd (upd (upd (upd (upd (fun _ => 0) 0 (-1)) 1 (-1)) 2 (-1)) 3 (-1)) 4 (-1)) 5 (-1)) 6 (-1)) 7 (-1))
abbrev hours0 : Nat → Int32 := upd (upd (fun _ => 0) 0 12) 1 12
theorem hold0_at : ∀ j, j < 8 → hold0 j = -1 := by
  intro j hj
  rcases (show j = 0 ∨ j = 1 ∨ j = 2 ∨ j = 3 ∨ j = 4 ∨ j = 5 ∨ j = 6 ∨ j = 7 by omega) with rfl | rfl | rfl | rfl | rfl | rfl | rfl | rfl <;> rfl
theorem shv_at (q : Nat → Nat) : ∀ j, j < 8 → shv q j = some (q (97 + 2 * j)) := by
  intro j hj
  rcases (show j = 0 ∨ j = 1 ∨ j = 2 ∨ j = 3 ∨ j = 4 ∨ j = 5 ∨ j = 6 ∨ j = 7 by omega) with rfl | rfl | rfl | rfl | rfl | rfl | rfl | rfl <;> rfl
theorem p_nil {D : va_G} {cl : List vw_C} {H : Heap} : va_P D cl [] H := fun k q h => by simp at h
theorem d_nil {A : Nat → Prop} : va_D A [] := ⟨fun i j p q h => by simp at h, fun k q h => by simp at h⟩
abbrev wShelves (cy : Nat → ClassId) (q : Nat → Nat) : va_W := [(q 97, .inr (7, fShelf (fun k => q (97 + k)))), (q 98, .inl (cy 2, 40, .inr (.inl (fun _ => 0)))), (q 99, .inr (7, fShelf (fun k => q (99 + k)))), (q 100, .inl (cy 2, 40, .inr (.inl (fun _ => 0)))), (q 101, .inr (7, fShelf (fun k => q (101 + k)))), (q 102, .inl (cy 2, 40, .inr (.inl (fun _ => 0)))), (q 103, .inr (7, fShelf (fun k => q (103 + k)))), (q 104, .inl (cy 2, 40, .inr (.inl (fun _ => 0)))), (q 105, .inr (7, fShelf (fun k => q (105 + k)))), (q 106, .inl (cy 2, 40, .inr (.inl (fun _ => 0)))), (q 107, .inr (7, fShelf (fun k => q (107 + k)))), (q 108, .inl (cy 2, 40, .inr (.inl (fun _ => 0)))), (q 109, .inr (7, fShelf (fun k => q (109 + k)))), (q 110, .inl (cy 2, 40, .inr (.inl (fun _ => 0)))), (q 111, .inr (7, fShelf (fun k => q (111 + k)))), (q 112, .inl (cy 2, 40, .inr (.inl (fun _ => 0))))]
abbrev wShelf (cy : Nat → ClassId) (q : Nat → Nat) : va_W := [(q 0, .inr (7, fShelf q)), (q 1, .inl (cy 2, 40, .inr (.inl (fun _ => 0))))]
theorem sh_p {D : va_G} {cl : List vw_C} {H : Heap} {cy : Nat → ClassId} {q : Nat → Nat} (h : va_P D cl (wShelves cy q) H) : ∀ j, j < 8 → va_P D cl (wShelf cy (fun k => q (97 + 2 * j + k))) H := by
  intro j hj
  rcases (show j = 0 ∨ j = 1 ∨ j = 2 ∨ j = 3 ∨ j = 4 ∨ j = 5 ∨ j = 6 ∨ j = 7 by omega) with rfl | rfl | rfl | rfl | rfl | rfl | rfl | rfl
  · exact h.sub [0, 1] rfl
  · exact h.sub [2, 3] rfl
  · exact h.sub [4, 5] rfl
  · exact h.sub [6, 7] rfl
  · exact h.sub [8, 9] rfl
  · exact h.sub [10, 11] rfl
  · exact h.sub [12, 13] rfl
  · exact h.sub [14, 15] rfl
theorem sh_d {A : Nat → Prop} {cy : Nat → ClassId} {q : Nat → Nat} (h : va_D A (wShelves cy q)) : ∀ j, j < 8 → va_D A (wShelf cy (fun k => q (97 + 2 * j + k))) := by
  intro j hj
  rcases (show j = 0 ∨ j = 1 ∨ j = 2 ∨ j = 3 ∨ j = 4 ∨ j = 5 ∨ j = 6 ∨ j = 7 by omega) with rfl | rfl | rfl | rfl | rfl | rfl | rfl | rfl
  · exact h.sub [0, 1] (by decide) rfl
  · exact h.sub [2, 3] (by decide) rfl
  · exact h.sub [4, 5] (by decide) rfl
  · exact h.sub [6, 7] (by decide) rfl
  · exact h.sub [8, 9] (by decide) rfl
  · exact h.sub [10, 11] (by decide) rfl
  · exact h.sub [12, 13] (by decide) rfl
  · exact h.sub [14, 15] (by decide) rfl
end
section
set_option maxHeartbeats 4000000 in
set_option maxRecDepth 100000 in
theorem c_within (l : Launch) (D : va_G) (cy : Nat → ClassId) (v : Int32) (a : Int32) (b : Int32) : PC l my_X11_within mb_X11_within 3 ((some .boolean)) (rmD 1 0 0) D (TY cy) [.int v, .int a, .int b] NS [] (vp_Si (fun r => if2 (a.toInt ≤ v.toInt ∧ v.toInt ≤ b.toInt) 1 0 r)) := by
  refine pc_intro (by decide) (Nat.le_of_ble_eq_true rfl) (fun p e s m below meth c ls Sx hr hlocks hl hP hK hX => ?_)
  have hx := Sx.1
  have hb := Sx.2.1
  have hl : lv_has ls 3 [(0, .int v), (1, .int a), (2, .int b)] := hl
  refine lv_iload_n hx hb dd_X11_within_0 rfl (lv_at hl 0 rfl) ?_
  refine lv_iload_n hx hb dd_X11_within_1 rfl (lv_at hl 1 rfl) ?_
  refine lv_icmp_lt (tgt := 14) hx hb dd_X11_within_2 (by decide) (fun c1 => ?_) (fun c1 => ?_)
  · have fc1 := ci_lt (a := v.toInt) (b := a.toInt) rfl rfl c1
    refine lv_iconst (v := 0) hx hb dd_X11_within_14 (by decide) ?_
    exact pc_ret Sx hr hlocks rfl dd_X11_within_15 (Or.inr ⟨by omega, rfl⟩)
  · have fc1 := ci_nlt (a := v.toInt) (b := a.toInt) rfl rfl c1
    refine lv_iload_n hx hb dd_X11_within_5 rfl (lv_at hl 0 rfl) ?_
    refine lv_iload_n hx hb dd_X11_within_6 rfl (lv_at hl 2 rfl) ?_
    refine lv_icmp_gt (tgt := 14) hx hb dd_X11_within_7 (by decide) (fun c2 => ?_) (fun c2 => ?_)
    · have fc2 := ci_lt (a := b.toInt) (b := v.toInt) rfl rfl c2
      refine lv_iconst (v := 0) hx hb dd_X11_within_14 (by decide) ?_
      exact pc_ret Sx hr hlocks rfl dd_X11_within_15 (Or.inr ⟨by omega, rfl⟩)
    · have fc2 := ci_nlt (a := b.toInt) (b := v.toInt) rfl rfl c2
      refine lv_iconst (v := 1) hx hb dd_X11_within_10 (by decide) ?_
      refine lv_goto (tgt := 15) hx hb dd_X11_within_11 (by decide) ?_
      exact pc_ret Sx hr hlocks rfl dd_X11_within_15 (Or.inl ⟨by omega, rfl⟩)
set_option maxHeartbeats 4000000 in
set_option maxRecDepth 100000 in
theorem c_isShelf (l : Launch) (D : va_G) (cy : Nat → ClassId) (v : Int32) : PC l my_X11_isShelf mb_X11_isShelf 1 ((some .boolean)) (rmD 2 0 0) D (TY cy) [.int v] NS [] (vp_Si (fun r => if2 (0 ≤ v.toInt ∧ v.toInt ≤ 7) 1 0 r)) := by
  refine pc_intro (by decide) (Nat.le_of_ble_eq_true rfl) (fun p e s m below meth c ls Sx hr hlocks hl hP hK hX => ?_)
  have hx := Sx.1
  have hb := Sx.2.1
  have hl : lv_has ls 1 [(0, .int v)] := hl
  refine lv_iload_n hx hb dd_X11_isShelf_0 rfl (lv_at hl 0 rfl) ?_
  refine lv_iconst (v := 0) hx hb dd_X11_isShelf_1 (by decide) ?_
  refine lv_bipush (v := 7) hx hb dd_X11_isShelf_2 (by decide) ?_
  refine pk_i (pc_T [.int v, .int 0, .int 7] [] Sx hl.1 ws_X_59 md_X11_within (c_within l D cy v 0 7) ⟨rfl, rfl⟩ ⟨Nat.le_of_ble_eq_true rfl, Nat.le_of_ble_eq_true rfl⟩ p_nil hK ns_b (ns_w hX) rfl rfl (Nat.le_of_ble_eq_true rfl) dd_X11_isShelf_4 ⟨Nat.le_of_ble_eq_true rfl, Nat.le_of_ble_eq_true rfl⟩) (fun r1 hw2 => ?_)
  rcases hw2 with ⟨hw2, ehw2⟩ | ⟨hw2, ehw2⟩
  · have hl3 : Int32.toInt 0 = 0 := rfl
    have hl4 : Int32.toInt 7 = 7 := rfl
    subst ehw2
    exact pc_ret Sx hr hlocks rfl dd_X11_isShelf_7 (Or.inl ⟨by omega, rfl⟩)
  · have hl5 : Int32.toInt 0 = 0 := rfl
    have hl6 : Int32.toInt 7 = 7 := rfl
    subst ehw2
    exact pc_ret Sx hr hlocks rfl dd_X11_isShelf_7 (Or.inr ⟨by omega, rfl⟩)
set_option maxHeartbeats 4000000 in
set_option maxRecDepth 100000 in
theorem c_isKind (l : Launch) (D : va_G) (cy : Nat → ClassId) (v : Int32) : PC l my_X11_isKind mb_X11_isKind 1 ((some .boolean)) (rmD 2 0 0) D (TY cy) [.int v] NS [] (vp_Si (fun r => if2 (0 ≤ v.toInt ∧ v.toInt ≤ 5) 1 0 r)) := by
  refine pc_intro (by decide) (Nat.le_of_ble_eq_true rfl) (fun p e s m below meth c ls Sx hr hlocks hl hP hK hX => ?_)
  have hx := Sx.1
  have hb := Sx.2.1
  have hl : lv_has ls 1 [(0, .int v)] := hl
  refine lv_iload_n hx hb dd_X11_isKind_0 rfl (lv_at hl 0 rfl) ?_
  refine lv_iconst (v := 0) hx hb dd_X11_isKind_1 (by decide) ?_
  refine lv_iconst (v := 5) hx hb dd_X11_isKind_2 (by decide) ?_
  refine pk_i (pc_T [.int v, .int 0, .int 5] [] Sx hl.1 ws_X_59 md_X11_within (c_within l D cy v 0 5) ⟨rfl, rfl⟩ ⟨Nat.le_of_ble_eq_true rfl, Nat.le_of_ble_eq_true rfl⟩ p_nil hK ns_b (ns_w hX) rfl rfl (Nat.le_of_ble_eq_true rfl) dd_X11_isKind_3 ⟨Nat.le_of_ble_eq_true rfl, Nat.le_of_ble_eq_true rfl⟩) (fun r1 hw2 => ?_)
  rcases hw2 with ⟨hw2, ehw2⟩ | ⟨hw2, ehw2⟩
  · have hl3 : Int32.toInt 0 = 0 := rfl
    have hl4 : Int32.toInt 5 = 5 := rfl
    subst ehw2
    exact pc_ret Sx hr hlocks rfl dd_X11_isKind_6 (Or.inl ⟨by omega, rfl⟩)
  · have hl5 : Int32.toInt 0 = 0 := rfl
    have hl6 : Int32.toInt 5 = 5 := rfl
    subst ehw2
    exact pc_ret Sx hr hlocks rfl dd_X11_isKind_6 (Or.inr ⟨by omega, rfl⟩)
set_option maxHeartbeats 4000000 in
set_option maxRecDepth 100000 in
theorem c_isKinds (l : Launch) (D : va_G) (cy : Nat → ClassId) (v : Int32) : PC l my_X11_isKinds mb_X11_isKinds 1 ((some .boolean)) (rmD 2 0 0) D (TY cy) [.int v] NS [] (vp_Si (fun r => if2 (0 ≤ v.toInt ∧ v.toInt ≤ 63) 1 0 r)) := by
  refine pc_intro (by decide) (Nat.le_of_ble_eq_true rfl) (fun p e s m below meth c ls Sx hr hlocks hl hP hK hX => ?_)
  have hx := Sx.1
  have hb := Sx.2.1
  have hl : lv_has ls 1 [(0, .int v)] := hl
  refine lv_iload_n hx hb dd_X11_isKinds_0 rfl (lv_at hl 0 rfl) ?_
  refine lv_iconst (v := 0) hx hb dd_X11_isKinds_1 (by decide) ?_
  refine lv_bipush (v := 63) hx hb dd_X11_isKinds_2 (by decide) ?_
  refine pk_i (pc_T [.int v, .int 0, .int 63] [] Sx hl.1 ws_X_59 md_X11_within (c_within l D cy v 0 63) ⟨rfl, rfl⟩ ⟨Nat.le_of_ble_eq_true rfl, Nat.le_of_ble_eq_true rfl⟩ p_nil hK ns_b (ns_w hX) rfl rfl (Nat.le_of_ble_eq_true rfl) dd_X11_isKinds_4 ⟨Nat.le_of_ble_eq_true rfl, Nat.le_of_ble_eq_true rfl⟩) (fun r1 hw2 => ?_)
  rcases hw2 with ⟨hw2, ehw2⟩ | ⟨hw2, ehw2⟩
  · have hl3 : Int32.toInt 0 = 0 := rfl
    have hl4 : Int32.toInt 63 = 63 := rfl
    subst ehw2
    exact pc_ret Sx hr hlocks rfl dd_X11_isKinds_7 (Or.inl ⟨by omega, rfl⟩)
  · have hl5 : Int32.toInt 0 = 0 := rfl
    have hl6 : Int32.toInt 63 = 63 := rfl
    subst ehw2
    exact pc_ret Sx hr hlocks rfl dd_X11_isKinds_7 (Or.inr ⟨by omega, rfl⟩)
set_option maxHeartbeats 4000000 in
set_option maxRecDepth 100000 in
theorem c_isHour (l : Launch) (D : va_G) (cy : Nat → ClassId) (v : Int32) : PC l my_X11_isHour mb_X11_isHour 1 ((some .boolean)) (rmD 2 0 0) D (TY cy) [.int v] NS [] (vp_Si (fun r => if2 (0 ≤ v.toInt ∧ v.toInt ≤ 11) 1 0 r)) := by
  refine pc_intro (by decide) (Nat.le_of_ble_eq_true rfl) (fun p e s m below meth c ls Sx hr hlocks hl hP hK hX => ?_)
  have hx := Sx.1
  have hb := Sx.2.1
  have hl : lv_has ls 1 [(0, .int v)] := hl
  refine lv_iload_n hx hb dd_X11_isHour_0 rfl (lv_at hl 0 rfl) ?_
  refine lv_iconst (v := 0) hx hb dd_X11_isHour_1 (by decide) ?_
  refine lv_bipush (v := 11) hx hb dd_X11_isHour_2 (by decide) ?_
  refine pk_i (pc_T [.int v, .int 0, .int 11] [] Sx hl.1 ws_X_59 md_X11_within (c_within l D cy v 0 11) ⟨rfl, rfl⟩ ⟨Nat.le_of_ble_eq_true rfl, Nat.le_of_ble_eq_true rfl⟩ p_nil hK ns_b (ns_w hX) rfl rfl (Nat.le_of_ble_eq_true rfl) dd_X11_isHour_4 ⟨Nat.le_of_ble_eq_true rfl, Nat.le_of_ble_eq_true rfl⟩) (fun r1 hw2 => ?_)
  rcases hw2 with ⟨hw2, ehw2⟩ | ⟨hw2, ehw2⟩
  · have hl3 : Int32.toInt 0 = 0 := rfl
    have hl4 : Int32.toInt 11 = 11 := rfl
    subst ehw2
    exact pc_ret Sx hr hlocks rfl dd_X11_isHour_7 (Or.inl ⟨by omega, rfl⟩)
  · have hl5 : Int32.toInt 0 = 0 := rfl
    have hl6 : Int32.toInt 11 = 11 := rfl
    subst ehw2
    exact pc_ret Sx hr hlocks rfl dd_X11_isHour_7 (Or.inr ⟨by omega, rfl⟩)
set_option maxHeartbeats 4000000 in
set_option maxRecDepth 100000 in
theorem c_isPerson (l : Launch) (D : va_G) (cy : Nat → ClassId) (v : Int32) : PC l my_X11_isPerson mb_X11_isPerson 1 ((some .boolean)) (rmD 2 0 0) D (TY cy) [.int v] NS [] (vp_Si (fun r => if2 (0 ≤ v.toInt ∧ v.toInt ≤ 15) 1 0 r)) := by
  refine pc_intro (by decide) (Nat.le_of_ble_eq_true rfl) (fun p e s m below meth c ls Sx hr hlocks hl hP hK hX => ?_)
  have hx := Sx.1
  have hb := Sx.2.1
  have hl : lv_has ls 1 [(0, .int v)] := hl
  refine lv_iload_n hx hb dd_X11_isPerson_0 rfl (lv_at hl 0 rfl) ?_
  refine lv_iconst (v := 0) hx hb dd_X11_isPerson_1 (by decide) ?_
  refine lv_bipush (v := 15) hx hb dd_X11_isPerson_2 (by decide) ?_
  refine pk_i (pc_T [.int v, .int 0, .int 15] [] Sx hl.1 ws_X_59 md_X11_within (c_within l D cy v 0 15) ⟨rfl, rfl⟩ ⟨Nat.le_of_ble_eq_true rfl, Nat.le_of_ble_eq_true rfl⟩ p_nil hK ns_b (ns_w hX) rfl rfl (Nat.le_of_ble_eq_true rfl) dd_X11_isPerson_4 ⟨Nat.le_of_ble_eq_true rfl, Nat.le_of_ble_eq_true rfl⟩) (fun r1 hw2 => ?_)
  rcases hw2 with ⟨hw2, ehw2⟩ | ⟨hw2, ehw2⟩
  · have hl3 : Int32.toInt 0 = 0 := rfl
    have hl4 : Int32.toInt 15 = 15 := rfl
    subst ehw2
    exact pc_ret Sx hr hlocks rfl dd_X11_isPerson_7 (Or.inl ⟨by omega, rfl⟩)
  · have hl5 : Int32.toInt 0 = 0 := rfl
    have hl6 : Int32.toInt 15 = 15 := rfl
    subst ehw2
    exact pc_ret Sx hr hlocks rfl dd_X11_isPerson_7 (Or.inr ⟨by omega, rfl⟩)
set_option maxHeartbeats 4000000 in
set_option maxRecDepth 100000 in
theorem c_isPersonOrNone (l : Launch) (D : va_G) (cy : Nat → ClassId) (v : Int32) : PC l my_X11_isPersonOrNone mb_X11_isPersonOrNone 1 ((some .boolean)) (rmD 3 0 0) D (TY cy) [.int v] NS [] (vp_Si (fun r => if2 ((-1) ≤ v.toInt ∧ v.toInt ≤ 15) 1 0 r)) := by
  refine pc_intro (by decide) (Nat.le_of_ble_eq_true rfl) (fun p e s m below meth c ls Sx hr hlocks hl hP hK hX => ?_)
  have hx := Sx.1
  have hb := Sx.2.1
  have hl : lv_has ls 1 [(0, .int v)] := hl
  refine lv_iload_n hx hb dd_X11_isPersonOrNone_0 rfl (lv_at hl 0 rfl) ?_
  refine lv_iconst (v := (-1)) hx hb dd_X11_isPersonOrNone_1 (by decide) ?_
  refine lv_icmp_eq (tgt := 12) hx hb dd_X11_isPersonOrNone_2 (by decide) (fun c1 => ?_) (fun c1 => ?_)
  · have fc1 := ci_eq (a := v.toInt) (b := (-1)) rfl rfl c1
    refine lv_iconst (v := 1) hx hb dd_X11_isPersonOrNone_12 (by decide) ?_
    refine lv_goto (tgt := 17) hx hb dd_X11_isPersonOrNone_13 (by decide) ?_
    exact pc_ret Sx hr hlocks rfl dd_X11_isPersonOrNone_17 (Or.inl ⟨by omega, rfl⟩)
  · have fc1 := ci_ne (a := v.toInt) (b := (-1)) rfl rfl c1
    refine lv_iload_n hx hb dd_X11_isPersonOrNone_5 rfl (lv_at hl 0 rfl) ?_
    refine pk_i (pc_T [.int v] [] Sx hl.1 ws_X_339 md_X11_isPerson (c_isPerson l D cy v) ⟨rfl, rfl⟩ ⟨Nat.le_of_ble_eq_true rfl, Nat.le_of_ble_eq_true rfl⟩ p_nil hK ns_b (ns_w hX) rfl rfl (Nat.le_of_ble_eq_true rfl) dd_X11_isPersonOrNone_6 ⟨Nat.le_of_ble_eq_true rfl, Nat.le_of_ble_eq_true rfl⟩) (fun r2 hw3 => ?_)
    rcases hw3 with ⟨hw3, ehw3⟩ | ⟨hw3, ehw3⟩
    · subst ehw3
      refine lv_if_eq (tgt := 16) hx hb dd_X11_isPersonOrNone_9 (by decide) (fun c => absurd c (by decide)) (fun _ => ?_)
      refine lv_iconst (v := 1) hx hb dd_X11_isPersonOrNone_12 (by decide) ?_
      refine lv_goto (tgt := 17) hx hb dd_X11_isPersonOrNone_13 (by decide) ?_
      exact pc_ret Sx hr hlocks rfl dd_X11_isPersonOrNone_17 (Or.inl ⟨by omega, rfl⟩)
    · subst ehw3
      refine lv_if_eq (tgt := 16) hx hb dd_X11_isPersonOrNone_9 (by decide) (fun _ => ?_) (fun c => absurd c (by decide))
      refine lv_iconst (v := 0) hx hb dd_X11_isPersonOrNone_16 (by decide) ?_
      exact pc_ret Sx hr hlocks rfl dd_X11_isPersonOrNone_17 (Or.inr ⟨by omega, rfl⟩)
set_option maxHeartbeats 4000000 in
set_option maxRecDepth 100000 in
theorem c_Shelf_isEmpty (l : Launch) (D : va_G) (cy : Nat → ClassId) (q : Nat → Nat) : PC l my_X7_isEmpty mb_X7_isEmpty 1 ((some .boolean)) (rmD 1 0 0) D (TY cy) [.ref (q 0)] NS [(q 0, .inr (7, fShelf q))] (vp_Si (fun r => r = 1)) := by
  refine pc_intro (by decide) (Nat.le_of_ble_eq_true rfl) (fun p e s m below meth c ls Sx hr hlocks hl hP hK hX => ?_)
  have hx := Sx.1
  have hb := Sx.2.1
  have hl : lv_has ls 1 [(0, .ref (q 0))] := hl
  refine lv_aload_n hx hb dd_X7_isEmpty_0 rfl (lv_at hl 0 rfl) ?_
  refine wk_get (v := .int (-1)) Sx ef_7 hK hP 0 rfl rfl 1 (by decide) kk_370 rfl dd_X7_isEmpty_1 ?_
  refine lv_iconst (v := (-1)) hx hb dd_X7_isEmpty_4 (by decide) ?_
  refine lv_icmp_ne (tgt := 12) hx hb dd_X7_isEmpty_5 (by decide) (fun c => absurd c (by decide)) (fun _ => ?_)
  refine lv_iconst (v := 1) hx hb dd_X7_isEmpty_8 (by decide) ?_
  refine lv_goto (tgt := 13) hx hb dd_X7_isEmpty_9 (by decide) ?_
  exact pc_ret Sx hr hlocks rfl dd_X7_isEmpty_13 rfl
set_option maxHeartbeats 4000000 in
set_option maxRecDepth 100000 in
theorem c_Shelf_hasThing (l : Launch) (D : va_G) (cy : Nat → ClassId) (q : Nat → Nat) : PC l my_X7_hasThing mb_X7_hasThing 1 ((some .boolean)) (rmD 1 0 0) D (TY cy) [.ref (q 0)] NS [(q 0, .inr (7, fShelf q))] (vp_Si (fun r => r = 0)) := by
  refine pc_intro (by decide) (Nat.le_of_ble_eq_true rfl) (fun p e s m below meth c ls Sx hr hlocks hl hP hK hX => ?_)
  have hx := Sx.1
  have hb := Sx.2.1
  have hl : lv_has ls 1 [(0, .ref (q 0))] := hl
  refine lv_aload_n hx hb dd_X7_hasThing_0 rfl (lv_at hl 0 rfl) ?_
  refine wk_get (v := .int (-1)) Sx ef_7 hK hP 0 rfl rfl 1 (by decide) kk_370 rfl dd_X7_hasThing_1 ?_
  refine lv_bipush (v := 10) hx hb dd_X7_hasThing_4 (by decide) ?_
  refine lv_icmp_lt (tgt := 13) hx hb dd_X7_hasThing_6 (by decide) (fun _ => ?_) (fun c => absurd c (by decide))
  refine lv_iconst (v := 0) hx hb dd_X7_hasThing_13 (by decide) ?_
  exact pc_ret Sx hr hlocks rfl dd_X7_hasThing_14 rfl
set_option maxHeartbeats 4000000 in
set_option maxRecDepth 100000 in
theorem c_Shelf_hasRow (l : Launch) (D : va_G) (cy : Nat → ClassId) (q : Nat → Nat) : PC l my_X7_hasRow mb_X7_hasRow 1 ((some .boolean)) (rmD 2 0 0) D (TY cy) [.ref (q 0)] NS [(q 0, .inr (7, fShelf q))] (vp_Si (fun r => r = 0)) := by
  refine pc_intro (by decide) (Nat.le_of_ble_eq_true rfl) (fun p e s m below meth c ls Sx hr hlocks hl hP hK hX => ?_)
  have hx := Sx.1
  have hb := Sx.2.1
  have hl : lv_has ls 1 [(0, .ref (q 0))] := hl
  refine lv_aload_n hx hb dd_X7_hasRow_0 rfl (lv_at hl 0 rfl) ?_
  refine wk_get (v := .int (-1)) Sx ef_7 hK hP 0 rfl rfl 1 (by decide) kk_370 rfl dd_X7_hasRow_1 ?_
  refine lv_iconst (v := 0) hx hb dd_X7_hasRow_4 (by decide) ?_
  refine lv_iconst (v := 4) hx hb dd_X7_hasRow_5 (by decide) ?_
  refine pk_i (pc_TN [.int (-1), .int 0, .int 4] [] Sx hX hl.1 ws_Shelf_22 md_X11_within (c_within l D cy (-1) 0 4) ⟨rfl, rfl⟩ ⟨Nat.le_of_ble_eq_true rfl, Nat.le_of_ble_eq_true rfl⟩ p_nil hK ns_b (ns_w hX) rfl rfl (Nat.le_of_ble_eq_true rfl) dd_X7_hasRow_6 ⟨Nat.le_of_ble_eq_true rfl, Nat.le_of_ble_eq_true rfl⟩) (fun r1 hw2 => ?_)
  rcases hw2 with ⟨hw2, ehw2⟩ | ⟨hw2, ehw2⟩
  · have hl3 : Int32.toInt (-1) = (-1) := rfl
    have hl4 : Int32.toInt 0 = 0 := rfl
    have hl5 : Int32.toInt 4 = 4 := rfl
    exfalso; omega
  · have hl6 : Int32.toInt (-1) = (-1) := rfl
    have hl7 : Int32.toInt 0 = 0 := rfl
    have hl8 : Int32.toInt 4 = 4 := rfl
    subst ehw2
    exact pc_ret Sx hr hlocks rfl dd_X7_hasRow_9 rfl
set_option maxHeartbeats 4000000 in
set_option maxRecDepth 100000 in
theorem c_refuse_2 (l : Launch) (D : va_G) (cy : Nat → ClassId) (q : Nat → Nat) : HC l my_X11_refuse mb_X11_refuse 3 ((some .int)) (rmD 2 0 0) D (TY cy) [.ref (q 0), .int (-2)] NX [(q 0, .inr (11, fX q)), (q 2, .inl (cy 0, 5, .inl (fun _ => 0)))] (QI (S := Unit) D (fun r _ => r = (-2)) (fun _ => [])) := by
  refine hc_intro (by decide) (Nat.le_of_ble_eq_true rfl) (fun p e s m below meth c A ls Sx hr hlocks hin hl hP hD hK hS hA hX => ?_)
  have hx := Sx.1
  have hb := Sx.2.1
  have hl : lv_has ls 3 [(0, .ref (q 0)), (1, .int (-2))] := hl
  have hP : va_P D cls [(q 0, .inr (11, fX q)), (q 2, .inl (cy 0, 5, .inl (fun _ => 0)))] s.heap := hP
  have hD : va_D A [(q 0, .inr (11, fX q)), (q 2, .inl (cy 0, 5, .inl (fun _ => 0)))] := hD
  refine lv_bipush (v := (-2)) hx hb dd_X11_refuse_0 (by decide) ?_
  refine lv_iload_n hx hb dd_X11_refuse_2 rfl (lv_at hl 1 rfl) ?_
  refine lv_isub hx hb dd_X11_refuse_3 ?_
  refine wk_int (v := 0) (by decide) ?_
  refine lv_istore_n (lv' := [(2, .int 0), (0, .ref (q 0)), (1, .int (-2))]) hx hb dd_X11_refuse_4 rfl hl (by decide) rfl (fun ls hl => ?_)
  refine lv_iload_n hx hb dd_X11_refuse_5 rfl (lv_at hl 0 rfl) ?_
  refine lv_iconst (v := 0) hx hb dd_X11_refuse_6 (by decide) ?_
  refine lv_iconst (v := 4) hx hb dd_X11_refuse_7 (by decide) ?_
  refine pk_i (pc_T [.int 0, .int 0, .int 4] [] Sx hl.1 ws_X_59 md_X11_within (c_within l D cy 0 0 4) ⟨rfl, rfl⟩ ⟨Nat.le_of_ble_eq_true rfl, Nat.le_of_ble_eq_true rfl⟩ p_nil hK ns_b (ns_w hX) rfl rfl (Nat.le_of_ble_eq_true rfl) dd_X11_refuse_8 ⟨Nat.le_of_ble_eq_true rfl, Nat.le_of_ble_eq_true rfl⟩) (fun r1 hw2 => ?_)
  rcases hw2 with ⟨hw2, ehw2⟩ | ⟨hw2, ehw2⟩
  · have hl3 : Int32.toInt 0 = 0 := rfl
    have hl4 : Int32.toInt 4 = 4 := rfl
    subst ehw2
    refine lv_if_eq (tgt := 24) hx hb dd_X11_refuse_11 (by decide) (fun c => absurd c (by decide)) (fun _ => ?_)
    refine lv_aload_n hx hb dd_X11_refuse_14 rfl (lv_at hl 1 rfl) ?_
    refine wk_get (v := .ref (q 2)) Sx ef_11 hK hP 0 rfl rfl 1 (by decide) kk_383 rfl dd_X11_refuse_15 ?_
    refine lv_iload_n hx hb dd_X11_refuse_18 rfl (lv_at hl 0 rfl) ?_
    refine lv_dup2_11 hx hb dd_X11_refuse_19 rfl rfl ?_
    have hi5 : vp_in 0 5 := (vi_of (by decide))
    refine va_iald hx hb hK hP 1 0 rfl rfl hi5 dd_X11_refuse_20 ?_
    refine wk_int (v := 0) rfl ?_
    refine lv_iconst (v := 1) hx hb dd_X11_refuse_21 (by decide) ?_
    refine lv_iadd hx hb dd_X11_refuse_22 ?_
    refine wk_int (v := 1) (by decide) ?_
    refine wk_iast (ws' := [(q 0, .inr (11, fX q)), (q 2, .inl (cy 0, 5, .inl (upd (fun _ => 0) (0 : Int32).toNatClampNeg 1)))]) Sx hK hP hD hS 1 0 rfl rfl (vi_of (by decide)) dd_X11_refuse_23 rfl (fun H locs hP hD hS => ?_)
    refine lv_iload_n hx hb dd_X11_refuse_24 rfl (lv_at hl 2 rfl) ?_
    exact hc_ret Sx hr hlocks dd_X11_refuse_25 hS () rfl p_nil d_nil
  · have hl6 : Int32.toInt 0 = 0 := rfl
    have hl7 : Int32.toInt 4 = 4 := rfl
    exfalso; omega
set_option maxHeartbeats 4000000 in
set_option maxRecDepth 100000 in
theorem c_refuse_4 (l : Launch) (D : va_G) (cy : Nat → ClassId) (q : Nat → Nat) : HC l my_X11_refuse mb_X11_refuse 3 ((some .int)) (rmD 2 0 0) D (TY cy) [.ref (q 0), .int (-4)] NX [(q 0, .inr (11, fX q)), (q 2, .inl (cy 0, 5, .inl (fun _ => 0)))] (QI (S := Unit) D (fun r _ => r = (-4)) (fun _ => [])) := by
  refine hc_intro (by decide) (Nat.le_of_ble_eq_true rfl) (fun p e s m below meth c A ls Sx hr hlocks hin hl hP hD hK hS hA hX => ?_)
  have hx := Sx.1
  have hb := Sx.2.1
  have hl : lv_has ls 3 [(0, .ref (q 0)), (1, .int (-4))] := hl
  have hP : va_P D cls [(q 0, .inr (11, fX q)), (q 2, .inl (cy 0, 5, .inl (fun _ => 0)))] s.heap := hP
  have hD : va_D A [(q 0, .inr (11, fX q)), (q 2, .inl (cy 0, 5, .inl (fun _ => 0)))] := hD
  refine lv_bipush (v := (-2)) hx hb dd_X11_refuse_0 (by decide) ?_
  refine lv_iload_n hx hb dd_X11_refuse_2 rfl (lv_at hl 1 rfl) ?_
  refine lv_isub hx hb dd_X11_refuse_3 ?_
  refine wk_int (v := 2) (by decide) ?_
  refine lv_istore_n (lv' := [(2, .int 2), (0, .ref (q 0)), (1, .int (-4))]) hx hb dd_X11_refuse_4 rfl hl (by decide) rfl (fun ls hl => ?_)
  refine lv_iload_n hx hb dd_X11_refuse_5 rfl (lv_at hl 0 rfl) ?_
  refine lv_iconst (v := 0) hx hb dd_X11_refuse_6 (by decide) ?_
  refine lv_iconst (v := 4) hx hb dd_X11_refuse_7 (by decide) ?_
  refine pk_i (pc_T [.int 2, .int 0, .int 4] [] Sx hl.1 ws_X_59 md_X11_within (c_within l D cy 2 0 4) ⟨rfl, rfl⟩ ⟨Nat.le_of_ble_eq_true rfl, Nat.le_of_ble_eq_true rfl⟩ p_nil hK ns_b (ns_w hX) rfl rfl (Nat.le_of_ble_eq_true rfl) dd_X11_refuse_8 ⟨Nat.le_of_ble_eq_true rfl, Nat.le_of_ble_eq_true rfl⟩) (fun r1 hw2 => ?_)
  rcases hw2 with ⟨hw2, ehw2⟩ | ⟨hw2, ehw2⟩
  · have hl3 : Int32.toInt 0 = 0 := rfl
    have hl4 : Int32.toInt 2 = 2 := rfl
    have hl5 : Int32.toInt 4 = 4 := rfl
    subst ehw2
    refine lv_if_eq (tgt := 24) hx hb dd_X11_refuse_11 (by decide) (fun c => absurd c (by decide)) (fun _ => ?_)
    refine lv_aload_n hx hb dd_X11_refuse_14 rfl (lv_at hl 1 rfl) ?_
    refine wk_get (v := .ref (q 2)) Sx ef_11 hK hP 0 rfl rfl 1 (by decide) kk_383 rfl dd_X11_refuse_15 ?_
    refine lv_iload_n hx hb dd_X11_refuse_18 rfl (lv_at hl 0 rfl) ?_
    refine lv_dup2_11 hx hb dd_X11_refuse_19 rfl rfl ?_
    have hi6 : vp_in 2 5 := (vi_of (by decide))
    refine va_iald hx hb hK hP 1 0 rfl rfl hi6 dd_X11_refuse_20 ?_
    refine wk_int (v := 0) rfl ?_
    refine lv_iconst (v := 1) hx hb dd_X11_refuse_21 (by decide) ?_
    refine lv_iadd hx hb dd_X11_refuse_22 ?_
    refine wk_int (v := 1) (by decide) ?_
    refine wk_iast (ws' := [(q 0, .inr (11, fX q)), (q 2, .inl (cy 0, 5, .inl (upd (fun _ => 0) (2 : Int32).toNatClampNeg 1)))]) Sx hK hP hD hS 1 0 rfl rfl (vi_of (by decide)) dd_X11_refuse_23 rfl (fun H locs hP hD hS => ?_)
    refine lv_iload_n hx hb dd_X11_refuse_24 rfl (lv_at hl 2 rfl) ?_
    exact hc_ret Sx hr hlocks dd_X11_refuse_25 hS () rfl p_nil d_nil
  · have hl7 : Int32.toInt 0 = 0 := rfl
    have hl8 : Int32.toInt 2 = 2 := rfl
    have hl9 : Int32.toInt 4 = 4 := rfl
    exfalso; omega
set_option maxHeartbeats 4000000 in
set_option maxRecDepth 100000 in
theorem c_refuse_5 (l : Launch) (D : va_G) (cy : Nat → ClassId) (q : Nat → Nat) : HC l my_X11_refuse mb_X11_refuse 3 ((some .int)) (rmD 2 0 0) D (TY cy) [.ref (q 0), .int (-5)] NX [(q 0, .inr (11, fX q)), (q 2, .inl (cy 0, 5, .inl (fun _ => 0)))] (QI (S := Unit) D (fun r _ => r = (-5)) (fun _ => [])) := by
  refine hc_intro (by decide) (Nat.le_of_ble_eq_true rfl) (fun p e s m below meth c A ls Sx hr hlocks hin hl hP hD hK hS hA hX => ?_)
  have hx := Sx.1
  have hb := Sx.2.1
  have hl : lv_has ls 3 [(0, .ref (q 0)), (1, .int (-5))] := hl
  have hP : va_P D cls [(q 0, .inr (11, fX q)), (q 2, .inl (cy 0, 5, .inl (fun _ => 0)))] s.heap := hP
  have hD : va_D A [(q 0, .inr (11, fX q)), (q 2, .inl (cy 0, 5, .inl (fun _ => 0)))] := hD
  refine lv_bipush (v := (-2)) hx hb dd_X11_refuse_0 (by decide) ?_
  refine lv_iload_n hx hb dd_X11_refuse_2 rfl (lv_at hl 1 rfl) ?_
  refine lv_isub hx hb dd_X11_refuse_3 ?_
  refine wk_int (v := 3) (by decide) ?_
  refine lv_istore_n (lv' := [(2, .int 3), (0, .ref (q 0)), (1, .int (-5))]) hx hb dd_X11_refuse_4 rfl hl (by decide) rfl (fun ls hl => ?_)
  refine lv_iload_n hx hb dd_X11_refuse_5 rfl (lv_at hl 0 rfl) ?_
  refine lv_iconst (v := 0) hx hb dd_X11_refuse_6 (by decide) ?_
  refine lv_iconst (v := 4) hx hb dd_X11_refuse_7 (by decide) ?_
  refine pk_i (pc_T [.int 3, .int 0, .int 4] [] Sx hl.1 ws_X_59 md_X11_within (c_within l D cy 3 0 4) ⟨rfl, rfl⟩ ⟨Nat.le_of_ble_eq_true rfl, Nat.le_of_ble_eq_true rfl⟩ p_nil hK ns_b (ns_w hX) rfl rfl (Nat.le_of_ble_eq_true rfl) dd_X11_refuse_8 ⟨Nat.le_of_ble_eq_true rfl, Nat.le_of_ble_eq_true rfl⟩) (fun r1 hw2 => ?_)
  rcases hw2 with ⟨hw2, ehw2⟩ | ⟨hw2, ehw2⟩
  · have hl3 : Int32.toInt 0 = 0 := rfl
    have hl4 : Int32.toInt 3 = 3 := rfl
    have hl5 : Int32.toInt 4 = 4 := rfl
    subst ehw2
    refine lv_if_eq (tgt := 24) hx hb dd_X11_refuse_11 (by decide) (fun c => absurd c (by decide)) (fun _ => ?_)
    refine lv_aload_n hx hb dd_X11_refuse_14 rfl (lv_at hl 1 rfl) ?_
    refine wk_get (v := .ref (q 2)) Sx ef_11 hK hP 0 rfl rfl 1 (by decide) kk_383 rfl dd_X11_refuse_15 ?_
    refine lv_iload_n hx hb dd_X11_refuse_18 rfl (lv_at hl 0 rfl) ?_
    refine lv_dup2_11 hx hb dd_X11_refuse_19 rfl rfl ?_
    have hi6 : vp_in 3 5 := (vi_of (by decide))
    refine va_iald hx hb hK hP 1 0 rfl rfl hi6 dd_X11_refuse_20 ?_
    refine wk_int (v := 0) rfl ?_
    refine lv_iconst (v := 1) hx hb dd_X11_refuse_21 (by decide) ?_
    refine lv_iadd hx hb dd_X11_refuse_22 ?_
    refine wk_int (v := 1) (by decide) ?_
    refine wk_iast (ws' := [(q 0, .inr (11, fX q)), (q 2, .inl (cy 0, 5, .inl (upd (fun _ => 0) (3 : Int32).toNatClampNeg 1)))]) Sx hK hP hD hS 1 0 rfl rfl (vi_of (by decide)) dd_X11_refuse_23 rfl (fun H locs hP hD hS => ?_)
    refine lv_iload_n hx hb dd_X11_refuse_24 rfl (lv_at hl 2 rfl) ?_
    exact hc_ret Sx hr hlocks dd_X11_refuse_25 hS () rfl p_nil d_nil
  · have hl7 : Int32.toInt 0 = 0 := rfl
    have hl8 : Int32.toInt 3 = 3 := rfl
    have hl9 : Int32.toInt 4 = 4 := rfl
    exfalso; omega
set_option maxHeartbeats 4000000 in
set_option maxRecDepth 100000 in
theorem c_refusalOfRow (l : Launch) (D : va_G) (cy : Nat → ClassId) (q : Nat → Nat) (sf : Int32) : PC l my_X11_refusalOfRow mb_X11_refusalOfRow 2 ((some .int)) (rmD 3 0 0) D (TY cy) [.ref (q 0), .int sf] NS [(q 0, .inr (11, fX q)), (q 1, .inl (cy 4, 8, .inr (.inr (.inr (.inr (shv q)))))), (q 97, .inr (7, fShelf (fun k => q (97 + k)))), (q 98, .inl (cy 2, 40, .inr (.inl (fun _ => 0)))), (q 99, .inr (7, fShelf (fun k => q (99 + k)))), (q 100, .inl (cy 2, 40, .inr (.inl (fun _ => 0)))), (q 101, .inr (7, fShelf (fun k => q (101 + k)))), (q 102, .inl (cy 2, 40, .inr (.inl (fun _ => 0)))), (q 103, .inr (7, fShelf (fun k => q (103 + k)))), (q 104, .inl (cy 2, 40, .inr (.inl (fun _ => 0)))), (q 105, .inr (7, fShelf (fun k => q (105 + k)))), (q 106, .inl (cy 2, 40, .inr (.inl (fun _ => 0)))), (q 107, .inr (7, fShelf (fun k => q (107 + k)))), (q 108, .inl (cy 2, 40, .inr (.inl (fun _ => 0)))), (q 109, .inr (7, fShelf (fun k => q (109 + k)))), (q 110, .inl (cy 2, 40, .inr (.inl (fun _ => 0)))), (q 111, .inr (7, fShelf (fun k => q (111 + k)))), (q 112, .inl (cy 2, 40, .inr (.inl (fun _ => 0))))] (vp_Si (fun r => if2 (0 ≤ sf.toInt ∧ sf.toInt ≤ 7) (-4) (-2) r)) := by
  refine pc_intro (by decide) (Nat.le_of_ble_eq_true rfl) (fun p e s m below meth c ls Sx hr hlocks hl hP hK hX => ?_)
  have hx := Sx.1
  have hb := Sx.2.1
  have hl : lv_has ls 2 [(0, .ref (q 0)), (1, .int sf)] := hl
  refine lv_iload_n hx hb dd_X11_refusalOfRow_0 rfl (lv_at hl 1 rfl) ?_
  refine pk_i (pc_T [.int sf] [] Sx hl.1 ws_X_55 md_X11_isShelf (c_isShelf l D cy sf) ⟨rfl, rfl⟩ ⟨Nat.le_of_ble_eq_true rfl, Nat.le_of_ble_eq_true rfl⟩ p_nil hK ns_b (ns_w hX) rfl rfl (Nat.le_of_ble_eq_true rfl) dd_X11_refusalOfRow_1 ⟨Nat.le_of_ble_eq_true rfl, Nat.le_of_ble_eq_true rfl⟩) (fun r1 hw2 => ?_)
  rcases hw2 with ⟨hw2, ehw2⟩ | ⟨hw2, ehw2⟩
  · subst ehw2
    refine lv_if_ne (tgt := 10) hx hb dd_X11_refusalOfRow_4 (by decide) (fun _ => ?_) (fun c => absurd c (by decide))
    refine lv_aload_n hx hb dd_X11_refusalOfRow_10 rfl (lv_at hl 0 rfl) ?_
    refine wk_get (v := .ref (q 1)) Sx ef_11 hK hP 0 rfl rfl 0 (by decide) kk_382 rfl dd_X11_refusalOfRow_11 ?_
    refine lv_iload_n hx hb dd_X11_refusalOfRow_14 rfl (lv_at hl 1 rfl) ?_
    have hi3 : vp_in sf 8 := (vi_of (by omega))
    refine va_aldq hx hb hK hP 1 4 rfl rfl hi3 dd_X11_refusalOfRow_15 ?_
    obtain ⟨j4, hjj4, ejj4⟩ : ∃ y, y < 8 ∧ sf.toNatClampNeg = y := ⟨_, vi_lt hi3, rfl⟩
    have hpj4 := sh_p (cy := cy) (q := q) (hP.sub [2, 3, 4, 5, 6, 7, 8, 9, 10, 11, 12, 13, 14, 15, 16, 17] rfl) j4 hjj4
    refine wk_val (v := .ref (q (97 + 2 * j4))) (by rw [ejj4, shv_at _ _ hjj4]; rfl) ?_
    refine pk_i (pc_V [] [] Sx hl.1 ws_X_82 md_X7_hasThing (c_Shelf_hasThing l D cy (fun k => q (97 + 2 * j4 + k))) ⟨rfl, rfl⟩ ⟨Nat.le_of_ble_eq_true rfl, Nat.le_of_ble_eq_true rfl⟩ (hpj4.sub [0] rfl) hK ns_b (ns_w hX) (va_recv hK hpj4 (ci := 7) (q0 := 0) rfl rfl) rfl rfl (Nat.le_of_ble_eq_true rfl) dd_X11_refusalOfRow_16 ⟨Nat.le_of_ble_eq_true rfl, Nat.le_of_ble_eq_true rfl⟩) (fun r5 hw6 => ?_)
    subst hw6
    refine lv_if_eq (tgt := 25) hx hb dd_X11_refusalOfRow_19 (by decide) (fun _ => ?_) (fun c => absurd c (by decide))
    refine lv_aload_n hx hb dd_X11_refusalOfRow_25 rfl (lv_at hl 0 rfl) ?_
    refine wk_get (v := .ref (q 1)) Sx ef_11 hK hP 0 rfl rfl 0 (by decide) kk_382 rfl dd_X11_refusalOfRow_26 ?_
    refine lv_iload_n hx hb dd_X11_refusalOfRow_29 rfl (lv_at hl 1 rfl) ?_
    have hi7 : vp_in sf 8 := (vi_of (by omega))
    refine va_aldq hx hb hK hP 1 4 rfl rfl hi7 dd_X11_refusalOfRow_30 ?_
    obtain ⟨j8, hjj8, ejj8⟩ : ∃ y, y < 8 ∧ sf.toNatClampNeg = y := ⟨_, vi_lt hi7, rfl⟩
    have hpj8 := sh_p (cy := cy) (q := q) (hP.sub [2, 3, 4, 5, 6, 7, 8, 9, 10, 11, 12, 13, 14, 15, 16, 17] rfl) j8 hjj8
    refine wk_val (v := .ref (q (97 + 2 * j8))) (by rw [ejj8, shv_at _ _ hjj8]; rfl) ?_
    refine pk_i (pc_V [] [] Sx hl.1 ws_X_92 md_X7_isEmpty (c_Shelf_isEmpty l D cy (fun k => q (97 + 2 * j8 + k))) ⟨rfl, rfl⟩ ⟨Nat.le_of_ble_eq_true rfl, Nat.le_of_ble_eq_true rfl⟩ (hpj8.sub [0] rfl) hK ns_b (ns_w hX) (va_recv hK hpj8 (ci := 7) (q0 := 0) rfl rfl) rfl rfl (Nat.le_of_ble_eq_true rfl) dd_X11_refusalOfRow_31 ⟨Nat.le_of_ble_eq_true rfl, Nat.le_of_ble_eq_true rfl⟩) (fun r9 hw10 => ?_)
    subst hw10
    refine lv_if_eq (tgt := 42) hx hb dd_X11_refusalOfRow_34 (by decide) (fun c => absurd c (by decide)) (fun _ => ?_)
    refine lv_bipush (v := (-4)) hx hb dd_X11_refusalOfRow_37 (by decide) ?_
    refine lv_goto (tgt := 43) hx hb dd_X11_refusalOfRow_39 (by decide) ?_
    exact pc_ret Sx hr hlocks rfl dd_X11_refusalOfRow_43 (Or.inl ⟨by omega, rfl⟩)
  · subst ehw2
    refine lv_if_ne (tgt := 10) hx hb dd_X11_refusalOfRow_4 (by decide) (fun c => absurd c (by decide)) (fun _ => ?_)
    refine lv_bipush (v := (-2)) hx hb dd_X11_refusalOfRow_7 (by decide) ?_
    exact pc_ret Sx hr hlocks rfl dd_X11_refusalOfRow_9 (Or.inr ⟨by omega, rfl⟩)
set_option maxHeartbeats 4000000 in
set_option maxRecDepth 100000 in
theorem c_X_set (l : Launch) (D : va_G) (cy : Nat → ClassId) (q : Nat → Nat) (sf : Int32) (ix : Int32) (lv : Int64) : HC l my_X11_set mb_X11_set 6 ((some .int)) (rmD 4 0 0) D (TY cy) [.ref (q 0), .int sf, .int ix, .long lv] NX [(q 0, .inr (11, fX q)), (q 1, .inl (cy 4, 8, .inr (.inr (.inr (.inr (shv q)))))), (q 2, .inl (cy 0, 5, .inl (fun _ => 0))), (q 97, .inr (7, fShelf (fun k => q (97 + k)))), (q 98, .inl (cy 2, 40, .inr (.inl (fun _ => 0)))), (q 99, .inr (7, fShelf (fun k => q (99 + k)))), (q 100, .inl (cy 2, 40, .inr (.inl (fun _ => 0)))), (q 101, .inr (7, fShelf (fun k => q (101 + k)))), (q 102, .inl (cy 2, 40, .inr (.inl (fun _ => 0)))), (q 103, .inr (7, fShelf (fun k => q (103 + k)))), (q 104, .inl (cy 2, 40, .inr (.inl (fun _ => 0)))), (q 105, .inr (7, fShelf (fun k => q (105 + k)))), (q 106, .inl (cy 2, 40, .inr (.inl (fun _ => 0)))), (q 107, .inr (7, fShelf (fun k => q (107 + k)))), (q 108, .inl (cy 2, 40, .inr (.inl (fun _ => 0)))), (q 109, .inr (7, fShelf (fun k => q (109 + k)))), (q 110, .inl (cy 2, 40, .inr (.inl (fun _ => 0)))), (q 111, .inr (7, fShelf (fun k => q (111 + k)))), (q 112, .inl (cy 2, 40, .inr (.inl (fun _ => 0))))] (QI (S := Unit) D (fun r _ => if2 (0 ≤ sf.toInt ∧ sf.toInt ≤ 7) (-4) (-2) r) (fun _ => [])) := by
  refine hc_intro (by decide) (Nat.le_of_ble_eq_true rfl) (fun p e s m below meth c A ls Sx hr hlocks hin hl hP hD hK hS hA hX => ?_)
  have hx := Sx.1
  have hb := Sx.2.1
  have hl : lv_has ls 6 [(0, .ref (q 0)), (1, .int sf), (2, .int ix), (3, .long lv)] := hl
  have hP : va_P D cls [(q 0, .inr (11, fX q)), (q 1, .inl (cy 4, 8, .inr (.inr (.inr (.inr (shv q)))))), (q 2, .inl (cy 0, 5, .inl (fun _ => 0))), (q 97, .inr (7, fShelf (fun k => q (97 + k)))), (q 98, .inl (cy 2, 40, .inr (.inl (fun _ => 0)))), (q 99, .inr (7, fShelf (fun k => q (99 + k)))), (q 100, .inl (cy 2, 40, .inr (.inl (fun _ => 0)))), (q 101, .inr (7, fShelf (fun k => q (101 + k)))), (q 102, .inl (cy 2, 40, .inr (.inl (fun _ => 0)))), (q 103, .inr (7, fShelf (fun k => q (103 + k)))), (q 104, .inl (cy 2, 40, .inr (.inl (fun _ => 0)))), (q 105, .inr (7, fShelf (fun k => q (105 + k)))), (q 106, .inl (cy 2, 40, .inr (.inl (fun _ => 0)))), (q 107, .inr (7, fShelf (fun k => q (107 + k)))), (q 108, .inl (cy 2, 40, .inr (.inl (fun _ => 0)))), (q 109, .inr (7, fShelf (fun k => q (109 + k)))), (q 110, .inl (cy 2, 40, .inr (.inl (fun _ => 0)))), (q 111, .inr (7, fShelf (fun k => q (111 + k)))), (q 112, .inl (cy 2, 40, .inr (.inl (fun _ => 0))))] s.heap := hP
  have hD : va_D A [(q 0, .inr (11, fX q)), (q 1, .inl (cy 4, 8, .inr (.inr (.inr (.inr (shv q)))))), (q 2, .inl (cy 0, 5, .inl (fun _ => 0))), (q 97, .inr (7, fShelf (fun k => q (97 + k)))), (q 98, .inl (cy 2, 40, .inr (.inl (fun _ => 0)))), (q 99, .inr (7, fShelf (fun k => q (99 + k)))), (q 100, .inl (cy 2, 40, .inr (.inl (fun _ => 0)))), (q 101, .inr (7, fShelf (fun k => q (101 + k)))), (q 102, .inl (cy 2, 40, .inr (.inl (fun _ => 0)))), (q 103, .inr (7, fShelf (fun k => q (103 + k)))), (q 104, .inl (cy 2, 40, .inr (.inl (fun _ => 0)))), (q 105, .inr (7, fShelf (fun k => q (105 + k)))), (q 106, .inl (cy 2, 40, .inr (.inl (fun _ => 0)))), (q 107, .inr (7, fShelf (fun k => q (107 + k)))), (q 108, .inl (cy 2, 40, .inr (.inl (fun _ => 0)))), (q 109, .inr (7, fShelf (fun k => q (109 + k)))), (q 110, .inl (cy 2, 40, .inr (.inl (fun _ => 0)))), (q 111, .inr (7, fShelf (fun k => q (111 + k)))), (q 112, .inl (cy 2, 40, .inr (.inl (fun _ => 0))))] := hD
  refine lv_aload_n hx hb dd_X11_set_0 rfl (lv_at hl 0 rfl) ?_
  refine lv_iload_n hx hb dd_X11_set_1 rfl (lv_at hl 1 rfl) ?_
  refine pk_i (pc_V [.int sf] [] Sx hl.1 ws_X_71 md_X11_refusalOfRow (c_refusalOfRow l D cy q sf) ⟨rfl, rfl⟩ ⟨Nat.le_of_ble_eq_true rfl, Nat.le_of_ble_eq_true rfl⟩ (hP.sub [0, 1, 3, 4, 5, 6, 7, 8, 9, 10, 11, 12, 13, 14, 15, 16, 17, 18] rfl) hK ns_b (ns_w hX) (va_recv hK hP (ci := 11) (q0 := 0) rfl rfl) rfl rfl (Nat.le_of_ble_eq_true rfl) dd_X11_set_2 ⟨Nat.le_of_ble_eq_true rfl, Nat.le_of_ble_eq_true rfl⟩) (fun r1 hw2 => ?_)
  rcases hw2 with ⟨hw2, ehw2⟩ | ⟨hw2, ehw2⟩
  · subst ehw2
    refine lv_istore (lv' := [(5, .int (-4)), (0, .ref (q 0)), (1, .int sf), (2, .int ix), (3, .long lv)]) hx hb dd_X11_set_5 hl (by decide) rfl (fun ls hl => ?_)
    refine lv_iload hx hb dd_X11_set_7 (lv_at hl 0 rfl) ?_
    refine lv_if_eq (tgt := 19) hx hb dd_X11_set_9 (by decide) (fun c => absurd c (by decide)) (fun _ => ?_)
    refine lv_aload_n hx hb dd_X11_set_12 rfl (lv_at hl 1 rfl) ?_
    refine lv_iload hx hb dd_X11_set_13 (lv_at hl 0 rfl) ?_
    refine hk_i (wr := [(q 1, .inl (cy 4, 8, .inr (.inr (.inr (.inr (shv q)))))), (q 97, .inr (7, fShelf (fun k => q (97 + k)))), (q 98, .inl (cy 2, 40, .inr (.inl (fun _ => 0)))), (q 99, .inr (7, fShelf (fun k => q (99 + k)))), (q 100, .inl (cy 2, 40, .inr (.inl (fun _ => 0)))), (q 101, .inr (7, fShelf (fun k => q (101 + k)))), (q 102, .inl (cy 2, 40, .inr (.inl (fun _ => 0)))), (q 103, .inr (7, fShelf (fun k => q (103 + k)))), (q 104, .inl (cy 2, 40, .inr (.inl (fun _ => 0)))), (q 105, .inr (7, fShelf (fun k => q (105 + k)))), (q 106, .inl (cy 2, 40, .inr (.inl (fun _ => 0)))), (q 107, .inr (7, fShelf (fun k => q (107 + k)))), (q 108, .inl (cy 2, 40, .inr (.inl (fun _ => 0)))), (q 109, .inr (7, fShelf (fun k => q (109 + k)))), (q 110, .inl (cy 2, 40, .inr (.inl (fun _ => 0)))), (q 111, .inr (7, fShelf (fun k => q (111 + k)))), (q 112, .inl (cy 2, 40, .inr (.inl (fun _ => 0))))]) (c1 := 0) (s1 := 0) [0, 2] [1, 3, 4, 5, 6, 7, 8, 9, 10, 11, 12, 13, 14, 15, 16, 17, 18] (hc_V [.int (-4)] [] [0, 2] Sx hl.1 ws_X_63 md_X11_refuse (c_refuse_4 l D cy q) ⟨Nat.le_of_ble_eq_true rfl, Nat.le_of_ble_eq_true rfl⟩ hP hD rfl (by decide) hK nx_b (nx_w hX) (va_recv hK hP (ci := 11) (q0 := 0) rfl rfl) rfl rfl (Nat.le_of_ble_eq_true rfl) dd_X11_set_15 ⟨Nat.le_of_ble_eq_true rfl, Nat.le_of_ble_eq_true rfl⟩) hS hA hP hD rfl rfl (by decide) (by decide) rfl rfl (fun r3 u4 H locs hw5 hP hD hS => ?_)
    have hP : va_P D cls [(q 1, .inl (cy 4, 8, .inr (.inr (.inr (.inr (shv q)))))), (q 97, .inr (7, fShelf (fun k => q (97 + k)))), (q 98, .inl (cy 2, 40, .inr (.inl (fun _ => 0)))), (q 99, .inr (7, fShelf (fun k => q (99 + k)))), (q 100, .inl (cy 2, 40, .inr (.inl (fun _ => 0)))), (q 101, .inr (7, fShelf (fun k => q (101 + k)))), (q 102, .inl (cy 2, 40, .inr (.inl (fun _ => 0)))), (q 103, .inr (7, fShelf (fun k => q (103 + k)))), (q 104, .inl (cy 2, 40, .inr (.inl (fun _ => 0)))), (q 105, .inr (7, fShelf (fun k => q (105 + k)))), (q 106, .inl (cy 2, 40, .inr (.inl (fun _ => 0)))), (q 107, .inr (7, fShelf (fun k => q (107 + k)))), (q 108, .inl (cy 2, 40, .inr (.inl (fun _ => 0)))), (q 109, .inr (7, fShelf (fun k => q (109 + k)))), (q 110, .inl (cy 2, 40, .inr (.inl (fun _ => 0)))), (q 111, .inr (7, fShelf (fun k => q (111 + k)))), (q 112, .inl (cy 2, 40, .inr (.inl (fun _ => 0))))] H := hP
    have hD : va_D A [(q 1, .inl (cy 4, 8, .inr (.inr (.inr (.inr (shv q)))))), (q 97, .inr (7, fShelf (fun k => q (97 + k)))), (q 98, .inl (cy 2, 40, .inr (.inl (fun _ => 0)))), (q 99, .inr (7, fShelf (fun k => q (99 + k)))), (q 100, .inl (cy 2, 40, .inr (.inl (fun _ => 0)))), (q 101, .inr (7, fShelf (fun k => q (101 + k)))), (q 102, .inl (cy 2, 40, .inr (.inl (fun _ => 0)))), (q 103, .inr (7, fShelf (fun k => q (103 + k)))), (q 104, .inl (cy 2, 40, .inr (.inl (fun _ => 0)))), (q 105, .inr (7, fShelf (fun k => q (105 + k)))), (q 106, .inl (cy 2, 40, .inr (.inl (fun _ => 0)))), (q 107, .inr (7, fShelf (fun k => q (107 + k)))), (q 108, .inl (cy 2, 40, .inr (.inl (fun _ => 0)))), (q 109, .inr (7, fShelf (fun k => q (109 + k)))), (q 110, .inl (cy 2, 40, .inr (.inl (fun _ => 0)))), (q 111, .inr (7, fShelf (fun k => q (111 + k)))), (q 112, .inl (cy 2, 40, .inr (.inl (fun _ => 0))))] := hD
    subst hw5
    exact hc_ret Sx hr hlocks dd_X11_set_18 hS () (Or.inl ⟨by omega, rfl⟩) p_nil d_nil
  · have hl6 : Int32.toInt (-4) = (-4) := rfl
    subst ehw2
    refine lv_istore (lv' := [(5, .int (-2)), (0, .ref (q 0)), (1, .int sf), (2, .int ix), (3, .long lv)]) hx hb dd_X11_set_5 hl (by decide) rfl (fun ls hl => ?_)
    refine lv_iload hx hb dd_X11_set_7 (lv_at hl 0 rfl) ?_
    refine lv_if_eq (tgt := 19) hx hb dd_X11_set_9 (by decide) (fun c => absurd c (by decide)) (fun _ => ?_)
    refine lv_aload_n hx hb dd_X11_set_12 rfl (lv_at hl 1 rfl) ?_
    refine lv_iload hx hb dd_X11_set_13 (lv_at hl 0 rfl) ?_
    refine hk_i (wr := [(q 1, .inl (cy 4, 8, .inr (.inr (.inr (.inr (shv q)))))), (q 97, .inr (7, fShelf (fun k => q (97 + k)))), (q 98, .inl (cy 2, 40, .inr (.inl (fun _ => 0)))), (q 99, .inr (7, fShelf (fun k => q (99 + k)))), (q 100, .inl (cy 2, 40, .inr (.inl (fun _ => 0)))), (q 101, .inr (7, fShelf (fun k => q (101 + k)))), (q 102, .inl (cy 2, 40, .inr (.inl (fun _ => 0)))), (q 103, .inr (7, fShelf (fun k => q (103 + k)))), (q 104, .inl (cy 2, 40, .inr (.inl (fun _ => 0)))), (q 105, .inr (7, fShelf (fun k => q (105 + k)))), (q 106, .inl (cy 2, 40, .inr (.inl (fun _ => 0)))), (q 107, .inr (7, fShelf (fun k => q (107 + k)))), (q 108, .inl (cy 2, 40, .inr (.inl (fun _ => 0)))), (q 109, .inr (7, fShelf (fun k => q (109 + k)))), (q 110, .inl (cy 2, 40, .inr (.inl (fun _ => 0)))), (q 111, .inr (7, fShelf (fun k => q (111 + k)))), (q 112, .inl (cy 2, 40, .inr (.inl (fun _ => 0))))]) (c1 := 0) (s1 := 0) [0, 2] [1, 3, 4, 5, 6, 7, 8, 9, 10, 11, 12, 13, 14, 15, 16, 17, 18] (hc_V [.int (-2)] [] [0, 2] Sx hl.1 ws_X_63 md_X11_refuse (c_refuse_2 l D cy q) ⟨Nat.le_of_ble_eq_true rfl, Nat.le_of_ble_eq_true rfl⟩ hP hD rfl (by decide) hK nx_b (nx_w hX) (va_recv hK hP (ci := 11) (q0 := 0) rfl rfl) rfl rfl (Nat.le_of_ble_eq_true rfl) dd_X11_set_15 ⟨Nat.le_of_ble_eq_true rfl, Nat.le_of_ble_eq_true rfl⟩) hS hA hP hD rfl rfl (by decide) (by decide) rfl rfl (fun r7 u8 H locs hw9 hP hD hS => ?_)
    have hP : va_P D cls [(q 1, .inl (cy 4, 8, .inr (.inr (.inr (.inr (shv q)))))), (q 97, .inr (7, fShelf (fun k => q (97 + k)))), (q 98, .inl (cy 2, 40, .inr (.inl (fun _ => 0)))), (q 99, .inr (7, fShelf (fun k => q (99 + k)))), (q 100, .inl (cy 2, 40, .inr (.inl (fun _ => 0)))), (q 101, .inr (7, fShelf (fun k => q (101 + k)))), (q 102, .inl (cy 2, 40, .inr (.inl (fun _ => 0)))), (q 103, .inr (7, fShelf (fun k => q (103 + k)))), (q 104, .inl (cy 2, 40, .inr (.inl (fun _ => 0)))), (q 105, .inr (7, fShelf (fun k => q (105 + k)))), (q 106, .inl (cy 2, 40, .inr (.inl (fun _ => 0)))), (q 107, .inr (7, fShelf (fun k => q (107 + k)))), (q 108, .inl (cy 2, 40, .inr (.inl (fun _ => 0)))), (q 109, .inr (7, fShelf (fun k => q (109 + k)))), (q 110, .inl (cy 2, 40, .inr (.inl (fun _ => 0)))), (q 111, .inr (7, fShelf (fun k => q (111 + k)))), (q 112, .inl (cy 2, 40, .inr (.inl (fun _ => 0))))] H := hP
    have hD : va_D A [(q 1, .inl (cy 4, 8, .inr (.inr (.inr (.inr (shv q)))))), (q 97, .inr (7, fShelf (fun k => q (97 + k)))), (q 98, .inl (cy 2, 40, .inr (.inl (fun _ => 0)))), (q 99, .inr (7, fShelf (fun k => q (99 + k)))), (q 100, .inl (cy 2, 40, .inr (.inl (fun _ => 0)))), (q 101, .inr (7, fShelf (fun k => q (101 + k)))), (q 102, .inl (cy 2, 40, .inr (.inl (fun _ => 0)))), (q 103, .inr (7, fShelf (fun k => q (103 + k)))), (q 104, .inl (cy 2, 40, .inr (.inl (fun _ => 0)))), (q 105, .inr (7, fShelf (fun k => q (105 + k)))), (q 106, .inl (cy 2, 40, .inr (.inl (fun _ => 0)))), (q 107, .inr (7, fShelf (fun k => q (107 + k)))), (q 108, .inl (cy 2, 40, .inr (.inl (fun _ => 0)))), (q 109, .inr (7, fShelf (fun k => q (109 + k)))), (q 110, .inl (cy 2, 40, .inr (.inl (fun _ => 0)))), (q 111, .inr (7, fShelf (fun k => q (111 + k)))), (q 112, .inl (cy 2, 40, .inr (.inl (fun _ => 0))))] := hD
    subst hw9
    exact hc_ret Sx hr hlocks dd_X11_set_18 hS () (Or.inr ⟨by omega, rfl⟩) p_nil d_nil
end
