section
-- ===== PART A: goes FIRST, ahead of the names: the tables' words, and 'selects' of the private methods out of them =====
/-- a private method of a class that the tables say can be made, by its rows of tables_1 -/
def lw_okq (q : MethodName × Nat) : Prop := (q.1.cls ≠ "java/lang/invoke/MethodHandle" ∧ q.1.cls ≠ "java/lang/invoke/VarHandle") ∧ Cond.instantiable q.1.cls q.2 ∈ tables_1 ∧ Cond.privateMethod q.1 ∈ tables_1 ∧ Cond.instanceMethod q.1 ∈ tables_1
theorem lw_p0 : lw_okq (⟨"WhiteElephants", "refuse", "(I)I"⟩, 8) := ⟨⟨by decide +kernel, by decide +kernel⟩, List.mem_of_getElem? (i := 23) (by decide +kernel), List.mem_of_getElem? (i := 418) (by decide +kernel), List.mem_of_getElem? (i := 419) (by decide +kernel)⟩
theorem lw_p1 : lw_okq (⟨"WhiteElephants", "refusalOfRow", "(I)I"⟩, 8) := ⟨⟨by decide +kernel, by decide +kernel⟩, List.mem_of_getElem? (i := 23) (by decide +kernel), List.mem_of_getElem? (i := 433) (by decide +kernel), List.mem_of_getElem? (i := 434) (by decide +kernel)⟩
theorem lw_p2 : lw_okq (⟨"WhiteElephants$Shelf", "cutToSort", "(J)J"⟩, 3) := ⟨⟨by decide +kernel, by decide +kernel⟩, List.mem_of_getElem? (i := 363) (by decide +kernel), List.mem_of_getElem? (i := 454) (by decide +kernel), List.mem_of_getElem? (i := 455) (by decide +kernel)⟩
theorem lw_p3 : lw_okq (⟨"WhiteElephants$Things", "lidWorth", "(I)I"⟩, 8) := ⟨⟨by decide +kernel, by decide +kernel⟩, List.mem_of_getElem? (i := 61) (by decide +kernel), List.mem_of_getElem? (i := 517) (by decide +kernel), List.mem_of_getElem? (i := 518) (by decide +kernel)⟩
theorem lw_p4 : lw_okq (⟨"WhiteElephants$Things", "chinaWorth", "(I)I"⟩, 8) := ⟨⟨by decide +kernel, by decide +kernel⟩, List.mem_of_getElem? (i := 61) (by decide +kernel), List.mem_of_getElem? (i := 528) (by decide +kernel), List.mem_of_getElem? (i := 529) (by decide +kernel)⟩
theorem lw_p5 : lw_okq (⟨"WhiteElephants$Things", "asVase", "(II)I"⟩, 8) := ⟨⟨by decide +kernel, by decide +kernel⟩, List.mem_of_getElem? (i := 61) (by decide +kernel), List.mem_of_getElem? (i := 532) (by decide +kernel), List.mem_of_getElem? (i := 533) (by decide +kernel)⟩
theorem lw_p6 : lw_okq (⟨"WhiteElephants$Tape", "step", "()V"⟩, 4) := ⟨⟨by decide +kernel, by decide +kernel⟩, List.mem_of_getElem? (i := 33) (by decide +kernel), List.mem_of_getElem? (i := 614) (by decide +kernel), List.mem_of_getElem? (i := 615) (by decide +kernel)⟩
theorem lw_p7 : lw_okq (⟨"WhiteElephants$Tape", "partNamed", "()I"⟩, 4) := ⟨⟨by decide +kernel, by decide +kernel⟩, List.mem_of_getElem? (i := 33) (by decide +kernel), List.mem_of_getElem? (i := 624) (by decide +kernel), List.mem_of_getElem? (i := 625) (by decide +kernel)⟩
theorem lw_p8 : lw_okq (⟨"WhiteElephants$Tape", "isWord", "(Ljava/lang/String;)Z"⟩, 4) := ⟨⟨by decide +kernel, by decide +kernel⟩, List.mem_of_getElem? (i := 33) (by decide +kernel), List.mem_of_getElem? (i := 629) (by decide +kernel), List.mem_of_getElem? (i := 630) (by decide +kernel)⟩
theorem lw_p9 : lw_okq (⟨"WhiteElephants$Tape", "number", "()I"⟩, 4) := ⟨⟨by decide +kernel, by decide +kernel⟩, List.mem_of_getElem? (i := 33) (by decide +kernel), List.mem_of_getElem? (i := 685) (by decide +kernel), List.mem_of_getElem? (i := 686) (by decide +kernel)⟩
theorem lw_p10 : lw_okq (⟨"WhiteElephants$Hall", "priceOf", "(III)I"⟩, 14) := ⟨⟨by decide +kernel, by decide +kernel⟩, List.mem_of_getElem? (i := 55) (by decide +kernel), List.mem_of_getElem? (i := 718) (by decide +kernel), List.mem_of_getElem? (i := 719) (by decide +kernel)⟩
theorem lw_p11 : lw_okq (⟨"WhiteElephants$Sale", "placeWanted", "(LWhiteElephants$Hall;II)I"⟩, 9) := ⟨⟨by decide +kernel, by decide +kernel⟩, List.mem_of_getElem? (i := 317) (by decide +kernel), List.mem_of_getElem? (i := 804) (by decide +kernel), List.mem_of_getElem? (i := 805) (by decide +kernel)⟩
theorem lw_p12 : lw_okq (⟨"WhiteElephants$Sale", "sell", "(III)I"⟩, 9) := ⟨⟨by decide +kernel, by decide +kernel⟩, List.mem_of_getElem? (i := 317) (by decide +kernel), List.mem_of_getElem? (i := 823) (by decide +kernel), List.mem_of_getElem? (i := 824) (by decide +kernel)⟩
theorem lw_p13 : lw_okq (⟨"WhiteElephants$Picks", "addBargain", "(IIII)V"⟩, 2) := ⟨⟨by decide +kernel, by decide +kernel⟩, List.mem_of_getElem? (i := 351) (by decide +kernel), List.mem_of_getElem? (i := 892) (by decide +kernel), List.mem_of_getElem? (i := 893) (by decide +kernel)⟩
theorem lw_p14 : lw_okq (⟨"WhiteElephants$Hall", "bestLady", "(II)I"⟩, 14) := ⟨⟨by decide +kernel, by decide +kernel⟩, List.mem_of_getElem? (i := 55) (by decide +kernel), List.mem_of_getElem? (i := 910) (by decide +kernel), List.mem_of_getElem? (i := 911) (by decide +kernel)⟩
theorem lw_p15 : lw_okq (⟨"WhiteElephants$Hall", "lostWith", "(III)I"⟩, 14) := ⟨⟨by decide +kernel, by decide +kernel⟩, List.mem_of_getElem? (i := 55) (by decide +kernel), List.mem_of_getElem? (i := 914) (by decide +kernel), List.mem_of_getElem? (i := 915) (by decide +kernel)⟩
def lw_privs_1 : List (MethodName × Nat) := [(⟨"WhiteElephants", "refuse", "(I)I"⟩, 8), (⟨"WhiteElephants", "refusalOfRow", "(I)I"⟩, 8), (⟨"WhiteElephants$Shelf", "cutToSort", "(J)J"⟩, 3), (⟨"WhiteElephants$Things", "lidWorth", "(I)I"⟩, 8), (⟨"WhiteElephants$Things", "chinaWorth", "(I)I"⟩, 8), (⟨"WhiteElephants$Things", "asVase", "(II)I"⟩, 8), (⟨"WhiteElephants$Tape", "step", "()V"⟩, 4), (⟨"WhiteElephants$Tape", "partNamed", "()I"⟩, 4), (⟨"WhiteElephants$Tape", "isWord", "(Ljava/lang/String;)Z"⟩, 4), (⟨"WhiteElephants$Tape", "number", "()I"⟩, 4), (⟨"WhiteElephants$Hall", "priceOf", "(III)I"⟩, 14), (⟨"WhiteElephants$Sale", "placeWanted", "(LWhiteElephants$Hall;II)I"⟩, 9), (⟨"WhiteElephants$Sale", "sell", "(III)I"⟩, 9), (⟨"WhiteElephants$Picks", "addBargain", "(IIII)V"⟩, 2), (⟨"WhiteElephants$Hall", "bestLady", "(II)I"⟩, 14), (⟨"WhiteElephants$Hall", "lostWith", "(III)I"⟩, 14)]
theorem lw_r1 : ∀ q ∈ lw_privs_1, lw_okq q := List.forall_mem_cons.mpr ⟨lw_p0, List.forall_mem_cons.mpr ⟨lw_p1, List.forall_mem_cons.mpr ⟨lw_p2, List.forall_mem_cons.mpr ⟨lw_p3, List.forall_mem_cons.mpr ⟨lw_p4, List.forall_mem_cons.mpr ⟨lw_p5, List.forall_mem_cons.mpr ⟨lw_p6, List.forall_mem_cons.mpr ⟨lw_p7, List.forall_mem_cons.mpr ⟨lw_p8, List.forall_mem_cons.mpr ⟨lw_p9, List.forall_mem_cons.mpr ⟨lw_p10, List.forall_mem_cons.mpr ⟨lw_p11, List.forall_mem_cons.mpr ⟨lw_p12, List.forall_mem_cons.mpr ⟨lw_p13, List.forall_mem_cons.mpr ⟨lw_p14, List.forall_mem_cons.mpr ⟨lw_p15, fun _ h => absurd h List.not_mem_nil⟩⟩⟩⟩⟩⟩⟩⟩⟩⟩⟩⟩⟩⟩⟩⟩
theorem lw_p16 : lw_okq (⟨"WhiteElephants$Sightings", "longestBefore", "(I)I"⟩, 8) := ⟨⟨by decide +kernel, by decide +kernel⟩, List.mem_of_getElem? (i := 191) (by decide +kernel), List.mem_of_getElem? (i := 972) (by decide +kernel), List.mem_of_getElem? (i := 973) (by decide +kernel)⟩
theorem lw_p17 : lw_okq (⟨"WhiteElephants$Secrets", "findHidden", "()V"⟩, 9) := ⟨⟨by decide +kernel, by decide +kernel⟩, List.mem_of_getElem? (i := 223) (by decide +kernel), List.mem_of_getElem? (i := 997) (by decide +kernel), List.mem_of_getElem? (i := 998) (by decide +kernel)⟩
theorem lw_p18 : lw_okq (⟨"WhiteElephants$Secrets", "canLie", "(I)Z"⟩, 9) := ⟨⟨by decide +kernel, by decide +kernel⟩, List.mem_of_getElem? (i := 223) (by decide +kernel), List.mem_of_getElem? (i := 1002) (by decide +kernel), List.mem_of_getElem? (i := 1003) (by decide +kernel)⟩
theorem lw_p19 : lw_okq (⟨"WhiteElephants$Secrets", "firstTable", "(I)I"⟩, 9) := ⟨⟨by decide +kernel, by decide +kernel⟩, List.mem_of_getElem? (i := 223) (by decide +kernel), List.mem_of_getElem? (i := 1007) (by decide +kernel), List.mem_of_getElem? (i := 1008) (by decide +kernel)⟩
theorem lw_p20 : lw_okq (⟨"WhiteElephants$Picks", "addPaid", "(III)V"⟩, 2) := ⟨⟨by decide +kernel, by decide +kernel⟩, List.mem_of_getElem? (i := 351) (by decide +kernel), List.mem_of_getElem? (i := 1025) (by decide +kernel), List.mem_of_getElem? (i := 1026) (by decide +kernel)⟩
theorem lw_p21 : lw_okq (⟨"WhiteElephants$Things", "dearestUnshared", "(I)I"⟩, 8) := ⟨⟨by decide +kernel, by decide +kernel⟩, List.mem_of_getElem? (i := 61) (by decide +kernel), List.mem_of_getElem? (i := 1042) (by decide +kernel), List.mem_of_getElem? (i := 1043) (by decide +kernel)⟩
theorem lw_p22 : lw_okq (⟨"WhiteElephants", "shelvesInUse", "()I"⟩, 8) := ⟨⟨by decide +kernel, by decide +kernel⟩, List.mem_of_getElem? (i := 23) (by decide +kernel), List.mem_of_getElem? (i := 1092) (by decide +kernel), List.mem_of_getElem? (i := 1093) (by decide +kernel)⟩
theorem lw_p23 : lw_okq (⟨"WhiteElephantsModel", "isShelf", "(I)Z"⟩, 51) := ⟨⟨by decide +kernel, by decide +kernel⟩, List.mem_of_getElem? (i := 1096) (by decide +kernel), List.mem_of_getElem? (i := 1261) (by decide +kernel), List.mem_of_getElem? (i := 1262) (by decide +kernel)⟩
theorem lw_p24 : lw_okq (⟨"WhiteElephantsModel", "no", "(I)I"⟩, 51) := ⟨⟨by decide +kernel, by decide +kernel⟩, List.mem_of_getElem? (i := 1096) (by decide +kernel), List.mem_of_getElem? (i := 1265) (by decide +kernel), List.mem_of_getElem? (i := 1266) (by decide +kernel)⟩
theorem lw_p25 : lw_okq (⟨"WhiteElephantsModel", "noRow", "(I)I"⟩, 51) := ⟨⟨by decide +kernel, by decide +kernel⟩, List.mem_of_getElem? (i := 1096) (by decide +kernel), List.mem_of_getElem? (i := 1273) (by decide +kernel), List.mem_of_getElem? (i := 1274) (by decide +kernel)⟩
theorem lw_p26 : lw_okq (⟨"WhiteElephantsModel", "holdsThing", "(I)Z"⟩, 51) := ⟨⟨by decide +kernel, by decide +kernel⟩, List.mem_of_getElem? (i := 1096) (by decide +kernel), List.mem_of_getElem? (i := 1277) (by decide +kernel), List.mem_of_getElem? (i := 1278) (by decide +kernel)⟩
theorem lw_p27 : lw_okq (⟨"WhiteElephantsModel", "isRow", "(I)Z"⟩, 51) := ⟨⟨by decide +kernel, by decide +kernel⟩, List.mem_of_getElem? (i := 1096) (by decide +kernel), List.mem_of_getElem? (i := 1285) (by decide +kernel), List.mem_of_getElem? (i := 1286) (by decide +kernel)⟩
theorem lw_p28 : lw_okq (⟨"WhiteElephantsModel", "isThing", "(I)Z"⟩, 51) := ⟨⟨by decide +kernel, by decide +kernel⟩, List.mem_of_getElem? (i := 1096) (by decide +kernel), List.mem_of_getElem? (i := 1301) (by decide +kernel), List.mem_of_getElem? (i := 1302) (by decide +kernel)⟩
theorem lw_p29 : lw_okq (⟨"WhiteElephantsModel", "isKind", "(I)Z"⟩, 51) := ⟨⟨by decide +kernel, by decide +kernel⟩, List.mem_of_getElem? (i := 1096) (by decide +kernel), List.mem_of_getElem? (i := 1309) (by decide +kernel), List.mem_of_getElem? (i := 1310) (by decide +kernel)⟩
theorem lw_p30 : lw_okq (⟨"WhiteElephantsModel", "isUnder", "(II)Z"⟩, 51) := ⟨⟨by decide +kernel, by decide +kernel⟩, List.mem_of_getElem? (i := 1096) (by decide +kernel), List.mem_of_getElem? (i := 1313) (by decide +kernel), List.mem_of_getElem? (i := 1314) (by decide +kernel)⟩
theorem lw_p31 : lw_okq (⟨"WhiteElephantsModel", "trueWorth", "(I)I"⟩, 51) := ⟨⟨by decide +kernel, by decide +kernel⟩, List.mem_of_getElem? (i := 1096) (by decide +kernel), List.mem_of_getElem? (i := 1317) (by decide +kernel), List.mem_of_getElem? (i := 1318) (by decide +kernel)⟩
def lw_privs_2 : List (MethodName × Nat) := [(⟨"WhiteElephants$Sightings", "longestBefore", "(I)I"⟩, 8), (⟨"WhiteElephants$Secrets", "findHidden", "()V"⟩, 9), (⟨"WhiteElephants$Secrets", "canLie", "(I)Z"⟩, 9), (⟨"WhiteElephants$Secrets", "firstTable", "(I)I"⟩, 9), (⟨"WhiteElephants$Picks", "addPaid", "(III)V"⟩, 2), (⟨"WhiteElephants$Things", "dearestUnshared", "(I)I"⟩, 8), (⟨"WhiteElephants", "shelvesInUse", "()I"⟩, 8), (⟨"WhiteElephantsModel", "isShelf", "(I)Z"⟩, 51), (⟨"WhiteElephantsModel", "no", "(I)I"⟩, 51), (⟨"WhiteElephantsModel", "noRow", "(I)I"⟩, 51), (⟨"WhiteElephantsModel", "holdsThing", "(I)Z"⟩, 51), (⟨"WhiteElephantsModel", "isRow", "(I)Z"⟩, 51), (⟨"WhiteElephantsModel", "isThing", "(I)Z"⟩, 51), (⟨"WhiteElephantsModel", "isKind", "(I)Z"⟩, 51), (⟨"WhiteElephantsModel", "isUnder", "(II)Z"⟩, 51), (⟨"WhiteElephantsModel", "trueWorth", "(I)I"⟩, 51)]
theorem lw_r2 : ∀ q ∈ lw_privs_2, lw_okq q := List.forall_mem_cons.mpr ⟨lw_p16, List.forall_mem_cons.mpr ⟨lw_p17, List.forall_mem_cons.mpr ⟨lw_p18, List.forall_mem_cons.mpr ⟨lw_p19, List.forall_mem_cons.mpr ⟨lw_p20, List.forall_mem_cons.mpr ⟨lw_p21, List.forall_mem_cons.mpr ⟨lw_p22, List.forall_mem_cons.mpr ⟨lw_p23, List.forall_mem_cons.mpr ⟨lw_p24, List.forall_mem_cons.mpr ⟨lw_p25, List.forall_mem_cons.mpr ⟨lw_p26, List.forall_mem_cons.mpr ⟨lw_p27, List.forall_mem_cons.mpr ⟨lw_p28, List.forall_mem_cons.mpr ⟨lw_p29, List.forall_mem_cons.mpr ⟨lw_p30, List.forall_mem_cons.mpr ⟨lw_p31, fun _ h => absurd h List.not_mem_nil⟩⟩⟩⟩⟩⟩⟩⟩⟩⟩⟩⟩⟩⟩⟩⟩
theorem lw_p32 : lw_okq (⟨"WhiteElephantsModel", "chipsOf", "(I)I"⟩, 51) := ⟨⟨by decide +kernel, by decide +kernel⟩, List.mem_of_getElem? (i := 1096) (by decide +kernel), List.mem_of_getElem? (i := 1321) (by decide +kernel), List.mem_of_getElem? (i := 1322) (by decide +kernel)⟩
theorem lw_p33 : lw_okq (⟨"WhiteElephantsModel", "isOf", "(II)Z"⟩, 51) := ⟨⟨by decide +kernel, by decide +kernel⟩, List.mem_of_getElem? (i := 1096) (by decide +kernel), List.mem_of_getElem? (i := 1325) (by decide +kernel), List.mem_of_getElem? (i := 1326) (by decide +kernel)⟩
theorem lw_p34 : lw_okq (⟨"WhiteElephantsModel", "areKinds", "(I)Z"⟩, 51) := ⟨⟨by decide +kernel, by decide +kernel⟩, List.mem_of_getElem? (i := 1096) (by decide +kernel), List.mem_of_getElem? (i := 1351) (by decide +kernel), List.mem_of_getElem? (i := 1352) (by decide +kernel)⟩
theorem lw_p35 : lw_okq (⟨"WhiteElephantsModel", "isLady", "(I)Z"⟩, 51) := ⟨⟨by decide +kernel, by decide +kernel⟩, List.mem_of_getElem? (i := 1096) (by decide +kernel), List.mem_of_getElem? (i := 1359) (by decide +kernel), List.mem_of_getElem? (i := 1360) (by decide +kernel)⟩
theorem lw_p36 : lw_okq (⟨"WhiteElephantsModel", "isLaw", "(I)Z"⟩, 51) := ⟨⟨by decide +kernel, by decide +kernel⟩, List.mem_of_getElem? (i := 1096) (by decide +kernel), List.mem_of_getElem? (i := 1363) (by decide +kernel), List.mem_of_getElem? (i := 1364) (by decide +kernel)⟩
theorem lw_p37 : lw_okq (⟨"WhiteElephantsModel", "read", "(I)I"⟩, 51) := ⟨⟨by decide +kernel, by decide +kernel⟩, List.mem_of_getElem? (i := 1096) (by decide +kernel), List.mem_of_getElem? (i := 1379) (by decide +kernel), List.mem_of_getElem? (i := 1380) (by decide +kernel)⟩
theorem lw_p38 : lw_okq (⟨"WhiteElephantsModel", "isLetter", "(I)Z"⟩, 51) := ⟨⟨by decide +kernel, by decide +kernel⟩, List.mem_of_getElem? (i := 1096) (by decide +kernel), List.mem_of_getElem? (i := 1383) (by decide +kernel), List.mem_of_getElem? (i := 1384) (by decide +kernel)⟩
theorem lw_p39 : lw_okq (⟨"WhiteElephantsModel", "wordAt", "(II)I"⟩, 51) := ⟨⟨by decide +kernel, by decide +kernel⟩, List.mem_of_getElem? (i := 1096) (by decide +kernel), List.mem_of_getElem? (i := 1387) (by decide +kernel), List.mem_of_getElem? (i := 1388) (by decide +kernel)⟩
theorem lw_p40 : lw_okq (⟨"WhiteElephantsModel", "is", "(IILjava/lang/String;)Z"⟩, 51) := ⟨⟨by decide +kernel, by decide +kernel⟩, List.mem_of_getElem? (i := 1096) (by decide +kernel), List.mem_of_getElem? (i := 1392) (by decide +kernel), List.mem_of_getElem? (i := 1393) (by decide +kernel)⟩
theorem lw_p41 : lw_okq (⟨"WhiteElephantsModel", "isDigit", "(I)Z"⟩, 51) := ⟨⟨by decide +kernel, by decide +kernel⟩, List.mem_of_getElem? (i := 1096) (by decide +kernel), List.mem_of_getElem? (i := 1402) (by decide +kernel), List.mem_of_getElem? (i := 1403) (by decide +kernel)⟩
theorem lw_p42 : lw_okq (⟨"WhiteElephantsModel", "mayBe", "(II)Z"⟩, 51) := ⟨⟨by decide +kernel, by decide +kernel⟩, List.mem_of_getElem? (i := 1096) (by decide +kernel), List.mem_of_getElem? (i := 1406) (by decide +kernel), List.mem_of_getElem? (i := 1407) (by decide +kernel)⟩
theorem lw_p43 : lw_okq (⟨"WhiteElephantsModel", "lostBy", "(II)I"⟩, 51) := ⟨⟨by decide +kernel, by decide +kernel⟩, List.mem_of_getElem? (i := 1096) (by decide +kernel), List.mem_of_getElem? (i := 1418) (by decide +kernel), List.mem_of_getElem? (i := 1419) (by decide +kernel)⟩
theorem lw_p44 : lw_okq (⟨"WhiteElephantsModel", "priceBy", "(II)I"⟩, 51) := ⟨⟨by decide +kernel, by decide +kernel⟩, List.mem_of_getElem? (i := 1096) (by decide +kernel), List.mem_of_getElem? (i := 1422) (by decide +kernel), List.mem_of_getElem? (i := 1423) (by decide +kernel)⟩
theorem lw_p45 : lw_okq (⟨"WhiteElephantsModel", "isHour", "(I)Z"⟩, 51) := ⟨⟨by decide +kernel, by decide +kernel⟩, List.mem_of_getElem? (i := 1096) (by decide +kernel), List.mem_of_getElem? (i := 1438) (by decide +kernel), List.mem_of_getElem? (i := 1439) (by decide +kernel)⟩
theorem lw_p46 : lw_okq (⟨"WhiteElephantsModel", "isBuyer", "(I)Z"⟩, 51) := ⟨⟨by decide +kernel, by decide +kernel⟩, List.mem_of_getElem? (i := 1096) (by decide +kernel), List.mem_of_getElem? (i := 1446) (by decide +kernel), List.mem_of_getElem? (i := 1447) (by decide +kernel)⟩
theorem lw_p47 : lw_okq (⟨"WhiteElephantsModel", "costIn", "(IIII)I"⟩, 51) := ⟨⟨by decide +kernel, by decide +kernel⟩, List.mem_of_getElem? (i := 1096) (by decide +kernel), List.mem_of_getElem? (i := 1458) (by decide +kernel), List.mem_of_getElem? (i := 1459) (by decide +kernel)⟩
def lw_privs_3 : List (MethodName × Nat) := [(⟨"WhiteElephantsModel", "chipsOf", "(I)I"⟩, 51), (⟨"WhiteElephantsModel", "isOf", "(II)Z"⟩, 51), (⟨"WhiteElephantsModel", "areKinds", "(I)Z"⟩, 51), (⟨"WhiteElephantsModel", "isLady", "(I)Z"⟩, 51), (⟨"WhiteElephantsModel", "isLaw", "(I)Z"⟩, 51), (⟨"WhiteElephantsModel", "read", "(I)I"⟩, 51), (⟨"WhiteElephantsModel", "isLetter", "(I)Z"⟩, 51), (⟨"WhiteElephantsModel", "wordAt", "(II)I"⟩, 51), (⟨"WhiteElephantsModel", "is", "(IILjava/lang/String;)Z"⟩, 51), (⟨"WhiteElephantsModel", "isDigit", "(I)Z"⟩, 51), (⟨"WhiteElephantsModel", "mayBe", "(II)Z"⟩, 51), (⟨"WhiteElephantsModel", "lostBy", "(II)I"⟩, 51), (⟨"WhiteElephantsModel", "priceBy", "(II)I"⟩, 51), (⟨"WhiteElephantsModel", "isHour", "(I)Z"⟩, 51), (⟨"WhiteElephantsModel", "isBuyer", "(I)Z"⟩, 51), (⟨"WhiteElephantsModel", "costIn", "(IIII)I"⟩, 51)]
theorem lw_r3 : ∀ q ∈ lw_privs_3, lw_okq q := List.forall_mem_cons.mpr ⟨lw_p32, List.forall_mem_cons.mpr ⟨lw_p33, List.forall_mem_cons.mpr ⟨lw_p34, List.forall_mem_cons.mpr ⟨lw_p35, List.forall_mem_cons.mpr ⟨lw_p36, List.forall_mem_cons.mpr ⟨lw_p37, List.forall_mem_cons.mpr ⟨lw_p38, List.forall_mem_cons.mpr ⟨lw_p39, List.forall_mem_cons.mpr ⟨lw_p40, List.forall_mem_cons.mpr ⟨lw_p41, List.forall_mem_cons.mpr ⟨lw_p42, List.forall_mem_cons.mpr ⟨lw_p43, List.forall_mem_cons.mpr ⟨lw_p44, List.forall_mem_cons.mpr ⟨lw_p45, List.forall_mem_cons.mpr ⟨lw_p46, List.forall_mem_cons.mpr ⟨lw_p47, fun _ h => absurd h List.not_mem_nil⟩⟩⟩⟩⟩⟩⟩⟩⟩⟩⟩⟩⟩⟩⟩⟩
theorem lw_p48 : lw_okq (⟨"WhiteElephantsModel", "asNow", "()V"⟩, 51) := ⟨⟨by decide +kernel, by decide +kernel⟩, List.mem_of_getElem? (i := 1096) (by decide +kernel), List.mem_of_getElem? (i := 1466) (by decide +kernel), List.mem_of_getElem? (i := 1467) (by decide +kernel)⟩
theorem lw_p49 : lw_okq (⟨"WhiteElephantsModel", "choice", "(IIII)I"⟩, 51) := ⟨⟨by decide +kernel, by decide +kernel⟩, List.mem_of_getElem? (i := 1096) (by decide +kernel), List.mem_of_getElem? (i := 1470) (by decide +kernel), List.mem_of_getElem? (i := 1471) (by decide +kernel)⟩
theorem lw_p50 : lw_okq (⟨"WhiteElephantsModel", "wholeDay", "(II)I"⟩, 51) := ⟨⟨by decide +kernel, by decide +kernel⟩, List.mem_of_getElem? (i := 1096) (by decide +kernel), List.mem_of_getElem? (i := 1478) (by decide +kernel), List.mem_of_getElem? (i := 1479) (by decide +kernel)⟩
theorem lw_p51 : lw_okq (⟨"WhiteElephantsModel", "lostOver", "(II)I"⟩, 51) := ⟨⟨by decide +kernel, by decide +kernel⟩, List.mem_of_getElem? (i := 1096) (by decide +kernel), List.mem_of_getElem? (i := 1498) (by decide +kernel), List.mem_of_getElem? (i := 1499) (by decide +kernel)⟩
theorem lw_p52 : lw_okq (⟨"WhiteElephantsModel", "sold", "()I"⟩, 51) := ⟨⟨by decide +kernel, by decide +kernel⟩, List.mem_of_getElem? (i := 1096) (by decide +kernel), List.mem_of_getElem? (i := 1510) (by decide +kernel), List.mem_of_getElem? (i := 1511) (by decide +kernel)⟩
theorem lw_p53 : lw_okq (⟨"WhiteElephantsModel", "isPerson", "(I)Z"⟩, 51) := ⟨⟨by decide +kernel, by decide +kernel⟩, List.mem_of_getElem? (i := 1096) (by decide +kernel), List.mem_of_getElem? (i := 1534) (by decide +kernel), List.mem_of_getElem? (i := 1535) (by decide +kernel)⟩
theorem lw_p54 : lw_okq (⟨"WhiteElephantsModel", "mayBecome", "(II)Z"⟩, 51) := ⟨⟨by decide +kernel, by decide +kernel⟩, List.mem_of_getElem? (i := 1096) (by decide +kernel), List.mem_of_getElem? (i := 1542) (by decide +kernel), List.mem_of_getElem? (i := 1543) (by decide +kernel)⟩
theorem lw_p55 : lw_okq (⟨"WhiteElephantsModel", "follow", "(I)Z"⟩, 51) := ⟨⟨by decide +kernel, by decide +kernel⟩, List.mem_of_getElem? (i := 1096) (by decide +kernel), List.mem_of_getElem? (i := 1550) (by decide +kernel), List.mem_of_getElem? (i := 1551) (by decide +kernel)⟩
theorem lw_p56 : lw_okq (⟨"WhiteElephantsModel", "fits", "(I)Z"⟩, 51) := ⟨⟨by decide +kernel, by decide +kernel⟩, List.mem_of_getElem? (i := 1096) (by decide +kernel), List.mem_of_getElem? (i := 1570) (by decide +kernel), List.mem_of_getElem? (i := 1571) (by decide +kernel)⟩
theorem lw_p57 : lw_okq (⟨"WhiteElephantsModel", "finest", "(I)I"⟩, 51) := ⟨⟨by decide +kernel, by decide +kernel⟩, List.mem_of_getElem? (i := 1096) (by decide +kernel), List.mem_of_getElem? (i := 1583) (by decide +kernel), List.mem_of_getElem? (i := 1584) (by decide +kernel)⟩
theorem lw_p58 : lw_okq (⟨"WhiteElephantsModel", "moveAll", "(Z)V"⟩, 51) := ⟨⟨by decide +kernel, by decide +kernel⟩, List.mem_of_getElem? (i := 1096) (by decide +kernel), List.mem_of_getElem? (i := 1591) (by decide +kernel), List.mem_of_getElem? (i := 1592) (by decide +kernel)⟩
theorem lw_p59 : lw_okq (⟨"WhiteElephantsModel", "move", "([IIZ)I"⟩, 51) := ⟨⟨by decide +kernel, by decide +kernel⟩, List.mem_of_getElem? (i := 1096) (by decide +kernel), List.mem_of_getElem? (i := 1595) (by decide +kernel), List.mem_of_getElem? (i := 1596) (by decide +kernel)⟩
def lw_privs_4 : List (MethodName × Nat) := [(⟨"WhiteElephantsModel", "asNow", "()V"⟩, 51), (⟨"WhiteElephantsModel", "choice", "(IIII)I"⟩, 51), (⟨"WhiteElephantsModel", "wholeDay", "(II)I"⟩, 51), (⟨"WhiteElephantsModel", "lostOver", "(II)I"⟩, 51), (⟨"WhiteElephantsModel", "sold", "()I"⟩, 51), (⟨"WhiteElephantsModel", "isPerson", "(I)Z"⟩, 51), (⟨"WhiteElephantsModel", "mayBecome", "(II)Z"⟩, 51), (⟨"WhiteElephantsModel", "follow", "(I)Z"⟩, 51), (⟨"WhiteElephantsModel", "fits", "(I)Z"⟩, 51), (⟨"WhiteElephantsModel", "finest", "(I)I"⟩, 51), (⟨"WhiteElephantsModel", "moveAll", "(Z)V"⟩, 51), (⟨"WhiteElephantsModel", "move", "([IIZ)I"⟩, 51)]
theorem lw_r4 : ∀ q ∈ lw_privs_4, lw_okq q := List.forall_mem_cons.mpr ⟨lw_p48, List.forall_mem_cons.mpr ⟨lw_p49, List.forall_mem_cons.mpr ⟨lw_p50, List.forall_mem_cons.mpr ⟨lw_p51, List.forall_mem_cons.mpr ⟨lw_p52, List.forall_mem_cons.mpr ⟨lw_p53, List.forall_mem_cons.mpr ⟨lw_p54, List.forall_mem_cons.mpr ⟨lw_p55, List.forall_mem_cons.mpr ⟨lw_p56, List.forall_mem_cons.mpr ⟨lw_p57, List.forall_mem_cons.mpr ⟨lw_p58, List.forall_mem_cons.mpr ⟨lw_p59, fun _ h => absurd h List.not_mem_nil⟩⟩⟩⟩⟩⟩⟩⟩⟩⟩⟩⟩
def lw_privs : List (MethodName × Nat) := lw_privs_1 ++ (lw_privs_2 ++ (lw_privs_3 ++ (lw_privs_4)))
def lw_tbl : List Cond := k2_sels lw_privs ++ tables_1
theorem lw_privs_ok : ∀ q ∈ lw_privs, lw_okq q := by
  show ∀ q ∈ lw_privs_1 ++ (lw_privs_2 ++ (lw_privs_3 ++ (lw_privs_4))), lw_okq q
  exact List.forall_mem_append.mpr ⟨lw_r1, List.forall_mem_append.mpr ⟨lw_r2, List.forall_mem_append.mpr ⟨lw_r3, lw_r4⟩⟩⟩
-- ===== end of PART A; then your names; then what follows =====
end
section
/-! own rows: words kept by calls, two shapes of contracts, calls of both -/
def BW : List Cond := lw_tbl.filter goodWord
theorem bw_at {w : Cond} (i : Nat) (h : lw_tbl[i]? = some w) (g : goodWord w = true) : w ∈ BW := List.mem_filter.mpr ⟨List.mem_of_getElem? h, g⟩
theorem bw_good : ∀ w ∈ BW, (w.onTables && w.keeps) = true ∨ ∃ ty, w = .arrayClass ty := fun w h => good_of_word (List.mem_filter.mp h).2
theorem bw_in (ws : List Cond) (h : ∀ w ∈ ws, w ∈ BW) : GoodIn BW ws := fun w hw => ⟨h w hw, bw_good w (h w hw)⟩
abbrev wq (y : MethodName) (b : ByteArray) (n : Nat) (r : Option FieldType) : List Cond := .code y b n r :: BW
theorem wq_in {y : MethodName} {b : ByteArray} {n : Nat} {r : Option FieldType} (h : Cond.code y b n r ∈ BW) : ∀ w ∈ wq y b n r, w ∈ BW := fun w hw => by
  rcases List.mem_cons.mp hw with q | q
  · rw [q]; exact h
  · exact q
theorem bw_cons {w : Cond} {ws : List Cond} (h : w ∈ BW) (k : ∀ v ∈ ws, v ∈ BW) : ∀ v ∈ (w :: ws), v ∈ BW := fun v hv => by
  rcases List.mem_cons.mp hv with q | q
  · rw [q]; exact h
  · exact k v q
theorem bw_nil : ∀ v ∈ ([] : List Cond), v ∈ BW := fun v h => absurd h List.not_mem_nil
/-- the nest's links -/
def NNl : List (String × Nat × MethodName) := [("WhiteElephants", 21, ⟨"WhiteElephants$Tape", "<init>", "()V"⟩), ("WhiteElephants", 28, ⟨"WhiteElephants$Hall", "<init>", "()V"⟩), ("WhiteElephants$Hall", 11, ⟨"WhiteElephants$Things", "<init>", "()V"⟩), ("WhiteElephants$Hall", 20, ⟨"WhiteElephants$Ladies", "<init>", "()V"⟩), ("WhiteElephants$Hall", 27, ⟨"WhiteElephants$Laws", "<init>", "()V"⟩), ("WhiteElephants$Hall", 34, ⟨"WhiteElephants$Buyers", "<init>", "()V"⟩), ("WhiteElephants$Hall", 41, ⟨"WhiteElephants$Sightings", "<init>", "()V"⟩), ("WhiteElephants$Hall", 48, ⟨"WhiteElephants$Secrets", "<init>", "()V"⟩), ("WhiteElephants", 38, ⟨"WhiteElephants$Sale", "<init>", "()V"⟩), ("WhiteElephants", 45, ⟨"WhiteElephants$Picks", "<init>", "()V"⟩), ("WhiteElephants", 54, ⟨"WhiteElephants$Shelf", "<init>", "()V"⟩), ("WhiteElephants$Shelf", 22, ⟨"WhiteElephants", "within", "(III)Z"⟩), ("WhiteElephants$Things", 37, ⟨"WhiteElephants", "within", "(III)Z"⟩), ("WhiteElephants$Things", 45, ⟨"WhiteElephants", "hasBit", "(II)Z"⟩), ("WhiteElephants$Ladies", 25, ⟨"WhiteElephants", "within", "(III)Z"⟩), ("WhiteElephants$Laws", 28, ⟨"WhiteElephants", "within", "(III)Z"⟩), ("WhiteElephants$Hall", 96, ⟨"WhiteElephants", "hasBit", "(II)Z"⟩), ("WhiteElephants$Buyers", 31, ⟨"WhiteElephants", "within", "(III)Z"⟩), ("WhiteElephants$Sightings", 37, ⟨"WhiteElephants", "within", "(III)Z"⟩), ("WhiteElephants$Secrets", 57, ⟨"WhiteElephants", "hasBit", "(II)Z"⟩)]
def NN (U : State) : Prop := ∀ q ∈ NNl, va_Nw (.methodLinkNest q.1 q.2.1 q.2.2 "WhiteElephants") U
theorem NN.warm {s U : State} (hW : s.WarmedH U.vm) (h : NN s) : NN U := fun q hq => va_Nw.warmM hW (h q hq)
theorem NN.call {U : State} {g : JFrame} {mk : MethodId} {a : Array Value} (h : NN U) : NN (U.calling g mk a) := fun q hq => va_Nw.same rfl rfl (h q hq)
abbrev NX : (Nat → Prop) → State → Prop := fun _ U => NN U
def MD (y : MethodName) (k : Nat) : Prop := y.cls ≠ "java/lang/invoke/MethodHandle" ∧ y.cls ≠ "java/lang/invoke/VarHandle" ∧ (parseMethodDescriptor y.desc).map (fun d => d.parameters.length) = some k
def WV (own : String) (idx : Nat) (y : MethodName) (b : ByteArray) (n : Nat) (r : Option FieldType) : Prop := Cond.methodLink own idx y ∈ BW ∧ Cond.instanceMethod y ∈ BW ∧ Cond.selects y.cls y y ∈ BW ∧ Cond.initialized y.cls ∈ BW ∧ Cond.code y b n r ∈ BW
def WT (own : String) (idx : Nat) (y : MethodName) (b : ByteArray) (n : Nat) (r : Option FieldType) : Prop := Cond.methodLink own idx y ∈ BW ∧ Cond.static y ∈ BW ∧ Cond.initialized y.cls ∈ BW ∧ Cond.code y b n r ∈ BW
def WI (own : String) (idx : Nat) (y : MethodName) (b : ByteArray) (n : Nat) : Prop := Cond.methodLink own idx y ∈ BW ∧ Cond.instanceMethod y ∈ BW ∧ Cond.initialized y.cls ∈ BW ∧ Cond.code y b n none ∈ BW
def WTN (own : String) (idx : Nat) (y : MethodName) (b : ByteArray) (n : Nat) (r : Option FieldType) : Prop := (own, idx, y) ∈ NNl ∧ Cond.static y ∈ BW ∧ Cond.initialized y.cls ∈ BW ∧ Cond.code y b n r ∈ BW
def WIN (own : String) (idx : Nat) (y : MethodName) (b : ByteArray) (n : Nat) : Prop := (own, idx, y) ∈ NNl ∧ Cond.instanceMethod y ∈ BW ∧ Cond.initialized y.cls ∈ BW ∧ Cond.code y b n none ∈ BW
section WK
variable {p : Program} {l : Launch} {e : Env} {R : Room} {s : State} {m : MethodId} {args : Array Value} {below : List Frame} {meth : Method} {c : Code} {H : Heap} {locs : List Loc} {cells slots : Nat} {Q : State → Prop}
variable {cc : ByteArray} {pc nL idx n k : Nat} {ls : Array Slot} {own : String} {y : MethodName} {b : ByteArray} {r : Option FieldType} {rm : Room} {B : State → Prop} {Qc : Array Value → State → Outcome → State → Prop} {free : Addr → Prop} {mc ms : Nat} {o : Nat} {st0 : List Value}

theorem wk_gV {own : String} {idx : Nat} {y : MethodName} {b : ByteArray} {n : Nat} {r : Option FieldType} (w : WV own idx y b n r) : GoodIn BW (wsV own idx y.cls y (wq y b n r)) := fun v hv => (List.mem_append.mp hv).elim (bw_in _ (bw_cons w.1 (bw_cons w.2.1 (bw_cons w.2.2.1 (bw_cons w.2.2.2.1 bw_nil)))) v) (bw_in _ (wq_in w.2.2.2.2) v)
theorem wk_gT {own : String} {idx : Nat} {y : MethodName} {b : ByteArray} {n : Nat} {r : Option FieldType} (w : WT own idx y b n r) : GoodIn BW (va_wsS own idx y (wq y b n r)) := fun v hv => (List.mem_append.mp hv).elim (bw_in _ (bw_cons w.1 (bw_cons w.2.1 (bw_cons w.2.2.1 bw_nil))) v) (bw_in _ (wq_in w.2.2.2) v)
theorem wk_rV (As rest : List Value) (Sx : CallFix p m c cc nL s args BW own) (hls : ls.size = nL) (w : WV own idx y b n r) (md : MD y k) (hM : Met l y (wq y b n r) rm (va_Pc (.ref o :: As) B) Qc mc ms free) (hrm : rm.cells = mc ∧ rm.slots = ms) (hR : rm.frames + 1 ≤ R.frames ∧ 8 + (n + 11) + rm.locals ≤ R.locals) (hbl : ∀ (a : Array Value) (U : State) (g : JFrame) (mk : MethodId), B U → B (U.calling g mk a)) (hpre : ∀ U : State, U.heap = H → s.WarmedH U.vm → B U)
    (hrv : ∃ cell : Cell, H[o]? = some cell ∧ cell.vm.isStatics = false ∧ s.vm.findClass y.cls = some cell.cls) (hn : As.length = k) (hst : st0 = As.reverse ++ .ref o :: rest) (hW : (rest.map fun v => v.category).sum ≤ 8) (hdg : decode cc pc = .ok (.invokevirtual idx, 3)) (hf : cells + mc ≤ R.cells ∧ slots + ms ≤ R.slots) :
    va_Run p l e R s m args below meth c H locs cells slots mc ms (F0 m pc ls st0) rest (Qc (Value.ref o :: As).toArray) free :=
  va_runV (As := As) (rest := rest) Sx hM (cwV k Sx.2.2.2.2 (wk_gV w) rfl hrm.1 hrm.2 ⟨rfl, md⟩ hR) ⟨fun a U g mk q => ⟨q.1, hbl a U g mk q.2⟩, hrv, fun U hU hw => ⟨rfl, hpre U hU hw⟩⟩ rfl hn hls hst (lv_room hW) hdg hf
theorem wk_rT (As rest : List Value) (Sx : CallFix p m c cc nL s args BW own) (hls : ls.size = nL) (w : WT own idx y b n r) (md : MD y k) (hM : Met l y (wq y b n r) rm (va_Pc As B) Qc mc ms free) (hrm : rm.cells = mc ∧ rm.slots = ms) (hR : rm.frames + 1 ≤ R.frames ∧ 8 + (n + 11) + rm.locals ≤ R.locals) (hbl : ∀ (a : Array Value) (U : State) (g : JFrame) (mk : MethodId), B U → B (U.calling g mk a)) (hpre : ∀ U : State, U.heap = H → s.WarmedH U.vm → B U)
    (hn : As.length = k) (hst : st0 = As.reverse ++ rest) (hW : (rest.map fun v => v.category).sum ≤ 8) (hdg : decode cc pc = .ok (.invokestatic idx, 3)) (hf : cells + mc ≤ R.cells ∧ slots + ms ≤ R.slots) :
    va_Run p l e R s m args below meth c H locs cells slots mc ms (F0 m pc ls st0) rest (Qc As.toArray) free :=
  va_runS (As := As) (rest := rest) Sx hM (va_cwS k Sx.2.2.2.2 (wk_gT w) rfl hrm.1 hrm.2 md hR) ⟨fun a U g mk q => ⟨q.1, hbl a U g mk q.2⟩, fun U hU hw => ⟨rfl, hpre U hU hw⟩⟩ rfl hn hls hst (lv_room hW) hdg hf
theorem wk_rI (As rest : List Value) (Sx : CallFix p m c cc nL s args BW own) (hls : ls.size = nL) (w : WI own idx y b n) (md : MD y k) (hi : y.name = "<init>") (hM : Met l y (wq y b n none) rm (va_Pc (.ref o :: As) B) Qc mc ms free) (hrm : rm.cells = mc ∧ rm.slots = ms) (hR : rm.frames + 1 ≤ R.frames ∧ 8 + (n + 11) + rm.locals ≤ R.locals) (hbl : ∀ (a : Array Value) (U : State) (g : JFrame) (mk : MethodId), B U → B (U.calling g mk a)) (hpre : ∀ U : State, U.heap = H → s.WarmedH U.vm → B U)
    (hn : As.length = k) (hst : st0 = As.reverse ++ .ref o :: rest) (hW : (rest.map fun v => v.category).sum ≤ 8) (hdg : decode cc pc = .ok (.invokespecial idx, 3)) (hf : cells + mc ≤ R.cells ∧ slots + ms ≤ R.slots) :
    va_Run p l e R s m args below meth c H locs cells slots mc ms (F0 m pc ls st0) rest (Qc (Value.ref o :: As).toArray) free :=
  va_runI (As := As) (rest := rest) Sx hM (cwI k Sx.2.2.2.2 (bw_in _ (wq_in w.2.2.2)) rfl hrm.1 hrm.2 (Sx.2.2.2.2 _ w.2.2.1) (Sx.2.2.2.2 _ w.1) (Sx.2.2.2.2 _ w.2.1) hi md hR) ⟨fun a U g mk q => ⟨q.1, hbl a U g mk q.2⟩, fun U hU hw => ⟨rfl, hpre U hU hw⟩⟩ rfl hn hls hst (lv_room hW) hdg hf
theorem wk_rTN (As rest : List Value) (Sx : CallFix p m c cc nL s args BW own) (hNN : NN s) (hls : ls.size = nL) (w : WTN own idx y b n r) (md : MD y k) (hM : Met l y (wq y b n r) rm (va_Pc As B) Qc mc ms free) (hrm : rm.cells = mc ∧ rm.slots = ms) (hR : rm.frames + 1 ≤ R.frames ∧ 8 + (n + 11) + rm.locals ≤ R.locals) (hbl : ∀ (a : Array Value) (U : State) (g : JFrame) (mk : MethodId), B U → B (U.calling g mk a)) (hpre : ∀ U : State, U.heap = H → s.WarmedH U.vm → B U)
    (hn : As.length = k) (hst : st0 = As.reverse ++ rest) (hW : (rest.map fun v => v.category).sum ≤ 8) (hdg : decode cc pc = .ok (.invokestatic idx, 3)) (hf : cells + mc ≤ R.cells ∧ slots + ms ≤ R.slots) :
    va_Run p l e R s m args below meth c H locs cells slots mc ms (F0 m pc ls st0) rest (Qc As.toArray) free :=
  va_runSN (As := As) (rest := rest) (host := "WhiteElephants") Sx hM ⟨va_cnB k Sx.2.2.2.2 (bw_in _ (wq_in w.2.2.2)) rfl hrm.1 hrm.2 (hNN _ w.1) (Sx.2.2.2.2 _ w.2.2.1) md hR, Sx.2.2.2.2 _ w.2.1, trivial⟩ ⟨fun a U g mk q => ⟨q.1, hbl a U g mk q.2⟩, fun U hU hw => ⟨rfl, hpre U hU hw⟩⟩ rfl hn hls hst (lv_room hW) hdg hf
theorem wk_rIN (As rest : List Value) (Sx : CallFix p m c cc nL s args BW own) (hNN : NN s) (hls : ls.size = nL) (w : WIN own idx y b n) (md : MD y k) (hi : y.name = "<init>") (hM : Met l y (wq y b n none) rm (va_Pc (.ref o :: As) B) Qc mc ms free) (hrm : rm.cells = mc ∧ rm.slots = ms) (hR : rm.frames + 1 ≤ R.frames ∧ 8 + (n + 11) + rm.locals ≤ R.locals) (hbl : ∀ (a : Array Value) (U : State) (g : JFrame) (mk : MethodId), B U → B (U.calling g mk a)) (hpre : ∀ U : State, U.heap = H → s.WarmedH U.vm → B U)
    (hn : As.length = k) (hst : st0 = As.reverse ++ .ref o :: rest) (hW : (rest.map fun v => v.category).sum ≤ 8) (hdg : decode cc pc = .ok (.invokespecial idx, 3)) (hf : cells + mc ≤ R.cells ∧ slots + ms ≤ R.slots) :
    va_Run p l e R s m args below meth c H locs cells slots mc ms (F0 m pc ls st0) rest (Qc (Value.ref o :: As).toArray) free :=
  va_runIN (As := As) (rest := rest) (host := "WhiteElephants") Sx hM ⟨va_cnB k Sx.2.2.2.2 (bw_in _ (wq_in w.2.2.2)) rfl hrm.1 hrm.2 (hNN _ w.1) (Sx.2.2.2.2 _ w.2.2.1) md hR, hi, Sx.2.2.2.2 _ w.2.1⟩ ⟨fun a U g mk q => ⟨q.1, hbl a U g mk q.2⟩, fun U hU hw => ⟨rfl, hpre U hU hw⟩⟩ rfl hn hls hst (lv_room hW) hdg hf
theorem wk_int {v x : Int32} {rest : List Value} (h : x = v) (kk : W p l e R s m args below meth c H locs cells slots Q (F0 m pc ls (.int v :: rest))) : W p l e R s m args below meth c H locs cells slots Q (F0 m pc ls (.int x :: rest)) := h ▸ kk
theorem wk_long {v x : Int64} {rest : List Value} (h : x = v) (kk : W p l e R s m args below meth c H locs cells slots Q (F0 m pc ls (.long v :: rest))) : W p l e R s m args below meth c H locs cells slots Q (F0 m pc ls (.long x :: rest)) := h ▸ kk
theorem wk_val {v x : Value} {rest : List Value} (h : x = v) (kk : W p l e R s m args below meth c H locs cells slots Q (F0 m pc ls (v :: rest))) : W p l e R s m args below meth c H locs cells slots Q (F0 m pc ls (x :: rest)) := h ▸ kk
end WK
/-- the classes whose objects the worlds hold -/
theorem wk_subC {D : va_G} {cl : List vw_C} {ws wc : va_W} {H : Heap} (h : va_P D cl ws H) {is : List Nat} (hC : is.map (fun i => ws[i]?) = wc.map some) : va_P D cl wc H := by
  intro k q hq
  have h1 : (wc.map some)[k]? = some (some q) := by rw [List.getElem?_map, hq]; rfl
  rw [← hC, List.getElem?_map] at h1
  cases hi : is[k]? with
  | none => rw [hi] at h1; cases h1
  | some i =>
    rw [hi] at h1
    exact h i q (Option.some.inj h1)
end
section
/-! names, fields, words (out of the class files' tables, by a program of this repository) -/
def ET0 : u_T := fun k => match k with
  | 0 => ("WhiteElephants$Buyers", "hour", "[I", true)
  | 1 => ("WhiteElephants$Buyers", "purse", "[I", true)
  | 2 => ("WhiteElephants$Buyers", "wishes", "[I", true)
  | 3 => ("WhiteElephants$Buyers", "eye", "[I", true)
  | 4 => ("WhiteElephants$Buyers", "bought", "[I", true)
  | _ => ("WhiteElephants$Buyers", "count", "I", false)
def EY0 : Nat → FieldType := fun k => match k with
  | 0 => .array .int
  | 1 => .array .int
  | 2 => .array .int
  | 3 => .array .int
  | 4 => .array .int
  | _ => .int
def ET1 : u_T := fun k => match k with
  | 0 => ("WhiteElephants$Hall", "things", "LWhiteElephants$Things;", true)
  | 1 => ("WhiteElephants$Hall", "ladies", "LWhiteElephants$Ladies;", true)
  | 2 => ("WhiteElephants$Hall", "laws", "LWhiteElephants$Laws;", true)
  | 3 => ("WhiteElephants$Hall", "buyers", "LWhiteElephants$Buyers;", true)
  | 4 => ("WhiteElephants$Hall", "sightings", "LWhiteElephants$Sightings;", true)
  | 5 => ("WhiteElephants$Hall", "secrets", "LWhiteElephants$Secrets;", true)
  | 6 => ("WhiteElephants$Hall", "tables", "[I", true)
  | 7 => ("WhiteElephants$Hall", "tableCount", "I", false)
  | 8 => ("WhiteElephants$Hall", "half", "I", false)
  | 9 => ("WhiteElephants$Hall", "bag", "I", false)
  | 10 => ("WhiteElephants$Hall", "hour", "I", false)
  | 11 => ("WhiteElephants$Hall", "taken", "I", false)
  | 12 => ("WhiteElephants$Hall", "lostAt", "[I", true)
  | _ => ("WhiteElephants$Hall", "leastLost", "[I", true)
def EY1 : Nat → FieldType := fun k => match k with
  | 0 => .object "WhiteElephants$Things"
  | 1 => .object "WhiteElephants$Ladies"
  | 2 => .object "WhiteElephants$Laws"
  | 3 => .object "WhiteElephants$Buyers"
  | 4 => .object "WhiteElephants$Sightings"
  | 5 => .object "WhiteElephants$Secrets"
  | 6 => .array .int
  | 7 => .int
  | 8 => .int
  | 9 => .int
  | 10 => .int
  | 11 => .int
  | 12 => .array .int
  | _ => .array .int
def ET2 : u_T := fun k => match k with
  | 0 => ("WhiteElephants$Ladies", "knows", "[I", true)
  | 1 => ("WhiteElephants$Ladies", "guess", "[I", true)
  | 2 => ("WhiteElephants$Ladies", "law", "[I", true)
  | _ => ("WhiteElephants$Ladies", "count", "I", false)
def EY2 : Nat → FieldType := fun k => match k with
  | 0 => .array .int
  | 1 => .array .int
  | 2 => .array .int
  | _ => .int
def ET3 : u_T := fun k => match k with
  | 0 => ("WhiteElephants$Laws", "parts", "[I", true)
  | 1 => ("WhiteElephants$Laws", "draft", "[I", true)
  | _ => ("WhiteElephants$Laws", "count", "I", false)
def EY3 : Nat → FieldType := fun k => match k with
  | 0 => .array .int
  | 1 => .array .int
  | _ => .int
def ET4 : u_T := fun k => match k with
  | 0 => ("WhiteElephants$Picks", "sets", "[I", true)
  | _ => ("WhiteElephants$Picks", "gains", "[I", true)
def EY4 : Nat → FieldType := fun k => match k with
  | 0 => .array .int
  | _ => .array .int
def ET5 : u_T := fun k => match k with
  | 0 => ("WhiteElephants$Sale", "half", "I", false)
  | 1 => ("WhiteElephants$Sale", "bag", "I", false)
  | 2 => ("WhiteElephants$Sale", "left", "[I", true)
  | 3 => ("WhiteElephants$Sale", "leftCount", "I", false)
  | 4 => ("WhiteElephants$Sale", "truth", "[I", true)
  | 5 => ("WhiteElephants$Sale", "buyer", "[I", true)
  | 6 => ("WhiteElephants$Sale", "paid", "[I", true)
  | 7 => ("WhiteElephants$Sale", "purse", "[I", true)
  | _ => ("WhiteElephants$Sale", "idle", "[I", true)
def EY5 : Nat → FieldType := fun k => match k with
  | 0 => .int
  | 1 => .int
  | 2 => .array .int
  | 3 => .int
  | 4 => .array .int
  | 5 => .array .int
  | 6 => .array .int
  | 7 => .array .int
  | _ => .array .int
def ET6 : u_T := fun k => match k with
  | 0 => ("WhiteElephants$Secrets", "thing", "[I", true)
  | 1 => ("WhiteElephants$Secrets", "person", "[I", true)
  | 2 => ("WhiteElephants$Secrets", "count", "I", false)
  | 3 => ("WhiteElephants$Secrets", "sees", "[I", true)
  | 4 => ("WhiteElephants$Secrets", "hidden", "[I", true)
  | 5 => ("WhiteElephants$Secrets", "safe", "[I", true)
  | 6 => ("WhiteElephants$Secrets", "lies", "[I", true)
  | 7 => ("WhiteElephants$Secrets", "hiddenCount", "I", false)
  | _ => ("WhiteElephants$Secrets", "space", "[I", true)
def EY6 : Nat → FieldType := fun k => match k with
  | 0 => .array .int
  | 1 => .array .int
  | 2 => .int
  | 3 => .array .int
  | 4 => .array .int
  | 5 => .array .int
  | 6 => .array .int
  | 7 => .int
  | _ => .array .int
def ET7 : u_T := fun k => match k with
  | 0 => ("WhiteElephants$Shelf", "elements", "[J", true)
  | 1 => ("WhiteElephants$Shelf", "held", "I", false)
  | _ => ("WhiteElephants$Shelf", "size", "I", false)
def EY7 : Nat → FieldType := fun k => match k with
  | 0 => .array .long
  | 1 => .int
  | _ => .int
def ET8 : u_T := fun k => match k with
  | 0 => ("WhiteElephants$Sightings", "year", "[I", true)
  | 1 => ("WhiteElephants$Sightings", "chips", "[I", true)
  | 2 => ("WhiteElephants$Sightings", "gave", "[I", true)
  | 3 => ("WhiteElephants$Sightings", "bought", "[I", true)
  | 4 => ("WhiteElephants$Sightings", "count", "I", false)
  | 5 => ("WhiteElephants$Sightings", "before", "[I", true)
  | 6 => ("WhiteElephants$Sightings", "tried", "[I", true)
  | _ => ("WhiteElephants$Sightings", "length", "[I", true)
def EY8 : Nat → FieldType := fun k => match k with
  | 0 => .array .int
  | 1 => .array .int
  | 2 => .array .int
  | 3 => .array .int
  | 4 => .int
  | 5 => .array .int
  | 6 => .array .int
  | _ => .array .int
def ET9 : u_T := fun k => match k with
  | 0 => ("WhiteElephants$Tape", "bytes", "[B", true)
  | 1 => ("WhiteElephants$Tape", "size", "I", false)
  | 2 => ("WhiteElephants$Tape", "begin", "I", false)
  | _ => ("WhiteElephants$Tape", "end", "I", false)
def EY9 : Nat → FieldType := fun k => match k with
  | 0 => .array .byte
  | 1 => .int
  | 2 => .int
  | _ => .int
def ET10 : u_T := fun k => match k with
  | 0 => ("WhiteElephants$Things", "kind", "[I", true)
  | 1 => ("WhiteElephants$Things", "worth", "[I", true)
  | 2 => ("WhiteElephants$Things", "chips", "[I", true)
  | 3 => ("WhiteElephants$Things", "price", "[I", true)
  | 4 => ("WhiteElephants$Things", "buyer", "[I", true)
  | 5 => ("WhiteElephants$Things", "paid", "[I", true)
  | 6 => ("WhiteElephants$Things", "count", "I", false)
  | _ => ("WhiteElephants$Things", "sharedTo", "[I", true)
def EY10 : Nat → FieldType := fun k => match k with
  | 0 => .array .int
  | 1 => .array .int
  | 2 => .array .int
  | 3 => .array .int
  | 4 => .array .int
  | 5 => .array .int
  | 6 => .int
  | _ => .array .int
def ET11 : u_T := fun k => match k with
  | 0 => ("WhiteElephants", "shelves", "[LWhiteElephants$Shelf;", true)
  | 1 => ("WhiteElephants", "refusals", "[I", true)
  | 2 => ("WhiteElephants", "tape", "LWhiteElephants$Tape;", true)
  | 3 => ("WhiteElephants", "now", "LWhiteElephants$Hall;", true)
  | 4 => ("WhiteElephants", "kept", "LWhiteElephants$Hall;", true)
  | 5 => ("WhiteElephants", "sale", "LWhiteElephants$Sale;", true)
  | 6 => ("WhiteElephants", "picks", "LWhiteElephants$Picks;", true)
  | _ => ("WhiteElephants", "imaged", "Z", false)
def EY11 : Nat → FieldType := fun k => match k with
  | 0 => .array (.object "WhiteElephants$Shelf")
  | 1 => .array .int
  | 2 => .object "WhiteElephants$Tape"
  | 3 => .object "WhiteElephants$Hall"
  | 4 => .object "WhiteElephants$Hall"
  | 5 => .object "WhiteElephants$Sale"
  | 6 => .object "WhiteElephants$Picks"
  | _ => .boolean
def ET12 : u_T := fun k => match k with
  | 0 => ("WhiteElephantsModel", "holding", "[I", true)
  | 1 => ("WhiteElephantsModel", "rowLength", "[I", true)
  | 2 => ("WhiteElephantsModel", "rowOf", "[J", true)
  | 3 => ("WhiteElephantsModel", "things", "I", false)
  | 4 => ("WhiteElephantsModel", "thKind", "[I", true)
  | 5 => ("WhiteElephantsModel", "thWorth", "[I", true)
  | 6 => ("WhiteElephantsModel", "thChips", "[I", true)
  | 7 => ("WhiteElephantsModel", "thPrice", "[I", true)
  | 8 => ("WhiteElephantsModel", "thBy", "[I", true)
  | 9 => ("WhiteElephantsModel", "thPaid", "[I", true)
  | 10 => ("WhiteElephantsModel", "ladies", "I", false)
  | 11 => ("WhiteElephantsModel", "laKnows", "[I", true)
  | 12 => ("WhiteElephantsModel", "laGuess", "[I", true)
  | 13 => ("WhiteElephantsModel", "laLaw", "[I", true)
  | 14 => ("WhiteElephantsModel", "laws", "I", false)
  | 15 => ("WhiteElephantsModel", "lawSays", "[I", true)
  | 16 => ("WhiteElephantsModel", "tapeSize", "I", false)
  | 17 => ("WhiteElephantsModel", "tape", "[I", true)
  | 18 => ("WhiteElephantsModel", "buyers", "I", false)
  | 19 => ("WhiteElephantsModel", "buHour", "[I", true)
  | 20 => ("WhiteElephantsModel", "buPurse", "[I", true)
  | 21 => ("WhiteElephantsModel", "buWishes", "[I", true)
  | 22 => ("WhiteElephantsModel", "buEye", "[I", true)
  | 23 => ("WhiteElephantsModel", "buMany", "[I", true)
  | 24 => ("WhiteElephantsModel", "tables", "I", false)
  | 25 => ("WhiteElephantsModel", "taKinds", "[I", true)
  | 26 => ("WhiteElephantsModel", "sightings", "I", false)
  | 27 => ("WhiteElephantsModel", "siYear", "[I", true)
  | 28 => ("WhiteElephantsModel", "siChips", "[I", true)
  | 29 => ("WhiteElephantsModel", "siGave", "[I", true)
  | 30 => ("WhiteElephantsModel", "siBought", "[I", true)
  | 31 => ("WhiteElephantsModel", "secrets", "I", false)
  | 32 => ("WhiteElephantsModel", "seThing", "[I", true)
  | 33 => ("WhiteElephantsModel", "sePerson", "[I", true)
  | 34 => ("WhiteElephantsModel", "looksAt", "[I", true)
  | 35 => ("WhiteElephantsModel", "hours", "[I", true)
  | 36 => ("WhiteElephantsModel", "refusals", "[I", true)
  | 37 => ("WhiteElephantsModel", "isImage", "Z", false)
  | 38 => ("WhiteElephantsModel", "kept", "[I", true)
  | 39 => ("WhiteElephantsModel", "counts", "[I", true)
  | 40 => ("WhiteElephantsModel", "gone", "[Z", true)
  | 41 => ("WhiteElephantsModel", "purse", "[I", true)
  | 42 => ("WhiteElephantsModel", "best", "[I", true)
  | 43 => ("WhiteElephantsModel", "mate", "[I", true)
  | 44 => ("WhiteElephantsModel", "mateOf", "[I", true)
  | 45 => ("WhiteElephantsModel", "from", "[I", true)
  | 46 => ("WhiteElephantsModel", "line", "[I", true)
  | 47 => ("WhiteElephantsModel", "may", "[I", true)
  | 48 => ("WhiteElephantsModel", "room", "[I", true)
  | 49 => ("WhiteElephantsModel", "loses", "[I", true)
  | _ => ("WhiteElephantsModel", "fewest", "[B", false)
def EY12 : Nat → FieldType := fun k => match k with
  | 0 => .array .int
  | 1 => .array .int
  | 2 => .array .long
  | 3 => .int
  | 4 => .array .int
  | 5 => .array .int
  | 6 => .array .int
  | 7 => .array .int
  | 8 => .array .int
  | 9 => .array .int
  | 10 => .int
  | 11 => .array .int
  | 12 => .array .int
  | 13 => .array .int
  | 14 => .int
  | 15 => .array .int
  | 16 => .int
  | 17 => .array .int
  | 18 => .int
  | 19 => .array .int
  | 20 => .array .int
  | 21 => .array .int
  | 22 => .array .int
  | 23 => .array .int
  | 24 => .int
  | 25 => .array .int
  | 26 => .int
  | 27 => .array .int
  | 28 => .array .int
  | 29 => .array .int
  | 30 => .array .int
  | 31 => .int
  | 32 => .array .int
  | 33 => .array .int
  | 34 => .array .int
  | 35 => .array .int
  | 36 => .array .int
  | 37 => .boolean
  | 38 => .array .int
  | 39 => .array .int
  | 40 => .array .boolean
  | 41 => .array .int
  | 42 => .array .int
  | 43 => .array .int
  | 44 => .array .int
  | 45 => .array .int
  | 46 => .array .int
  | 47 => .array .int
  | 48 => .array .int
  | 49 => .array .int
  | _ => .array .byte
abbrev cls : List vw_C := [("WhiteElephants$Buyers", ET0, 6), ("WhiteElephants$Hall", ET1, 14), ("WhiteElephants$Ladies", ET2, 4), ("WhiteElephants$Laws", ET3, 3), ("WhiteElephants$Picks", ET4, 2), ("WhiteElephants$Sale", ET5, 9), ("WhiteElephants$Secrets", ET6, 9), ("WhiteElephants$Shelf", ET7, 3), ("WhiteElephants$Sightings", ET8, 8), ("WhiteElephants$Tape", ET9, 4), ("WhiteElephants$Things", ET10, 8), ("WhiteElephants", ET11, 8), ("WhiteElephantsModel", ET12, 51)]
theorem bw_ps (ws : List Cond) (ps : List Nat) (hp : ws = ps.filterMap (fun i => lw_tbl[i]?)) (hg : ws.all goodWord = true) : ∀ w ∈ ws, w ∈ BW := by
  intro w hw
  have h1 := List.all_eq_true.mp hg w hw
  rw [hp] at hw
  obtain ⟨i, -, hi⟩ := List.mem_filterMap.mp hw
  exact bw_at i hi h1
abbrev mb_J6_bitCount_0f7a4 : ByteArray := prog_15_method_49_code
abbrev my_J6_bitCount_0f7a4 : MethodName := ⟨"java/lang/Integer", "bitCount", "(I)I"⟩
theorem md_J6_bitCount_0f7a4 : MD my_J6_bitCount_0f7a4 1 := ⟨by decide, by decide, by decide +kernel⟩
abbrev mb_J7_fill_53178 : ByteArray := prog_21_method_103_code
abbrev my_J7_fill_53178 : MethodName := ⟨"java/util/Arrays", "fill", "([II)V"⟩
theorem md_J7_fill_53178 : MD my_J7_fill_53178 2 := ⟨by decide, by decide, by decide +kernel⟩
abbrev mb_J7_fill_d0a16 : ByteArray := prog_21_method_101_code
abbrev my_J7_fill_d0a16 : MethodName := ⟨"java/util/Arrays", "fill", "([JJ)V"⟩
theorem md_J7_fill_d0a16 : MD my_J7_fill_d0a16 2 := ⟨by decide, by decide, by decide +kernel⟩
abbrev mb_X0_add : ByteArray := prog_2_method_3_code
abbrev my_X0_add : MethodName := ⟨"WhiteElephants$Buyers", "add", "(IIII)I"⟩
theorem md_X0_add : MD my_X0_add 4 := ⟨by decide, by decide, by decide +kernel⟩
abbrev mb_X0_has : ByteArray := prog_2_method_2_code
abbrev my_X0_has : MethodName := ⟨"WhiteElephants$Buyers", "has", "(I)Z"⟩
theorem md_X0_has : MD my_X0_has 1 := ⟨by decide, by decide, by decide +kernel⟩
abbrev mb_X10_add : ByteArray := prog_12_method_3_code
abbrev my_X10_add : MethodName := ⟨"WhiteElephants$Things", "add", "(III)I"⟩
theorem md_X10_add : MD my_X10_add 3 := ⟨by decide, by decide, by decide +kernel⟩
abbrev mb_X10_countLeft : ByteArray := prog_12_method_13_code
abbrev my_X10_countLeft : MethodName := ⟨"WhiteElephants$Things", "countLeft", "()I"⟩
theorem md_X10_countLeft : MD my_X10_countLeft 0 := ⟨by decide, by decide, by decide +kernel⟩
abbrev mb_X10_has : ByteArray := prog_12_method_2_code
abbrev my_X10_has : MethodName := ⟨"WhiteElephants$Things", "has", "(I)Z"⟩
theorem md_X10_has : MD my_X10_has 1 := ⟨by decide, by decide, by decide +kernel⟩
abbrev mb_X10_worthLeft : ByteArray := prog_12_method_14_code
abbrev my_X10_worthLeft : MethodName := ⟨"WhiteElephants$Things", "worthLeft", "(I)I"⟩
theorem md_X10_worthLeft : MD my_X10_worthLeft 1 := ⟨by decide, by decide, by decide +kernel⟩
abbrev mb_X11_back : ByteArray := prog_1_method_48_code
abbrev my_X11_back : MethodName := ⟨"WhiteElephants", "back", "()I"⟩
theorem md_X11_back : MD my_X11_back 0 := ⟨by decide, by decide, by decide +kernel⟩
abbrev mb_X11_buyer : ByteArray := prog_1_method_22_code
abbrev my_X11_buyer : MethodName := ⟨"WhiteElephants", "buyer", "(IIII)I"⟩
theorem md_X11_buyer : MD my_X11_buyer 4 := ⟨by decide, by decide, by decide +kernel⟩
abbrev mb_X11_buyerOf : ByteArray := prog_1_method_23_code
abbrev my_X11_buyerOf : MethodName := ⟨"WhiteElephants", "buyerOf", "(II)I"⟩
theorem md_X11_buyerOf : MD my_X11_buyerOf 2 := ⟨by decide, by decide, by decide +kernel⟩
abbrev mb_X11_chip : ByteArray := prog_1_method_12_code
abbrev my_X11_chip : MethodName := ⟨"WhiteElephants", "chip", "(II)I"⟩
theorem md_X11_chip : MD my_X11_chip 2 := ⟨by decide, by decide, by decide +kernel⟩
abbrev mb_X11_copy : ByteArray := prog_1_method_4_code
abbrev my_X11_copy : MethodName := ⟨"WhiteElephants", "copy", "(IIIII)I"⟩
theorem md_X11_copy : MD my_X11_copy 5 := ⟨by decide, by decide, by decide +kernel⟩
abbrev mb_X11_costs : ByteArray := prog_1_method_25_code
abbrev my_X11_costs : MethodName := ⟨"WhiteElephants", "costs", "(II)I"⟩
theorem md_X11_costs : MD my_X11_costs 2 := ⟨by decide, by decide, by decide +kernel⟩
abbrev mb_X11_day : ByteArray := prog_1_method_33_code
abbrev my_X11_day : MethodName := ⟨"WhiteElephants", "day", "(I)I"⟩
theorem md_X11_day : MD my_X11_day 1 := ⟨by decide, by decide, by decide +kernel⟩
abbrev mb_X11_element : ByteArray := prog_1_method_5_code
abbrev my_X11_element : MethodName := ⟨"WhiteElephants", "element", "(II)J"⟩
theorem md_X11_element : MD my_X11_element 2 := ⟨by decide, by decide, by decide +kernel⟩
abbrev mb_X11_goes : ByteArray := prog_1_method_14_code
abbrev my_X11_goes : MethodName := ⟨"WhiteElephants", "goes", "(II)I"⟩
theorem md_X11_goes : MD my_X11_goes 2 := ⟨by decide, by decide, by decide +kernel⟩
abbrev mb_X11_hall : ByteArray := prog_1_method_46_code
abbrev my_X11_hall : MethodName := ⟨"WhiteElephants", "hall", "(II)I"⟩
theorem md_X11_hall : MD my_X11_hall 2 := ⟨by decide, by decide, by decide +kernel⟩
abbrev mb_X11_holds : ByteArray := prog_1_method_6_code
abbrev my_X11_holds : MethodName := ⟨"WhiteElephants", "holds", "(I)I"⟩
theorem md_X11_holds : MD my_X11_holds 1 := ⟨by decide, by decide, by decide +kernel⟩
abbrev mb_X11_isHour : ByteArray := prog_1_method_54_code
abbrev my_X11_isHour : MethodName := ⟨"WhiteElephants", "isHour", "(I)Z"⟩
theorem md_X11_isHour : MD my_X11_isHour 1 := ⟨by decide, by decide, by decide +kernel⟩
abbrev mb_X11_isKind : ByteArray := prog_1_method_52_code
abbrev my_X11_isKind : MethodName := ⟨"WhiteElephants", "isKind", "(I)Z"⟩
theorem md_X11_isKind : MD my_X11_isKind 1 := ⟨by decide, by decide, by decide +kernel⟩
abbrev mb_X11_isKinds : ByteArray := prog_1_method_53_code
abbrev my_X11_isKinds : MethodName := ⟨"WhiteElephants", "isKinds", "(I)Z"⟩
theorem md_X11_isKinds : MD my_X11_isKinds 1 := ⟨by decide, by decide, by decide +kernel⟩
abbrev mb_X11_isPerson : ByteArray := prog_1_method_55_code
abbrev my_X11_isPerson : MethodName := ⟨"WhiteElephants", "isPerson", "(I)Z"⟩
theorem md_X11_isPerson : MD my_X11_isPerson 1 := ⟨by decide, by decide, by decide +kernel⟩
abbrev mb_X11_isPersonOrNone : ByteArray := prog_1_method_56_code
abbrev my_X11_isPersonOrNone : MethodName := ⟨"WhiteElephants", "isPersonOrNone", "(I)Z"⟩
theorem md_X11_isPersonOrNone : MD my_X11_isPersonOrNone 1 := ⟨by decide, by decide, by decide +kernel⟩
abbrev mb_X11_isShelf : ByteArray := prog_1_method_51_code
abbrev my_X11_isShelf : MethodName := ⟨"WhiteElephants", "isShelf", "(I)Z"⟩
theorem md_X11_isShelf : MD my_X11_isShelf 1 := ⟨by decide, by decide, by decide +kernel⟩
abbrev mb_X11_judge : ByteArray := prog_1_method_29_code
abbrev my_X11_judge : MethodName := ⟨"WhiteElephants", "judge", "(I)I"⟩
theorem md_X11_judge : MD my_X11_judge 1 := ⟨by decide, by decide, by decide +kernel⟩
abbrev mb_X11_lady : ByteArray := prog_1_method_13_code
abbrev my_X11_lady : MethodName := ⟨"WhiteElephants", "lady", "(II)I"⟩
theorem md_X11_lady : MD my_X11_lady 2 := ⟨by decide, by decide, by decide +kernel⟩
abbrev mb_X11_laid : ByteArray := prog_1_method_44_code
abbrev my_X11_laid : MethodName := ⟨"WhiteElephants", "laid", "(II)I"⟩
theorem md_X11_laid : MD my_X11_laid 2 := ⟨by decide, by decide, by decide +kernel⟩
abbrev mb_X11_lawOf : ByteArray := prog_1_method_18_code
abbrev my_X11_lawOf : MethodName := ⟨"WhiteElephants", "lawOf", "(II)I"⟩
theorem md_X11_lawOf : MD my_X11_lawOf 2 := ⟨by decide, by decide, by decide +kernel⟩
abbrev mb_X11_longest : ByteArray := prog_1_method_41_code
abbrev my_X11_longest : MethodName := ⟨"WhiteElephants", "longest", "()I"⟩
theorem md_X11_longest : MD my_X11_longest 0 := ⟨by decide, by decide, by decide +kernel⟩
abbrev mb_X11_looks : ByteArray := prog_1_method_43_code
abbrev my_X11_looks : MethodName := ⟨"WhiteElephants", "looks", "(II)I"⟩
theorem md_X11_looks : MD my_X11_looks 2 := ⟨by decide, by decide, by decide +kernel⟩
abbrev mb_X11_loses : ByteArray := prog_1_method_31_code
abbrev my_X11_loses : MethodName := ⟨"WhiteElephants", "loses", "(II)I"⟩
theorem md_X11_loses : MD my_X11_loses 2 := ⟨by decide, by decide, by decide +kernel⟩
abbrev mb_X11_mark : ByteArray := prog_1_method_21_code
abbrev my_X11_mark : MethodName := ⟨"WhiteElephants", "mark", "(II)I"⟩
theorem md_X11_mark : MD my_X11_mark 2 := ⟨by decide, by decide, by decide +kernel⟩
abbrev mb_X11_morning : ByteArray := prog_1_method_34_code
abbrev my_X11_morning : MethodName := ⟨"WhiteElephants", "morning", "()I"⟩
theorem md_X11_morning : MD my_X11_morning 0 := ⟨by decide, by decide, by decide +kernel⟩
abbrev mb_X11_price : ByteArray := prog_1_method_20_code
abbrev my_X11_price : MethodName := ⟨"WhiteElephants", "price", "(II)I"⟩
theorem md_X11_price : MD my_X11_price 2 := ⟨by decide, by decide, by decide +kernel⟩
abbrev mb_X11_refusalOfRow : ByteArray := prog_1_method_59_code
abbrev my_X11_refusalOfRow : MethodName := ⟨"WhiteElephants", "refusalOfRow", "(I)I"⟩
theorem md_X11_refusalOfRow : MD my_X11_refusalOfRow 1 := ⟨by decide, by decide, by decide +kernel⟩
abbrev mb_X11_refuse : ByteArray := prog_1_method_58_code
abbrev my_X11_refuse : MethodName := ⟨"WhiteElephants", "refuse", "(I)I"⟩
theorem md_X11_refuse : MD my_X11_refuse 1 := ⟨by decide, by decide, by decide +kernel⟩
abbrev mb_X11_rest : ByteArray := prog_1_method_30_code
abbrev my_X11_rest : MethodName := ⟨"WhiteElephants", "rest", "(I)I"⟩
theorem md_X11_rest : MD my_X11_rest 1 := ⟨by decide, by decide, by decide +kernel⟩
abbrev mb_X11_row : ByteArray := prog_1_method_2_code
abbrev my_X11_row : MethodName := ⟨"WhiteElephants", "row", "(III)I"⟩
theorem md_X11_row : MD my_X11_row 3 := ⟨by decide, by decide, by decide +kernel⟩
abbrev mb_X11_same : ByteArray := prog_1_method_39_code
abbrev my_X11_same : MethodName := ⟨"WhiteElephants", "same", "(II)I"⟩
theorem md_X11_same : MD my_X11_same 2 := ⟨by decide, by decide, by decide +kernel⟩
abbrev mb_X11_says : ByteArray := prog_1_method_8_code
abbrev my_X11_says : MethodName := ⟨"WhiteElephants", "says", "(II)I"⟩
theorem md_X11_says : MD my_X11_says 2 := ⟨by decide, by decide, by decide +kernel⟩
abbrev mb_X11_secret : ByteArray := prog_1_method_42_code
abbrev my_X11_secret : MethodName := ⟨"WhiteElephants", "secret", "(II)I"⟩
theorem md_X11_secret : MD my_X11_secret 2 := ⟨by decide, by decide, by decide +kernel⟩
abbrev mb_X11_set : ByteArray := prog_1_method_3_code
abbrev my_X11_set : MethodName := ⟨"WhiteElephants", "set", "(IIJ)I"⟩
theorem md_X11_set : MD my_X11_set 3 := ⟨by decide, by decide, by decide +kernel⟩
abbrev mb_X11_shelvesInUse : ByteArray := prog_1_method_60_code
abbrev my_X11_shelvesInUse : MethodName := ⟨"WhiteElephants", "shelvesInUse", "()I"⟩
theorem md_X11_shelvesInUse : MD my_X11_shelvesInUse 0 := ⟨by decide, by decide, by decide +kernel⟩
abbrev mb_X11_shortBy : ByteArray := prog_1_method_45_code
abbrev my_X11_shortBy : MethodName := ⟨"WhiteElephants", "shortBy", "(I)I"⟩
theorem md_X11_shortBy : MD my_X11_shortBy 1 := ⟨by decide, by decide, by decide +kernel⟩
abbrev mb_X11_show : ByteArray := prog_1_method_7_code
abbrev my_X11_show : MethodName := ⟨"WhiteElephants", "show", "(II)I"⟩
theorem md_X11_show : MD my_X11_show 2 := ⟨by decide, by decide, by decide +kernel⟩
abbrev mb_X11_shown : ByteArray := prog_1_method_35_code
abbrev my_X11_shown : MethodName := ⟨"WhiteElephants", "shown", "(I)I"⟩
theorem md_X11_shown : MD my_X11_shown 1 := ⟨by decide, by decide, by decide +kernel⟩
abbrev mb_X11_sight : ByteArray := prog_1_method_38_code
abbrev my_X11_sight : MethodName := ⟨"WhiteElephants", "sight", "(IIII)I"⟩
theorem md_X11_sight : MD my_X11_sight 4 := ⟨by decide, by decide, by decide +kernel⟩
abbrev mb_X11_status : ByteArray := prog_1_method_49_code
abbrev my_X11_status : MethodName := ⟨"WhiteElephants", "status", "(I)I"⟩
theorem md_X11_status : MD my_X11_status 1 := ⟨by decide, by decide, by decide +kernel⟩
abbrev mb_X11_table : ByteArray := prog_1_method_36_code
abbrev my_X11_table : MethodName := ⟨"WhiteElephants", "table", "(I)I"⟩
theorem md_X11_table : MD my_X11_table 1 := ⟨by decide, by decide, by decide +kernel⟩
abbrev mb_X11_takes : ByteArray := prog_1_method_26_code
abbrev my_X11_takes : MethodName := ⟨"WhiteElephants", "takes", "(II)I"⟩
theorem md_X11_takes : MD my_X11_takes 2 := ⟨by decide, by decide, by decide +kernel⟩
abbrev mb_X11_takings : ByteArray := prog_1_method_27_code
abbrev my_X11_takings : MethodName := ⟨"WhiteElephants", "takings", "(II)I"⟩
theorem md_X11_takings : MD my_X11_takings 2 := ⟨by decide, by decide, by decide +kernel⟩
abbrev mb_X11_thing : ByteArray := prog_1_method_9_code
abbrev my_X11_thing : MethodName := ⟨"WhiteElephants", "thing", "(III)I"⟩
theorem md_X11_thing : MD my_X11_thing 3 := ⟨by decide, by decide, by decide +kernel⟩
abbrev mb_X11_thingOf : ByteArray := prog_1_method_11_code
abbrev my_X11_thingOf : MethodName := ⟨"WhiteElephants", "thingOf", "(II)I"⟩
theorem md_X11_thingOf : MD my_X11_thingOf 2 := ⟨by decide, by decide, by decide +kernel⟩
abbrev mb_X11_things : ByteArray := prog_1_method_10_code
abbrev my_X11_things : MethodName := ⟨"WhiteElephants", "things", "(III)I"⟩
theorem md_X11_things : MD my_X11_things 3 := ⟨by decide, by decide, by decide +kernel⟩
abbrev mb_X11_thinks : ByteArray := prog_1_method_19_code
abbrev my_X11_thinks : MethodName := ⟨"WhiteElephants", "thinks", "(IIZ)I"⟩
theorem md_X11_thinks : MD my_X11_thinks 3 := ⟨by decide, by decide, by decide +kernel⟩
abbrev mb_X11_turn : ByteArray := prog_1_method_24_code
abbrev my_X11_turn : MethodName := ⟨"WhiteElephants", "turn", "(II)I"⟩
theorem md_X11_turn : MD my_X11_turn 2 := ⟨by decide, by decide, by decide +kernel⟩
abbrev mb_X11_vases : ByteArray := prog_1_method_40_code
abbrev my_X11_vases : MethodName := ⟨"WhiteElephants", "vases", "()I"⟩
theorem md_X11_vases : MD my_X11_vases 0 := ⟨by decide, by decide, by decide +kernel⟩
abbrev mb_X11_who : ByteArray := prog_1_method_37_code
abbrev my_X11_who : MethodName := ⟨"WhiteElephants", "who", "(I)I"⟩
theorem md_X11_who : MD my_X11_who 1 := ⟨by decide, by decide, by decide +kernel⟩
abbrev mb_X11_wipe : ByteArray := prog_1_method_16_code
abbrev my_X11_wipe : MethodName := ⟨"WhiteElephants", "wipe", "()I"⟩
theorem md_X11_wipe : MD my_X11_wipe 0 := ⟨by decide, by decide, by decide +kernel⟩
abbrev mb_X11_within : ByteArray := prog_1_method_50_code
abbrev my_X11_within : MethodName := ⟨"WhiteElephants", "within", "(III)Z"⟩
theorem md_X11_within : MD my_X11_within 3 := ⟨by decide, by decide, by decide +kernel⟩
abbrev mb_X1_bestLady : ByteArray := prog_3_method_8_code
abbrev my_X1_bestLady : MethodName := ⟨"WhiteElephants$Hall", "bestLady", "(II)I"⟩
theorem md_X1_bestLady : MD my_X1_bestLady 2 := ⟨by decide, by decide, by decide +kernel⟩
abbrev mb_X1_planTables : ByteArray := prog_3_method_7_code
abbrev my_X1_planTables : MethodName := ⟨"WhiteElephants$Hall", "planTables", "()V"⟩
theorem md_X1_planTables : MD my_X1_planTables 0 := ⟨by decide, by decide, by decide +kernel⟩
abbrev mb_X2_add : ByteArray := prog_4_method_3_code
abbrev my_X2_add : MethodName := ⟨"WhiteElephants$Ladies", "add", "(II)I"⟩
theorem md_X2_add : MD my_X2_add 2 := ⟨by decide, by decide, by decide +kernel⟩
abbrev mb_X2_has : ByteArray := prog_4_method_2_code
abbrev my_X2_has : MethodName := ⟨"WhiteElephants$Ladies", "has", "(I)Z"⟩
theorem md_X2_has : MD my_X2_has 1 := ⟨by decide, by decide, by decide +kernel⟩
abbrev mb_X3_has : ByteArray := prog_5_method_3_code
abbrev my_X3_has : MethodName := ⟨"WhiteElephants$Laws", "has", "(I)Z"⟩
theorem md_X3_has : MD my_X3_has 1 := ⟨by decide, by decide, by decide +kernel⟩
abbrev mb_X4_bargains : ByteArray := prog_6_method_2_code
abbrev my_X4_bargains : MethodName := ⟨"WhiteElephants$Picks", "bargains", "(LWhiteElephants$Things;I)I"⟩
theorem md_X4_bargains : MD my_X4_bargains 2 := ⟨by decide, by decide, by decide +kernel⟩
abbrev mb_X4_fewestPaid : ByteArray := prog_6_method_4_code
abbrev my_X4_fewestPaid : MethodName := ⟨"WhiteElephants$Picks", "fewestPaid", "(LWhiteElephants$Things;I)I"⟩
theorem md_X4_fewestPaid : MD my_X4_fewestPaid 2 := ⟨by decide, by decide, by decide +kernel⟩
abbrev mb_X5_open : ByteArray := prog_7_method_4_code
abbrev my_X5_open : MethodName := ⟨"WhiteElephants$Sale", "open", "(LWhiteElephants$Hall;II)V"⟩
theorem md_X5_open : MD my_X5_open 3 := ⟨by decide, by decide, by decide +kernel⟩
abbrev mb_X5_playHour : ByteArray := prog_7_method_6_code
abbrev my_X5_playHour : MethodName := ⟨"WhiteElephants$Sale", "playHour", "(LWhiteElephants$Hall;I)I"⟩
theorem md_X5_playHour : MD my_X5_playHour 2 := ⟨by decide, by decide, by decide +kernel⟩
abbrev mb_X5_settle : ByteArray := prog_7_method_11_code
abbrev my_X5_settle : MethodName := ⟨"WhiteElephants$Sale", "settle", "(LWhiteElephants$Hall;)V"⟩
theorem md_X5_settle : MD my_X5_settle 1 := ⟨by decide, by decide, by decide +kernel⟩
abbrev mb_X5_stage : ByteArray := prog_7_method_2_code
abbrev my_X5_stage : MethodName := ⟨"WhiteElephants$Sale", "stage", "(III)I"⟩
theorem md_X5_stage : MD my_X5_stage 3 := ⟨by decide, by decide, by decide +kernel⟩
abbrev mb_X5_wholeDay : ByteArray := prog_7_method_9_code
abbrev my_X5_wholeDay : MethodName := ⟨"WhiteElephants$Sale", "wholeDay", "(LWhiteElephants$Hall;II)I"⟩
theorem md_X5_wholeDay : MD my_X5_wholeDay 3 := ⟨by decide, by decide, by decide +kernel⟩
abbrev mb_X7_at : ByteArray := prog_9_method_7_code
abbrev my_X7_at : MethodName := ⟨"WhiteElephants$Shelf", "at", "(I)J"⟩
theorem md_X7_at : MD my_X7_at 1 := ⟨by decide, by decide, by decide +kernel⟩
abbrev mb_X7_hasRow : ByteArray := prog_9_method_3_code
abbrev my_X7_hasRow : MethodName := ⟨"WhiteElephants$Shelf", "hasRow", "()Z"⟩
theorem md_X7_hasRow : MD my_X7_hasRow 0 := ⟨by decide, by decide, by decide +kernel⟩
abbrev mb_X7_hasThing : ByteArray := prog_9_method_4_code
abbrev my_X7_hasThing : MethodName := ⟨"WhiteElephants$Shelf", "hasThing", "()Z"⟩
theorem md_X7_hasThing : MD my_X7_hasThing 0 := ⟨by decide, by decide, by decide +kernel⟩
abbrev mb_X7_isEmpty : ByteArray := prog_9_method_2_code
abbrev my_X7_isEmpty : MethodName := ⟨"WhiteElephants$Shelf", "isEmpty", "()Z"⟩
theorem md_X7_isEmpty : MD my_X7_isEmpty 0 := ⟨by decide, by decide, by decide +kernel⟩
abbrev mb_X7_takeRow : ByteArray := prog_9_method_6_code
abbrev my_X7_takeRow : MethodName := ⟨"WhiteElephants$Shelf", "takeRow", "(II)V"⟩
theorem md_X7_takeRow : MD my_X7_takeRow 2 := ⟨by decide, by decide, by decide +kernel⟩
abbrev mb_X8_add : ByteArray := prog_10_method_3_code
abbrev my_X8_add : MethodName := ⟨"WhiteElephants$Sightings", "add", "(IIII)I"⟩
theorem md_X8_add : MD my_X8_add 4 := ⟨by decide, by decide, by decide +kernel⟩
abbrev mb_X8_fewestVases : ByteArray := prog_10_method_5_code
abbrev my_X8_fewestVases : MethodName := ⟨"WhiteElephants$Sightings", "fewestVases", "()I"⟩
theorem md_X8_fewestVases : MD my_X8_fewestVases 0 := ⟨by decide, by decide, by decide +kernel⟩
abbrev mb_X8_has : ByteArray := prog_10_method_2_code
abbrev my_X8_has : MethodName := ⟨"WhiteElephants$Sightings", "has", "(I)Z"⟩
theorem md_X8_has : MD my_X8_has 1 := ⟨by decide, by decide, by decide +kernel⟩
abbrev mb_X8_longestRow : ByteArray := prog_10_method_7_code
abbrev my_X8_longestRow : MethodName := ⟨"WhiteElephants$Sightings", "longestRow", "()I"⟩
theorem md_X8_longestRow : MD my_X8_longestRow 0 := ⟨by decide, by decide, by decide +kernel⟩
theorem kk_1 : Cond.initialized "WhiteElephants" ∈ BW := bw_at 61 (by decide +kernel) rfl
theorem kk_3 : Cond.initialized "WhiteElephants$Hall" ∈ BW := bw_at 63 (by decide +kernel) rfl
theorem kk_4 : Cond.initialized "WhiteElephants$Things" ∈ BW := bw_at 64 (by decide +kernel) rfl
theorem kk_5 : Cond.initialized "WhiteElephants$Ladies" ∈ BW := bw_at 65 (by decide +kernel) rfl
theorem kk_6 : Cond.initialized "WhiteElephants$Laws" ∈ BW := bw_at 66 (by decide +kernel) rfl
theorem kk_7 : Cond.initialized "WhiteElephants$Buyers" ∈ BW := bw_at 67 (by decide +kernel) rfl
theorem kk_8 : Cond.initialized "WhiteElephants$Sightings" ∈ BW := bw_at 68 (by decide +kernel) rfl
theorem kk_10 : Cond.initialized "WhiteElephants$Sale" ∈ BW := bw_at 70 (by decide +kernel) rfl
theorem kk_11 : Cond.initialized "WhiteElephants$Picks" ∈ BW := bw_at 71 (by decide +kernel) rfl
theorem kk_12 : Cond.initialized "WhiteElephants$Shelf" ∈ BW := bw_at 72 (by decide +kernel) rfl
theorem kk_14 : Cond.initialized "java/util/Arrays" ∈ BW := bw_at 74 (by decide +kernel) rfl
theorem kk_16 : Cond.initialized "java/lang/Integer" ∈ BW := bw_at 76 (by decide +kernel) rfl
theorem kk_40 : Cond.fieldLink "WhiteElephants" 188 "WhiteElephants$Tape" "size" "I" ∈ BW := bw_at 100 (by decide +kernel) rfl
theorem kk_66 : Cond.fieldLink "WhiteElephants$Things" 9 "WhiteElephants$Things" "kind" "[I" ∈ BW := bw_at 126 (by decide +kernel) rfl
theorem kk_70 : Cond.fieldLink "WhiteElephants$Things" 15 "WhiteElephants$Things" "worth" "[I" ∈ BW := bw_at 130 (by decide +kernel) rfl
theorem kk_72 : Cond.fieldLink "WhiteElephants$Things" 18 "WhiteElephants$Things" "chips" "[I" ∈ BW := bw_at 132 (by decide +kernel) rfl
theorem kk_74 : Cond.fieldLink "WhiteElephants$Things" 21 "WhiteElephants$Things" "price" "[I" ∈ BW := bw_at 134 (by decide +kernel) rfl
theorem kk_79 : Cond.fieldLink "WhiteElephants$Things" 24 "WhiteElephants$Things" "buyer" "[I" ∈ BW := bw_at 139 (by decide +kernel) rfl
theorem kk_82 : Cond.fieldLink "WhiteElephants$Things" 27 "WhiteElephants$Things" "paid" "[I" ∈ BW := bw_at 142 (by decide +kernel) rfl
theorem kk_86 : Cond.fieldLink "WhiteElephants$Things" 30 "WhiteElephants$Things" "count" "I" ∈ BW := bw_at 146 (by decide +kernel) rfl
theorem kk_87 : Cond.fieldLink "WhiteElephants$Picks" 18 "WhiteElephants$Things" "count" "I" ∈ BW := bw_at 147 (by decide +kernel) rfl
theorem kk_88 : Cond.fieldLink "WhiteElephants$Sale" 46 "WhiteElephants$Things" "count" "I" ∈ BW := bw_at 148 (by decide +kernel) rfl
theorem kk_90 : Cond.fieldLink "WhiteElephants" 132 "WhiteElephants$Things" "count" "I" ∈ BW := bw_at 150 (by decide +kernel) rfl
theorem kk_116 : Cond.fieldLink "WhiteElephants$Ladies" 9 "WhiteElephants$Ladies" "knows" "[I" ∈ BW := bw_at 176 (by decide +kernel) rfl
theorem kk_118 : Cond.fieldLink "WhiteElephants$Ladies" 15 "WhiteElephants$Ladies" "guess" "[I" ∈ BW := bw_at 178 (by decide +kernel) rfl
theorem kk_120 : Cond.fieldLink "WhiteElephants$Ladies" 18 "WhiteElephants$Ladies" "law" "[I" ∈ BW := bw_at 180 (by decide +kernel) rfl
theorem kk_123 : Cond.fieldLink "WhiteElephants$Ladies" 21 "WhiteElephants$Ladies" "count" "I" ∈ BW := bw_at 183 (by decide +kernel) rfl
theorem kk_124 : Cond.fieldLink "WhiteElephants$Hall" 130 "WhiteElephants$Ladies" "count" "I" ∈ BW := bw_at 184 (by decide +kernel) rfl
theorem kk_125 : Cond.fieldLink "WhiteElephants" 172 "WhiteElephants$Ladies" "count" "I" ∈ BW := bw_at 185 (by decide +kernel) rfl
theorem kk_144 : Cond.fieldLink "WhiteElephants$Laws" 18 "WhiteElephants$Laws" "count" "I" ∈ BW := bw_at 204 (by decide +kernel) rfl
theorem kk_145 : Cond.fieldLink "WhiteElephants" 192 "WhiteElephants$Laws" "count" "I" ∈ BW := bw_at 205 (by decide +kernel) rfl
theorem kk_159 : Cond.fieldLink "WhiteElephants$Buyers" 9 "WhiteElephants$Buyers" "hour" "[I" ∈ BW := bw_at 219 (by decide +kernel) rfl
theorem kk_162 : Cond.fieldLink "WhiteElephants$Buyers" 15 "WhiteElephants$Buyers" "purse" "[I" ∈ BW := bw_at 222 (by decide +kernel) rfl
theorem kk_165 : Cond.fieldLink "WhiteElephants$Buyers" 18 "WhiteElephants$Buyers" "wishes" "[I" ∈ BW := bw_at 225 (by decide +kernel) rfl
theorem kk_168 : Cond.fieldLink "WhiteElephants$Buyers" 21 "WhiteElephants$Buyers" "eye" "[I" ∈ BW := bw_at 228 (by decide +kernel) rfl
theorem kk_171 : Cond.fieldLink "WhiteElephants$Buyers" 24 "WhiteElephants$Buyers" "bought" "[I" ∈ BW := bw_at 231 (by decide +kernel) rfl
theorem kk_174 : Cond.fieldLink "WhiteElephants$Buyers" 27 "WhiteElephants$Buyers" "count" "I" ∈ BW := bw_at 234 (by decide +kernel) rfl
theorem kk_175 : Cond.fieldLink "WhiteElephants$Sale" 63 "WhiteElephants$Buyers" "count" "I" ∈ BW := bw_at 235 (by decide +kernel) rfl
theorem kk_176 : Cond.fieldLink "WhiteElephants" 223 "WhiteElephants$Buyers" "count" "I" ∈ BW := bw_at 236 (by decide +kernel) rfl
theorem kk_196 : Cond.fieldLink "WhiteElephants$Sightings" 9 "WhiteElephants$Sightings" "year" "[I" ∈ BW := bw_at 256 (by decide +kernel) rfl
theorem kk_197 : Cond.fieldLink "WhiteElephants$Sightings" 15 "WhiteElephants$Sightings" "chips" "[I" ∈ BW := bw_at 257 (by decide +kernel) rfl
theorem kk_198 : Cond.fieldLink "WhiteElephants$Sightings" 18 "WhiteElephants$Sightings" "gave" "[I" ∈ BW := bw_at 258 (by decide +kernel) rfl
theorem kk_199 : Cond.fieldLink "WhiteElephants$Sightings" 21 "WhiteElephants$Sightings" "bought" "[I" ∈ BW := bw_at 259 (by decide +kernel) rfl
theorem kk_200 : Cond.fieldLink "WhiteElephants$Sightings" 24 "WhiteElephants$Sightings" "count" "I" ∈ BW := bw_at 260 (by decide +kernel) rfl
theorem kk_201 : Cond.fieldLink "WhiteElephants" 325 "WhiteElephants$Sightings" "count" "I" ∈ BW := bw_at 261 (by decide +kernel) rfl
theorem kk_202 : Cond.fieldLink "WhiteElephants$Sightings" 28 "WhiteElephants$Sightings" "before" "[I" ∈ BW := bw_at 262 (by decide +kernel) rfl
theorem kk_231 : Cond.fieldLink "WhiteElephants" 346 "WhiteElephants$Secrets" "count" "I" ∈ BW := bw_at 291 (by decide +kernel) rfl
theorem kk_233 : Cond.fieldLink "WhiteElephants" 350 "WhiteElephants$Secrets" "sees" "[I" ∈ BW := bw_at 293 (by decide +kernel) rfl
theorem kk_259 : Cond.fieldLink "WhiteElephants$Sale" 40 "WhiteElephants$Hall" "things" "LWhiteElephants$Things;" ∈ BW := bw_at 319 (by decide +kernel) rfl
theorem kk_260 : Cond.fieldLink "WhiteElephants" 113 "WhiteElephants$Hall" "things" "LWhiteElephants$Things;" ∈ BW := bw_at 320 (by decide +kernel) rfl
theorem kk_261 : Cond.fieldLink "WhiteElephants$Hall" 21 "WhiteElephants$Hall" "ladies" "LWhiteElephants$Ladies;" ∈ BW := bw_at 321 (by decide +kernel) rfl
theorem kk_262 : Cond.fieldLink "WhiteElephants" 168 "WhiteElephants$Hall" "ladies" "LWhiteElephants$Ladies;" ∈ BW := bw_at 322 (by decide +kernel) rfl
theorem kk_264 : Cond.fieldLink "WhiteElephants" 178 "WhiteElephants$Hall" "laws" "LWhiteElephants$Laws;" ∈ BW := bw_at 324 (by decide +kernel) rfl
theorem kk_266 : Cond.fieldLink "WhiteElephants$Sale" 59 "WhiteElephants$Hall" "buyers" "LWhiteElephants$Buyers;" ∈ BW := bw_at 326 (by decide +kernel) rfl
theorem kk_267 : Cond.fieldLink "WhiteElephants" 219 "WhiteElephants$Hall" "buyers" "LWhiteElephants$Buyers;" ∈ BW := bw_at 327 (by decide +kernel) rfl
theorem kk_269 : Cond.fieldLink "WhiteElephants" 321 "WhiteElephants$Hall" "sightings" "LWhiteElephants$Sightings;" ∈ BW := bw_at 329 (by decide +kernel) rfl
theorem kk_271 : Cond.fieldLink "WhiteElephants" 342 "WhiteElephants$Hall" "secrets" "LWhiteElephants$Secrets;" ∈ BW := bw_at 331 (by decide +kernel) rfl
theorem kk_273 : Cond.fieldLink "WhiteElephants" 306 "WhiteElephants$Hall" "tables" "[I" ∈ BW := bw_at 333 (by decide +kernel) rfl
theorem kk_274 : Cond.fieldLink "WhiteElephants$Hall" 57 "WhiteElephants$Hall" "tableCount" "I" ∈ BW := bw_at 334 (by decide +kernel) rfl
theorem kk_275 : Cond.fieldLink "WhiteElephants" 303 "WhiteElephants$Hall" "tableCount" "I" ∈ BW := bw_at 335 (by decide +kernel) rfl
theorem kk_277 : Cond.fieldLink "WhiteElephants" 245 "WhiteElephants$Hall" "half" "I" ∈ BW := bw_at 337 (by decide +kernel) rfl
theorem kk_279 : Cond.fieldLink "WhiteElephants" 248 "WhiteElephants$Hall" "bag" "I" ∈ BW := bw_at 339 (by decide +kernel) rfl
theorem kk_281 : Cond.fieldLink "WhiteElephants" 282 "WhiteElephants$Hall" "hour" "I" ∈ BW := bw_at 341 (by decide +kernel) rfl
theorem kk_283 : Cond.fieldLink "WhiteElephants" 293 "WhiteElephants$Hall" "taken" "I" ∈ BW := bw_at 343 (by decide +kernel) rfl
theorem kk_285 : Cond.fieldLink "WhiteElephants$Hall" 76 "WhiteElephants$Hall" "leastLost" "[I" ∈ BW := bw_at 345 (by decide +kernel) rfl
theorem kk_286 : Cond.fieldLink "WhiteElephants" 312 "WhiteElephants$Hall" "leastLost" "[I" ∈ BW := bw_at 346 (by decide +kernel) rfl
theorem kk_322 : Cond.fieldLink "WhiteElephants$Sale" 9 "WhiteElephants$Sale" "half" "I" ∈ BW := bw_at 382 (by decide +kernel) rfl
theorem kk_323 : Cond.fieldLink "WhiteElephants$Sale" 15 "WhiteElephants$Sale" "bag" "I" ∈ BW := bw_at 383 (by decide +kernel) rfl
theorem kk_325 : Cond.fieldLink "WhiteElephants$Sale" 22 "WhiteElephants$Sale" "leftCount" "I" ∈ BW := bw_at 385 (by decide +kernel) rfl
theorem kk_356 : Cond.fieldLink "WhiteElephants$Picks" 9 "WhiteElephants$Picks" "sets" "[I" ∈ BW := bw_at 416 (by decide +kernel) rfl
theorem kk_357 : Cond.fieldLink "WhiteElephants$Picks" 15 "WhiteElephants$Picks" "gains" "[I" ∈ BW := bw_at 417 (by decide +kernel) rfl
theorem kk_368 : Cond.fieldLink "WhiteElephants$Shelf" 9 "WhiteElephants$Shelf" "elements" "[J" ∈ BW := bw_at 428 (by decide +kernel) rfl
theorem kk_370 : Cond.fieldLink "WhiteElephants$Shelf" 15 "WhiteElephants$Shelf" "held" "I" ∈ BW := bw_at 430 (by decide +kernel) rfl
theorem kk_371 : Cond.fieldLink "WhiteElephants" 89 "WhiteElephants$Shelf" "held" "I" ∈ BW := bw_at 431 (by decide +kernel) rfl
theorem kk_372 : Cond.fieldLink "WhiteElephants$Shelf" 19 "WhiteElephants$Shelf" "size" "I" ∈ BW := bw_at 432 (by decide +kernel) rfl
theorem kk_382 : Cond.fieldLink "WhiteElephants" 11 "WhiteElephants" "shelves" "[LWhiteElephants$Shelf;" ∈ BW := bw_at 442 (by decide +kernel) rfl
theorem kk_383 : Cond.fieldLink "WhiteElephants" 15 "WhiteElephants" "refusals" "[I" ∈ BW := bw_at 443 (by decide +kernel) rfl
theorem kk_384 : Cond.fieldLink "WhiteElephants" 22 "WhiteElephants" "tape" "LWhiteElephants$Tape;" ∈ BW := bw_at 444 (by decide +kernel) rfl
theorem kk_385 : Cond.fieldLink "WhiteElephants" 29 "WhiteElephants" "now" "LWhiteElephants$Hall;" ∈ BW := bw_at 445 (by decide +kernel) rfl
theorem kk_387 : Cond.fieldLink "WhiteElephants" 39 "WhiteElephants" "sale" "LWhiteElephants$Sale;" ∈ BW := bw_at 447 (by decide +kernel) rfl
theorem kk_388 : Cond.fieldLink "WhiteElephants" 46 "WhiteElephants" "picks" "LWhiteElephants$Picks;" ∈ BW := bw_at 448 (by decide +kernel) rfl
theorem kk_389 : Cond.fieldLink "WhiteElephants" 50 "WhiteElephants" "imaged" "Z" ∈ BW := bw_at 449 (by decide +kernel) rfl
theorem kk_410 : Cond.code ⟨"WhiteElephants", "row", "(III)I"⟩ prog_1_method_2_code 4 (some .int) ∈ BW := bw_at 470 (by decide +kernel) rfl
theorem kk_411 : Cond.methodLink "WhiteElephants" 55 ⟨"WhiteElephants", "isShelf", "(I)Z"⟩ ∈ BW := bw_at 471 (by decide +kernel) rfl
theorem kk_412 : Cond.static ⟨"WhiteElephants", "isShelf", "(I)Z"⟩ ∈ BW := bw_at 472 (by decide +kernel) rfl
theorem kk_413 : Cond.code ⟨"WhiteElephants", "isShelf", "(I)Z"⟩ prog_1_method_51_code 1 (some .boolean) ∈ BW := bw_at 473 (by decide +kernel) rfl
theorem kk_414 : Cond.methodLink "WhiteElephants" 59 ⟨"WhiteElephants", "within", "(III)Z"⟩ ∈ BW := bw_at 474 (by decide +kernel) rfl
theorem kk_415 : Cond.static ⟨"WhiteElephants", "within", "(III)Z"⟩ ∈ BW := bw_at 475 (by decide +kernel) rfl
theorem kk_416 : Cond.code ⟨"WhiteElephants", "within", "(III)Z"⟩ prog_1_method_50_code 3 (some .boolean) ∈ BW := bw_at 476 (by decide +kernel) rfl
theorem kk_417 : Cond.methodLink "WhiteElephants" 63 ⟨"WhiteElephants", "refuse", "(I)I"⟩ ∈ BW := bw_at 477 (by decide +kernel) rfl
theorem kk_419 : Cond.instanceMethod ⟨"WhiteElephants", "refuse", "(I)I"⟩ ∈ BW := bw_at 479 (by decide +kernel) rfl
theorem kk_420 : Cond.code ⟨"WhiteElephants", "refuse", "(I)I"⟩ prog_1_method_58_code 3 (some .int) ∈ BW := bw_at 480 (by decide +kernel) rfl
theorem kk_421 : Cond.methodLink "WhiteElephants" 67 ⟨"WhiteElephants$Shelf", "takeRow", "(II)V"⟩ ∈ BW := bw_at 481 (by decide +kernel) rfl
theorem kk_422 : Cond.instanceMethod ⟨"WhiteElephants$Shelf", "takeRow", "(II)V"⟩ ∈ BW := bw_at 482 (by decide +kernel) rfl
theorem kk_423 : Cond.selects "WhiteElephants$Shelf" ⟨"WhiteElephants$Shelf", "takeRow", "(II)V"⟩ ⟨"WhiteElephants$Shelf", "takeRow", "(II)V"⟩ ∈ BW := bw_at 483 (by decide +kernel) rfl
theorem kk_424 : Cond.code ⟨"WhiteElephants$Shelf", "takeRow", "(II)V"⟩ prog_9_method_6_code 3 (none : Option Jvm.ClassFile.FieldType) ∈ BW := bw_at 484 (by decide +kernel) rfl
theorem kk_425 : Cond.methodLink "WhiteElephants$Shelf" 26 ⟨"java/util/Arrays", "fill", "([JJ)V"⟩ ∈ BW := bw_at 485 (by decide +kernel) rfl
theorem kk_426 : Cond.static ⟨"java/util/Arrays", "fill", "([JJ)V"⟩ ∈ BW := bw_at 486 (by decide +kernel) rfl
theorem kk_427 : Cond.code ⟨"java/util/Arrays", "fill", "([JJ)V"⟩ prog_21_method_101_code 5 (none : Option Jvm.ClassFile.FieldType) ∈ BW := bw_at 487 (by decide +kernel) rfl
theorem kk_431 : Cond.code ⟨"WhiteElephants", "set", "(IIJ)I"⟩ prog_1_method_3_code 6 (some .int) ∈ BW := bw_at 491 (by decide +kernel) rfl
theorem kk_432 : Cond.methodLink "WhiteElephants" 71 ⟨"WhiteElephants", "refusalOfRow", "(I)I"⟩ ∈ BW := bw_at 492 (by decide +kernel) rfl
theorem kk_434 : Cond.instanceMethod ⟨"WhiteElephants", "refusalOfRow", "(I)I"⟩ ∈ BW := bw_at 494 (by decide +kernel) rfl
theorem kk_435 : Cond.code ⟨"WhiteElephants", "refusalOfRow", "(I)I"⟩ prog_1_method_59_code 2 (some .int) ∈ BW := bw_at 495 (by decide +kernel) rfl
theorem kk_436 : Cond.methodLink "WhiteElephants" 82 ⟨"WhiteElephants$Shelf", "hasThing", "()Z"⟩ ∈ BW := bw_at 496 (by decide +kernel) rfl
theorem kk_437 : Cond.instanceMethod ⟨"WhiteElephants$Shelf", "hasThing", "()Z"⟩ ∈ BW := bw_at 497 (by decide +kernel) rfl
theorem kk_438 : Cond.selects "WhiteElephants$Shelf" ⟨"WhiteElephants$Shelf", "hasThing", "()Z"⟩ ⟨"WhiteElephants$Shelf", "hasThing", "()Z"⟩ ∈ BW := bw_at 498 (by decide +kernel) rfl
theorem kk_439 : Cond.code ⟨"WhiteElephants$Shelf", "hasThing", "()Z"⟩ prog_9_method_4_code 1 (some .boolean) ∈ BW := bw_at 499 (by decide +kernel) rfl
theorem kk_440 : Cond.methodLink "WhiteElephants" 92 ⟨"WhiteElephants$Shelf", "isEmpty", "()Z"⟩ ∈ BW := bw_at 500 (by decide +kernel) rfl
theorem kk_441 : Cond.instanceMethod ⟨"WhiteElephants$Shelf", "isEmpty", "()Z"⟩ ∈ BW := bw_at 501 (by decide +kernel) rfl
theorem kk_442 : Cond.selects "WhiteElephants$Shelf" ⟨"WhiteElephants$Shelf", "isEmpty", "()Z"⟩ ⟨"WhiteElephants$Shelf", "isEmpty", "()Z"⟩ ∈ BW := bw_at 502 (by decide +kernel) rfl
theorem kk_443 : Cond.code ⟨"WhiteElephants$Shelf", "isEmpty", "()Z"⟩ prog_9_method_2_code 1 (some .boolean) ∈ BW := bw_at 503 (by decide +kernel) rfl
theorem kk_448 : Cond.methodLink "WhiteElephants$Shelf" 32 ⟨"WhiteElephants$Shelf", "hasRow", "()Z"⟩ ∈ BW := bw_at 508 (by decide +kernel) rfl
theorem kk_449 : Cond.instanceMethod ⟨"WhiteElephants$Shelf", "hasRow", "()Z"⟩ ∈ BW := bw_at 509 (by decide +kernel) rfl
theorem kk_450 : Cond.selects "WhiteElephants$Shelf" ⟨"WhiteElephants$Shelf", "hasRow", "()Z"⟩ ⟨"WhiteElephants$Shelf", "hasRow", "()Z"⟩ ∈ BW := bw_at 510 (by decide +kernel) rfl
theorem kk_451 : Cond.code ⟨"WhiteElephants$Shelf", "hasRow", "()Z"⟩ prog_9_method_3_code 1 (some .boolean) ∈ BW := bw_at 511 (by decide +kernel) rfl
theorem kk_460 : Cond.code ⟨"WhiteElephants", "copy", "(IIIII)I"⟩ prog_1_method_4_code 8 (some .int) ∈ BW := bw_at 520 (by decide +kernel) rfl
theorem kk_461 : Cond.methodLink "WhiteElephants" 86 ⟨"WhiteElephants$Shelf", "hasRow", "()Z"⟩ ∈ BW := bw_at 521 (by decide +kernel) rfl
theorem kk_472 : Cond.code ⟨"WhiteElephants", "element", "(II)J"⟩ prog_1_method_5_code 3 (some .long) ∈ BW := bw_at 532 (by decide +kernel) rfl
theorem kk_473 : Cond.methodLink "WhiteElephants" 109 ⟨"WhiteElephants$Shelf", "at", "(I)J"⟩ ∈ BW := bw_at 533 (by decide +kernel) rfl
theorem kk_474 : Cond.instanceMethod ⟨"WhiteElephants$Shelf", "at", "(I)J"⟩ ∈ BW := bw_at 534 (by decide +kernel) rfl
theorem kk_475 : Cond.selects "WhiteElephants$Shelf" ⟨"WhiteElephants$Shelf", "at", "(I)J"⟩ ⟨"WhiteElephants$Shelf", "at", "(I)J"⟩ ∈ BW := bw_at 535 (by decide +kernel) rfl
theorem kk_476 : Cond.code ⟨"WhiteElephants$Shelf", "at", "(I)J"⟩ prog_9_method_7_code 2 (some .long) ∈ BW := bw_at 536 (by decide +kernel) rfl
theorem kk_480 : Cond.code ⟨"WhiteElephants", "holds", "(I)I"⟩ prog_1_method_6_code 2 (some .int) ∈ BW := bw_at 540 (by decide +kernel) rfl
theorem kk_484 : Cond.code ⟨"WhiteElephants", "show", "(II)I"⟩ prog_1_method_7_code 3 (some .int) ∈ BW := bw_at 544 (by decide +kernel) rfl
theorem kk_485 : Cond.methodLink "WhiteElephants" 117 ⟨"WhiteElephants$Things", "has", "(I)Z"⟩ ∈ BW := bw_at 545 (by decide +kernel) rfl
theorem kk_486 : Cond.instanceMethod ⟨"WhiteElephants$Things", "has", "(I)Z"⟩ ∈ BW := bw_at 546 (by decide +kernel) rfl
theorem kk_487 : Cond.selects "WhiteElephants$Things" ⟨"WhiteElephants$Things", "has", "(I)Z"⟩ ⟨"WhiteElephants$Things", "has", "(I)Z"⟩ ∈ BW := bw_at 547 (by decide +kernel) rfl
theorem kk_488 : Cond.code ⟨"WhiteElephants$Things", "has", "(I)Z"⟩ prog_12_method_2_code 2 (some .boolean) ∈ BW := bw_at 548 (by decide +kernel) rfl
theorem kk_493 : Cond.code ⟨"WhiteElephants", "says", "(II)I"⟩ prog_1_method_8_code 5 (some .int) ∈ BW := bw_at 553 (by decide +kernel) rfl
theorem kk_494 : Cond.methodLink "WhiteElephants" 122 ⟨"WhiteElephants", "isKind", "(I)Z"⟩ ∈ BW := bw_at 554 (by decide +kernel) rfl
theorem kk_495 : Cond.static ⟨"WhiteElephants", "isKind", "(I)Z"⟩ ∈ BW := bw_at 555 (by decide +kernel) rfl
theorem kk_496 : Cond.code ⟨"WhiteElephants", "isKind", "(I)Z"⟩ prog_1_method_52_code 1 (some .boolean) ∈ BW := bw_at 556 (by decide +kernel) rfl
theorem kk_508 : Cond.static ⟨"java/lang/Integer", "bitCount", "(I)I"⟩ ∈ BW := bw_at 568 (by decide +kernel) rfl
theorem kk_509 : Cond.code ⟨"java/lang/Integer", "bitCount", "(I)I"⟩ prog_15_method_49_code 1 (some .int) ∈ BW := bw_at 569 (by decide +kernel) rfl
theorem kk_510 : Cond.constant "java/lang/Integer" 265 (1431655765 : Int32) ∈ BW := bw_at 570 (by decide +kernel) rfl
theorem kk_511 : Cond.constant "java/lang/Integer" 266 (858993459 : Int32) ∈ BW := bw_at 571 (by decide +kernel) rfl
theorem kk_512 : Cond.constant "java/lang/Integer" 267 (252645135 : Int32) ∈ BW := bw_at 572 (by decide +kernel) rfl
theorem kk_541 : Cond.code ⟨"WhiteElephants", "thing", "(III)I"⟩ prog_1_method_9_code 4 (some .int) ∈ BW := bw_at 601 (by decide +kernel) rfl
theorem kk_542 : Cond.methodLink "WhiteElephants" 135 ⟨"WhiteElephants$Things", "add", "(III)I"⟩ ∈ BW := bw_at 602 (by decide +kernel) rfl
theorem kk_543 : Cond.instanceMethod ⟨"WhiteElephants$Things", "add", "(III)I"⟩ ∈ BW := bw_at 603 (by decide +kernel) rfl
theorem kk_544 : Cond.selects "WhiteElephants$Things" ⟨"WhiteElephants$Things", "add", "(III)I"⟩ ⟨"WhiteElephants$Things", "add", "(III)I"⟩ ∈ BW := bw_at 604 (by decide +kernel) rfl
theorem kk_545 : Cond.code ⟨"WhiteElephants$Things", "add", "(III)I"⟩ prog_12_method_3_code 4 (some .int) ∈ BW := bw_at 605 (by decide +kernel) rfl
theorem kk_549 : Cond.code ⟨"WhiteElephants", "things", "(III)I"⟩ prog_1_method_10_code 9 (some .int) ∈ BW := bw_at 609 (by decide +kernel) rfl
theorem kk_554 : Cond.code ⟨"WhiteElephants", "thingOf", "(II)I"⟩ prog_1_method_11_code 3 (some .int) ∈ BW := bw_at 614 (by decide +kernel) rfl
theorem kk_559 : Cond.code ⟨"WhiteElephants", "chip", "(II)I"⟩ prog_1_method_12_code 3 (some .int) ∈ BW := bw_at 619 (by decide +kernel) rfl
theorem kk_564 : Cond.code ⟨"WhiteElephants", "lady", "(II)I"⟩ prog_1_method_13_code 3 (some .int) ∈ BW := bw_at 624 (by decide +kernel) rfl
theorem kk_565 : Cond.methodLink "WhiteElephants" 165 ⟨"WhiteElephants", "isKinds", "(I)Z"⟩ ∈ BW := bw_at 625 (by decide +kernel) rfl
theorem kk_566 : Cond.static ⟨"WhiteElephants", "isKinds", "(I)Z"⟩ ∈ BW := bw_at 626 (by decide +kernel) rfl
theorem kk_567 : Cond.code ⟨"WhiteElephants", "isKinds", "(I)Z"⟩ prog_1_method_53_code 1 (some .boolean) ∈ BW := bw_at 627 (by decide +kernel) rfl
theorem kk_568 : Cond.methodLink "WhiteElephants" 175 ⟨"WhiteElephants$Ladies", "add", "(II)I"⟩ ∈ BW := bw_at 628 (by decide +kernel) rfl
theorem kk_569 : Cond.instanceMethod ⟨"WhiteElephants$Ladies", "add", "(II)I"⟩ ∈ BW := bw_at 629 (by decide +kernel) rfl
theorem kk_570 : Cond.selects "WhiteElephants$Ladies" ⟨"WhiteElephants$Ladies", "add", "(II)I"⟩ ⟨"WhiteElephants$Ladies", "add", "(II)I"⟩ ∈ BW := bw_at 630 (by decide +kernel) rfl
theorem kk_571 : Cond.code ⟨"WhiteElephants$Ladies", "add", "(II)I"⟩ prog_4_method_3_code 3 (some .int) ∈ BW := bw_at 631 (by decide +kernel) rfl
theorem kk_575 : Cond.code ⟨"WhiteElephants", "goes", "(II)I"⟩ prog_1_method_14_code 4 (some .int) ∈ BW := bw_at 635 (by decide +kernel) rfl
theorem kk_576 : Cond.methodLink "WhiteElephants" 177 ⟨"WhiteElephants$Ladies", "has", "(I)Z"⟩ ∈ BW := bw_at 636 (by decide +kernel) rfl
theorem kk_577 : Cond.instanceMethod ⟨"WhiteElephants$Ladies", "has", "(I)Z"⟩ ∈ BW := bw_at 637 (by decide +kernel) rfl
theorem kk_578 : Cond.selects "WhiteElephants$Ladies" ⟨"WhiteElephants$Ladies", "has", "(I)Z"⟩ ⟨"WhiteElephants$Ladies", "has", "(I)Z"⟩ ∈ BW := bw_at 638 (by decide +kernel) rfl
theorem kk_579 : Cond.code ⟨"WhiteElephants$Ladies", "has", "(I)Z"⟩ prog_4_method_2_code 2 (some .boolean) ∈ BW := bw_at 639 (by decide +kernel) rfl
theorem kk_581 : Cond.methodLink "WhiteElephants" 182 ⟨"WhiteElephants$Laws", "has", "(I)Z"⟩ ∈ BW := bw_at 641 (by decide +kernel) rfl
theorem kk_582 : Cond.instanceMethod ⟨"WhiteElephants$Laws", "has", "(I)Z"⟩ ∈ BW := bw_at 642 (by decide +kernel) rfl
theorem kk_583 : Cond.selects "WhiteElephants$Laws" ⟨"WhiteElephants$Laws", "has", "(I)Z"⟩ ⟨"WhiteElephants$Laws", "has", "(I)Z"⟩ ∈ BW := bw_at 643 (by decide +kernel) rfl
theorem kk_584 : Cond.code ⟨"WhiteElephants$Laws", "has", "(I)Z"⟩ prog_5_method_3_code 2 (some .boolean) ∈ BW := bw_at 644 (by decide +kernel) rfl
theorem kk_597 : Cond.code ⟨"WhiteElephants", "wipe", "()I"⟩ prog_1_method_16_code 2 (some .int) ∈ BW := bw_at 657 (by decide +kernel) rfl
theorem kk_702 : Cond.code ⟨"WhiteElephants", "lawOf", "(II)I"⟩ prog_1_method_18_code 3 (some .int) ∈ BW := bw_at 762 (by decide +kernel) rfl
theorem kk_711 : Cond.code ⟨"WhiteElephants", "thinks", "(IIZ)I"⟩ prog_1_method_19_code 4 (some .int) ∈ BW := bw_at 771 (by decide +kernel) rfl
theorem kk_732 : Cond.code ⟨"WhiteElephants", "price", "(II)I"⟩ prog_1_method_20_code 3 (some .int) ∈ BW := bw_at 792 (by decide +kernel) rfl
theorem kk_745 : Cond.code ⟨"WhiteElephants", "mark", "(II)I"⟩ prog_1_method_21_code 4 (some .int) ∈ BW := bw_at 805 (by decide +kernel) rfl
theorem kk_753 : Cond.code ⟨"WhiteElephants", "buyer", "(IIII)I"⟩ prog_1_method_22_code 5 (some .int) ∈ BW := bw_at 813 (by decide +kernel) rfl
theorem kk_754 : Cond.methodLink "WhiteElephants" 216 ⟨"WhiteElephants", "isHour", "(I)Z"⟩ ∈ BW := bw_at 814 (by decide +kernel) rfl
theorem kk_755 : Cond.static ⟨"WhiteElephants", "isHour", "(I)Z"⟩ ∈ BW := bw_at 815 (by decide +kernel) rfl
theorem kk_756 : Cond.code ⟨"WhiteElephants", "isHour", "(I)Z"⟩ prog_1_method_54_code 1 (some .boolean) ∈ BW := bw_at 816 (by decide +kernel) rfl
theorem kk_757 : Cond.methodLink "WhiteElephants" 226 ⟨"WhiteElephants$Buyers", "add", "(IIII)I"⟩ ∈ BW := bw_at 817 (by decide +kernel) rfl
theorem kk_758 : Cond.instanceMethod ⟨"WhiteElephants$Buyers", "add", "(IIII)I"⟩ ∈ BW := bw_at 818 (by decide +kernel) rfl
theorem kk_759 : Cond.selects "WhiteElephants$Buyers" ⟨"WhiteElephants$Buyers", "add", "(IIII)I"⟩ ⟨"WhiteElephants$Buyers", "add", "(IIII)I"⟩ ∈ BW := bw_at 819 (by decide +kernel) rfl
theorem kk_760 : Cond.code ⟨"WhiteElephants$Buyers", "add", "(IIII)I"⟩ prog_2_method_3_code 5 (some .int) ∈ BW := bw_at 820 (by decide +kernel) rfl
theorem kk_764 : Cond.code ⟨"WhiteElephants", "buyerOf", "(II)I"⟩ prog_1_method_23_code 3 (some .int) ∈ BW := bw_at 824 (by decide +kernel) rfl
theorem kk_765 : Cond.methodLink "WhiteElephants" 229 ⟨"WhiteElephants$Buyers", "has", "(I)Z"⟩ ∈ BW := bw_at 825 (by decide +kernel) rfl
theorem kk_766 : Cond.instanceMethod ⟨"WhiteElephants$Buyers", "has", "(I)Z"⟩ ∈ BW := bw_at 826 (by decide +kernel) rfl
theorem kk_767 : Cond.selects "WhiteElephants$Buyers" ⟨"WhiteElephants$Buyers", "has", "(I)Z"⟩ ⟨"WhiteElephants$Buyers", "has", "(I)Z"⟩ ∈ BW := bw_at 827 (by decide +kernel) rfl
theorem kk_768 : Cond.code ⟨"WhiteElephants$Buyers", "has", "(I)Z"⟩ prog_2_method_2_code 2 (some .boolean) ∈ BW := bw_at 828 (by decide +kernel) rfl
theorem kk_773 : Cond.code ⟨"WhiteElephants", "turn", "(II)I"⟩ prog_1_method_24_code 4 (some .int) ∈ BW := bw_at 833 (by decide +kernel) rfl
theorem kk_777 : Cond.code ⟨"WhiteElephants", "costs", "(II)I"⟩ prog_1_method_25_code 3 (some .int) ∈ BW := bw_at 837 (by decide +kernel) rfl
theorem kk_779 : Cond.static ⟨"WhiteElephants$Sale", "stage", "(III)I"⟩ ∈ BW := bw_at 839 (by decide +kernel) rfl
theorem kk_780 : Cond.code ⟨"WhiteElephants$Sale", "stage", "(III)I"⟩ prog_7_method_2_code 3 (some .int) ∈ BW := bw_at 840 (by decide +kernel) rfl
theorem kk_787 : Cond.code ⟨"WhiteElephants", "takes", "(II)I"⟩ prog_1_method_26_code 3 (some .int) ∈ BW := bw_at 847 (by decide +kernel) rfl
theorem kk_789 : Cond.instanceMethod ⟨"WhiteElephants$Sale", "open", "(LWhiteElephants$Hall;II)V"⟩ ∈ BW := bw_at 849 (by decide +kernel) rfl
theorem kk_790 : Cond.selects "WhiteElephants$Sale" ⟨"WhiteElephants$Sale", "open", "(LWhiteElephants$Hall;II)V"⟩ ⟨"WhiteElephants$Sale", "open", "(LWhiteElephants$Hall;II)V"⟩ ∈ BW := bw_at 850 (by decide +kernel) rfl
theorem kk_791 : Cond.code ⟨"WhiteElephants$Sale", "open", "(LWhiteElephants$Hall;II)V"⟩ prog_7_method_4_code 6 (none : Option Jvm.ClassFile.FieldType) ∈ BW := bw_at 851 (by decide +kernel) rfl
theorem kk_802 : Cond.methodLink "WhiteElephants$Sale" 70 ⟨"WhiteElephants$Sale", "stage", "(III)I"⟩ ∈ BW := bw_at 862 (by decide +kernel) rfl
theorem kk_812 : Cond.code ⟨"WhiteElephants", "takings", "(II)I"⟩ prog_1_method_27_code 3 (some .int) ∈ BW := bw_at 872 (by decide +kernel) rfl
theorem kk_813 : Cond.methodLink "WhiteElephants" 265 ⟨"WhiteElephants$Sale", "wholeDay", "(LWhiteElephants$Hall;II)I"⟩ ∈ BW := bw_at 873 (by decide +kernel) rfl
theorem kk_814 : Cond.instanceMethod ⟨"WhiteElephants$Sale", "wholeDay", "(LWhiteElephants$Hall;II)I"⟩ ∈ BW := bw_at 874 (by decide +kernel) rfl
theorem kk_815 : Cond.selects "WhiteElephants$Sale" ⟨"WhiteElephants$Sale", "wholeDay", "(LWhiteElephants$Hall;II)I"⟩ ⟨"WhiteElephants$Sale", "wholeDay", "(LWhiteElephants$Hall;II)I"⟩ ∈ BW := bw_at 875 (by decide +kernel) rfl
theorem kk_816 : Cond.code ⟨"WhiteElephants$Sale", "wholeDay", "(LWhiteElephants$Hall;II)I"⟩ prog_7_method_9_code 6 (some .int) ∈ BW := bw_at 876 (by decide +kernel) rfl
theorem kk_817 : Cond.methodLink "WhiteElephants$Sale" 104 ⟨"WhiteElephants$Sale", "open", "(LWhiteElephants$Hall;II)V"⟩ ∈ BW := bw_at 877 (by decide +kernel) rfl
theorem kk_818 : Cond.methodLink "WhiteElephants$Sale" 108 ⟨"WhiteElephants$Sale", "playHour", "(LWhiteElephants$Hall;I)I"⟩ ∈ BW := bw_at 878 (by decide +kernel) rfl
theorem kk_819 : Cond.instanceMethod ⟨"WhiteElephants$Sale", "playHour", "(LWhiteElephants$Hall;I)I"⟩ ∈ BW := bw_at 879 (by decide +kernel) rfl
theorem kk_820 : Cond.selects "WhiteElephants$Sale" ⟨"WhiteElephants$Sale", "playHour", "(LWhiteElephants$Hall;I)I"⟩ ⟨"WhiteElephants$Sale", "playHour", "(LWhiteElephants$Hall;I)I"⟩ ∈ BW := bw_at 880 (by decide +kernel) rfl
theorem kk_821 : Cond.code ⟨"WhiteElephants$Sale", "playHour", "(LWhiteElephants$Hall;I)I"⟩ prog_7_method_6_code 7 (some .int) ∈ BW := bw_at 881 (by decide +kernel) rfl
theorem kk_839 : Cond.code ⟨"WhiteElephants", "judge", "(I)I"⟩ prog_1_method_29_code 4 (some .int) ∈ BW := bw_at 899 (by decide +kernel) rfl
theorem kk_844 : Cond.code ⟨"WhiteElephants", "rest", "(I)I"⟩ prog_1_method_30_code 2 (some .int) ∈ BW := bw_at 904 (by decide +kernel) rfl
theorem kk_845 : Cond.methodLink "WhiteElephants" 276 ⟨"WhiteElephants$Things", "worthLeft", "(I)I"⟩ ∈ BW := bw_at 905 (by decide +kernel) rfl
theorem kk_846 : Cond.instanceMethod ⟨"WhiteElephants$Things", "worthLeft", "(I)I"⟩ ∈ BW := bw_at 906 (by decide +kernel) rfl
theorem kk_847 : Cond.selects "WhiteElephants$Things" ⟨"WhiteElephants$Things", "worthLeft", "(I)I"⟩ ⟨"WhiteElephants$Things", "worthLeft", "(I)I"⟩ ∈ BW := bw_at 907 (by decide +kernel) rfl
theorem kk_848 : Cond.code ⟨"WhiteElephants$Things", "worthLeft", "(I)I"⟩ prog_12_method_14_code 4 (some .int) ∈ BW := bw_at 908 (by decide +kernel) rfl
theorem kk_853 : Cond.code ⟨"WhiteElephants", "loses", "(II)I"⟩ prog_1_method_31_code 3 (some .int) ∈ BW := bw_at 913 (by decide +kernel) rfl
theorem kk_867 : Cond.code ⟨"WhiteElephants$Sale", "settle", "(LWhiteElephants$Hall;)V"⟩ prog_7_method_11_code 6 (none : Option Jvm.ClassFile.FieldType) ∈ BW := bw_at 927 (by decide +kernel) rfl
theorem kk_872 : Cond.code ⟨"WhiteElephants", "day", "(I)I"⟩ prog_1_method_33_code 2 (some .int) ∈ BW := bw_at 932 (by decide +kernel) rfl
theorem kk_873 : Cond.methodLink "WhiteElephants" 296 ⟨"WhiteElephants$Things", "countLeft", "()I"⟩ ∈ BW := bw_at 933 (by decide +kernel) rfl
theorem kk_874 : Cond.instanceMethod ⟨"WhiteElephants$Things", "countLeft", "()I"⟩ ∈ BW := bw_at 934 (by decide +kernel) rfl
theorem kk_875 : Cond.selects "WhiteElephants$Things" ⟨"WhiteElephants$Things", "countLeft", "()I"⟩ ⟨"WhiteElephants$Things", "countLeft", "()I"⟩ ∈ BW := bw_at 935 (by decide +kernel) rfl
theorem kk_876 : Cond.code ⟨"WhiteElephants$Things", "countLeft", "()I"⟩ prog_12_method_13_code 3 (some .int) ∈ BW := bw_at 936 (by decide +kernel) rfl
theorem kk_880 : Cond.code ⟨"WhiteElephants", "morning", "()I"⟩ prog_1_method_34_code 2 (some .int) ∈ BW := bw_at 940 (by decide +kernel) rfl
theorem kk_884 : Cond.code ⟨"WhiteElephants", "shown", "(I)I"⟩ prog_1_method_35_code 2 (some .int) ∈ BW := bw_at 944 (by decide +kernel) rfl
theorem kk_885 : Cond.methodLink "WhiteElephants" 299 ⟨"WhiteElephants$Picks", "bargains", "(LWhiteElephants$Things;I)I"⟩ ∈ BW := bw_at 945 (by decide +kernel) rfl
theorem kk_886 : Cond.instanceMethod ⟨"WhiteElephants$Picks", "bargains", "(LWhiteElephants$Things;I)I"⟩ ∈ BW := bw_at 946 (by decide +kernel) rfl
theorem kk_887 : Cond.selects "WhiteElephants$Picks" ⟨"WhiteElephants$Picks", "bargains", "(LWhiteElephants$Things;I)I"⟩ ⟨"WhiteElephants$Picks", "bargains", "(LWhiteElephants$Things;I)I"⟩ ∈ BW := bw_at 947 (by decide +kernel) rfl
theorem kk_888 : Cond.code ⟨"WhiteElephants$Picks", "bargains", "(LWhiteElephants$Things;I)I"⟩ prog_6_method_2_code 4 (some .int) ∈ BW := bw_at 948 (by decide +kernel) rfl
theorem kk_898 : Cond.code ⟨"WhiteElephants", "table", "(I)I"⟩ prog_1_method_36_code 2 (some .int) ∈ BW := bw_at 958 (by decide +kernel) rfl
theorem kk_902 : Cond.code ⟨"WhiteElephants", "who", "(I)I"⟩ prog_1_method_37_code 2 (some .int) ∈ BW := bw_at 962 (by decide +kernel) rfl
theorem kk_903 : Cond.methodLink "WhiteElephants" 309 ⟨"WhiteElephants$Hall", "planTables", "()V"⟩ ∈ BW := bw_at 963 (by decide +kernel) rfl
theorem kk_904 : Cond.instanceMethod ⟨"WhiteElephants$Hall", "planTables", "()V"⟩ ∈ BW := bw_at 964 (by decide +kernel) rfl
theorem kk_905 : Cond.selects "WhiteElephants$Hall" ⟨"WhiteElephants$Hall", "planTables", "()V"⟩ ⟨"WhiteElephants$Hall", "planTables", "()V"⟩ ∈ BW := bw_at 965 (by decide +kernel) rfl
theorem kk_906 : Cond.code ⟨"WhiteElephants$Hall", "planTables", "()V"⟩ prog_3_method_7_code 4 (none : Option Jvm.ClassFile.FieldType) ∈ BW := bw_at 966 (by decide +kernel) rfl
theorem kk_908 : Cond.methodLink "WhiteElephants$Hall" 134 ⟨"java/lang/Integer", "bitCount", "(I)I"⟩ ∈ BW := bw_at 968 (by decide +kernel) rfl
theorem kk_909 : Cond.methodLink "WhiteElephants$Hall" 139 ⟨"WhiteElephants$Hall", "bestLady", "(II)I"⟩ ∈ BW := bw_at 969 (by decide +kernel) rfl
theorem kk_911 : Cond.instanceMethod ⟨"WhiteElephants$Hall", "bestLady", "(II)I"⟩ ∈ BW := bw_at 971 (by decide +kernel) rfl
theorem kk_912 : Cond.code ⟨"WhiteElephants$Hall", "bestLady", "(II)I"⟩ prog_3_method_8_code 7 (some .int) ∈ BW := bw_at 972 (by decide +kernel) rfl
theorem kk_924 : Cond.code ⟨"WhiteElephants", "sight", "(IIII)I"⟩ prog_1_method_38_code 5 (some .int) ∈ BW := bw_at 984 (by decide +kernel) rfl
theorem kk_925 : Cond.methodLink "WhiteElephants" 318 ⟨"WhiteElephants", "isPersonOrNone", "(I)Z"⟩ ∈ BW := bw_at 985 (by decide +kernel) rfl
theorem kk_926 : Cond.static ⟨"WhiteElephants", "isPersonOrNone", "(I)Z"⟩ ∈ BW := bw_at 986 (by decide +kernel) rfl
theorem kk_927 : Cond.code ⟨"WhiteElephants", "isPersonOrNone", "(I)Z"⟩ prog_1_method_56_code 1 (some .boolean) ∈ BW := bw_at 987 (by decide +kernel) rfl
theorem kk_928 : Cond.methodLink "WhiteElephants" 339 ⟨"WhiteElephants", "isPerson", "(I)Z"⟩ ∈ BW := bw_at 988 (by decide +kernel) rfl
theorem kk_929 : Cond.static ⟨"WhiteElephants", "isPerson", "(I)Z"⟩ ∈ BW := bw_at 989 (by decide +kernel) rfl
theorem kk_930 : Cond.code ⟨"WhiteElephants", "isPerson", "(I)Z"⟩ prog_1_method_55_code 1 (some .boolean) ∈ BW := bw_at 990 (by decide +kernel) rfl
theorem kk_931 : Cond.methodLink "WhiteElephants" 328 ⟨"WhiteElephants$Sightings", "add", "(IIII)I"⟩ ∈ BW := bw_at 991 (by decide +kernel) rfl
theorem kk_932 : Cond.instanceMethod ⟨"WhiteElephants$Sightings", "add", "(IIII)I"⟩ ∈ BW := bw_at 992 (by decide +kernel) rfl
theorem kk_933 : Cond.selects "WhiteElephants$Sightings" ⟨"WhiteElephants$Sightings", "add", "(IIII)I"⟩ ⟨"WhiteElephants$Sightings", "add", "(IIII)I"⟩ ∈ BW := bw_at 993 (by decide +kernel) rfl
theorem kk_934 : Cond.code ⟨"WhiteElephants$Sightings", "add", "(IIII)I"⟩ prog_10_method_3_code 5 (some .int) ∈ BW := bw_at 994 (by decide +kernel) rfl
theorem kk_938 : Cond.code ⟨"WhiteElephants", "same", "(II)I"⟩ prog_1_method_39_code 3 (some .int) ∈ BW := bw_at 998 (by decide +kernel) rfl
theorem kk_939 : Cond.methodLink "WhiteElephants" 329 ⟨"WhiteElephants$Sightings", "has", "(I)Z"⟩ ∈ BW := bw_at 999 (by decide +kernel) rfl
theorem kk_940 : Cond.instanceMethod ⟨"WhiteElephants$Sightings", "has", "(I)Z"⟩ ∈ BW := bw_at 1000 (by decide +kernel) rfl
theorem kk_941 : Cond.selects "WhiteElephants$Sightings" ⟨"WhiteElephants$Sightings", "has", "(I)Z"⟩ ⟨"WhiteElephants$Sightings", "has", "(I)Z"⟩ ∈ BW := bw_at 1001 (by decide +kernel) rfl
theorem kk_942 : Cond.code ⟨"WhiteElephants$Sightings", "has", "(I)Z"⟩ prog_10_method_2_code 2 (some .boolean) ∈ BW := bw_at 1002 (by decide +kernel) rfl
theorem kk_951 : Cond.code ⟨"WhiteElephants", "vases", "()I"⟩ prog_1_method_40_code 1 (some .int) ∈ BW := bw_at 1011 (by decide +kernel) rfl
theorem kk_952 : Cond.methodLink "WhiteElephants" 333 ⟨"WhiteElephants$Sightings", "fewestVases", "()I"⟩ ∈ BW := bw_at 1012 (by decide +kernel) rfl
theorem kk_953 : Cond.instanceMethod ⟨"WhiteElephants$Sightings", "fewestVases", "()I"⟩ ∈ BW := bw_at 1013 (by decide +kernel) rfl
theorem kk_954 : Cond.selects "WhiteElephants$Sightings" ⟨"WhiteElephants$Sightings", "fewestVases", "()I"⟩ ⟨"WhiteElephants$Sightings", "fewestVases", "()I"⟩ ∈ BW := bw_at 1014 (by decide +kernel) rfl
theorem kk_955 : Cond.code ⟨"WhiteElephants$Sightings", "fewestVases", "()I"⟩ prog_10_method_5_code 3 (some .int) ∈ BW := bw_at 1015 (by decide +kernel) rfl
theorem kk_956 : Cond.methodLink "WhiteElephants$Sightings" 41 ⟨"java/util/Arrays", "fill", "([II)V"⟩ ∈ BW := bw_at 1016 (by decide +kernel) rfl
theorem kk_957 : Cond.static ⟨"java/util/Arrays", "fill", "([II)V"⟩ ∈ BW := bw_at 1017 (by decide +kernel) rfl
theorem kk_958 : Cond.code ⟨"java/util/Arrays", "fill", "([II)V"⟩ prog_21_method_103_code 4 (none : Option Jvm.ClassFile.FieldType) ∈ BW := bw_at 1018 (by decide +kernel) rfl
theorem kk_966 : Cond.code ⟨"WhiteElephants", "longest", "()I"⟩ prog_1_method_41_code 1 (some .int) ∈ BW := bw_at 1026 (by decide +kernel) rfl
theorem kk_967 : Cond.methodLink "WhiteElephants" 336 ⟨"WhiteElephants$Sightings", "longestRow", "()I"⟩ ∈ BW := bw_at 1027 (by decide +kernel) rfl
theorem kk_968 : Cond.instanceMethod ⟨"WhiteElephants$Sightings", "longestRow", "()I"⟩ ∈ BW := bw_at 1028 (by decide +kernel) rfl
theorem kk_969 : Cond.selects "WhiteElephants$Sightings" ⟨"WhiteElephants$Sightings", "longestRow", "()I"⟩ ⟨"WhiteElephants$Sightings", "longestRow", "()I"⟩ ∈ BW := bw_at 1029 (by decide +kernel) rfl
theorem kk_970 : Cond.code ⟨"WhiteElephants$Sightings", "longestRow", "()I"⟩ prog_10_method_7_code 4 (some .int) ∈ BW := bw_at 1030 (by decide +kernel) rfl
theorem kk_979 : Cond.code ⟨"WhiteElephants", "secret", "(II)I"⟩ prog_1_method_42_code 3 (some .int) ∈ BW := bw_at 1039 (by decide +kernel) rfl
theorem kk_987 : Cond.code ⟨"WhiteElephants", "looks", "(II)I"⟩ prog_1_method_43_code 4 (some .int) ∈ BW := bw_at 1047 (by decide +kernel) rfl
theorem kk_991 : Cond.code ⟨"WhiteElephants", "laid", "(II)I"⟩ prog_1_method_44_code 3 (some .int) ∈ BW := bw_at 1051 (by decide +kernel) rfl
theorem kk_1017 : Cond.code ⟨"WhiteElephants", "shortBy", "(I)I"⟩ prog_1_method_45_code 2 (some .int) ∈ BW := bw_at 1077 (by decide +kernel) rfl
theorem kk_1018 : Cond.methodLink "WhiteElephants" 359 ⟨"WhiteElephants$Picks", "fewestPaid", "(LWhiteElephants$Things;I)I"⟩ ∈ BW := bw_at 1078 (by decide +kernel) rfl
theorem kk_1019 : Cond.instanceMethod ⟨"WhiteElephants$Picks", "fewestPaid", "(LWhiteElephants$Things;I)I"⟩ ∈ BW := bw_at 1079 (by decide +kernel) rfl
theorem kk_1020 : Cond.selects "WhiteElephants$Picks" ⟨"WhiteElephants$Picks", "fewestPaid", "(LWhiteElephants$Things;I)I"⟩ ⟨"WhiteElephants$Picks", "fewestPaid", "(LWhiteElephants$Things;I)I"⟩ ∈ BW := bw_at 1080 (by decide +kernel) rfl
theorem kk_1021 : Cond.code ⟨"WhiteElephants$Picks", "fewestPaid", "(LWhiteElephants$Things;I)I"⟩ prog_6_method_4_code 5 (some .int) ∈ BW := bw_at 1081 (by decide +kernel) rfl
theorem kk_1032 : Cond.code ⟨"WhiteElephants", "hall", "(II)I"⟩ prog_1_method_46_code 3 (some .int) ∈ BW := bw_at 1092 (by decide +kernel) rfl
theorem kk_1086 : Cond.code ⟨"WhiteElephants", "back", "()I"⟩ prog_1_method_48_code 2 (some .int) ∈ BW := bw_at 1146 (by decide +kernel) rfl
theorem kk_1090 : Cond.code ⟨"WhiteElephants", "status", "(I)I"⟩ prog_1_method_49_code 2 (some .int) ∈ BW := bw_at 1150 (by decide +kernel) rfl
theorem kk_1091 : Cond.methodLink "WhiteElephants" 372 ⟨"WhiteElephants", "shelvesInUse", "()I"⟩ ∈ BW := bw_at 1151 (by decide +kernel) rfl
theorem kk_1093 : Cond.instanceMethod ⟨"WhiteElephants", "shelvesInUse", "()I"⟩ ∈ BW := bw_at 1153 (by decide +kernel) rfl
theorem kk_1094 : Cond.code ⟨"WhiteElephants", "shelvesInUse", "()I"⟩ prog_1_method_60_code 3 (some .int) ∈ BW := bw_at 1154 (by decide +kernel) rfl
theorem dd_J6_bitCount_0f7a4_0 : decode mb_J6_bitCount_0f7a4 0 = .ok (.iload_n 0, 1) := by decide +kernel
theorem dd_J6_bitCount_0f7a4_1 : decode mb_J6_bitCount_0f7a4 1 = .ok (.iload_n 0, 1) := by decide +kernel
theorem dd_J6_bitCount_0f7a4_2 : decode mb_J6_bitCount_0f7a4 2 = .ok (.iconst 1, 1) := by decide +kernel
theorem dd_J6_bitCount_0f7a4_3 : decode mb_J6_bitCount_0f7a4 3 = .ok (.iushr, 1) := by decide +kernel
theorem dd_J6_bitCount_0f7a4_4 : decode mb_J6_bitCount_0f7a4 4 = .ok (.ldc_w 265, 3) := by decide +kernel
theorem dd_J6_bitCount_0f7a4_7 : decode mb_J6_bitCount_0f7a4 7 = .ok (.iand, 1) := by decide +kernel
theorem dd_J6_bitCount_0f7a4_8 : decode mb_J6_bitCount_0f7a4 8 = .ok (.isub, 1) := by decide +kernel
theorem dd_J6_bitCount_0f7a4_9 : decode mb_J6_bitCount_0f7a4 9 = .ok (.istore_n 0, 1) := by decide +kernel
theorem dd_J6_bitCount_0f7a4_10 : decode mb_J6_bitCount_0f7a4 10 = .ok (.iload_n 0, 1) := by decide +kernel
theorem dd_J6_bitCount_0f7a4_11 : decode mb_J6_bitCount_0f7a4 11 = .ok (.ldc_w 266, 3) := by decide +kernel
theorem dd_J6_bitCount_0f7a4_14 : decode mb_J6_bitCount_0f7a4 14 = .ok (.iand, 1) := by decide +kernel
theorem dd_J6_bitCount_0f7a4_15 : decode mb_J6_bitCount_0f7a4 15 = .ok (.iload_n 0, 1) := by decide +kernel
theorem dd_J6_bitCount_0f7a4_16 : decode mb_J6_bitCount_0f7a4 16 = .ok (.iconst 2, 1) := by decide +kernel
theorem dd_J6_bitCount_0f7a4_17 : decode mb_J6_bitCount_0f7a4 17 = .ok (.iushr, 1) := by decide +kernel
theorem dd_J6_bitCount_0f7a4_18 : decode mb_J6_bitCount_0f7a4 18 = .ok (.ldc_w 266, 3) := by decide +kernel
theorem dd_J6_bitCount_0f7a4_21 : decode mb_J6_bitCount_0f7a4 21 = .ok (.iand, 1) := by decide +kernel
theorem dd_J6_bitCount_0f7a4_22 : decode mb_J6_bitCount_0f7a4 22 = .ok (.iadd, 1) := by decide +kernel
theorem dd_J6_bitCount_0f7a4_23 : decode mb_J6_bitCount_0f7a4 23 = .ok (.istore_n 0, 1) := by decide +kernel
theorem dd_J6_bitCount_0f7a4_24 : decode mb_J6_bitCount_0f7a4 24 = .ok (.iload_n 0, 1) := by decide +kernel
theorem dd_J6_bitCount_0f7a4_25 : decode mb_J6_bitCount_0f7a4 25 = .ok (.iload_n 0, 1) := by decide +kernel
theorem dd_J6_bitCount_0f7a4_26 : decode mb_J6_bitCount_0f7a4 26 = .ok (.iconst 4, 1) := by decide +kernel
theorem dd_J6_bitCount_0f7a4_27 : decode mb_J6_bitCount_0f7a4 27 = .ok (.iushr, 1) := by decide +kernel
theorem dd_J6_bitCount_0f7a4_28 : decode mb_J6_bitCount_0f7a4 28 = .ok (.iadd, 1) := by decide +kernel
theorem dd_J6_bitCount_0f7a4_29 : decode mb_J6_bitCount_0f7a4 29 = .ok (.ldc_w 267, 3) := by decide +kernel
theorem dd_J6_bitCount_0f7a4_32 : decode mb_J6_bitCount_0f7a4 32 = .ok (.iand, 1) := by decide +kernel
theorem dd_J6_bitCount_0f7a4_33 : decode mb_J6_bitCount_0f7a4 33 = .ok (.istore_n 0, 1) := by decide +kernel
theorem dd_J6_bitCount_0f7a4_34 : decode mb_J6_bitCount_0f7a4 34 = .ok (.iload_n 0, 1) := by decide +kernel
theorem dd_J6_bitCount_0f7a4_35 : decode mb_J6_bitCount_0f7a4 35 = .ok (.iload_n 0, 1) := by decide +kernel
theorem dd_J6_bitCount_0f7a4_36 : decode mb_J6_bitCount_0f7a4 36 = .ok (.bipush 8, 2) := by decide +kernel
theorem dd_J6_bitCount_0f7a4_38 : decode mb_J6_bitCount_0f7a4 38 = .ok (.iushr, 1) := by decide +kernel
theorem dd_J6_bitCount_0f7a4_39 : decode mb_J6_bitCount_0f7a4 39 = .ok (.iadd, 1) := by decide +kernel
theorem dd_J6_bitCount_0f7a4_40 : decode mb_J6_bitCount_0f7a4 40 = .ok (.istore_n 0, 1) := by decide +kernel
theorem dd_J6_bitCount_0f7a4_41 : decode mb_J6_bitCount_0f7a4 41 = .ok (.iload_n 0, 1) := by decide +kernel
theorem dd_J6_bitCount_0f7a4_42 : decode mb_J6_bitCount_0f7a4 42 = .ok (.iload_n 0, 1) := by decide +kernel
theorem dd_J6_bitCount_0f7a4_43 : decode mb_J6_bitCount_0f7a4 43 = .ok (.bipush 16, 2) := by decide +kernel
theorem dd_J6_bitCount_0f7a4_45 : decode mb_J6_bitCount_0f7a4 45 = .ok (.iushr, 1) := by decide +kernel
theorem dd_J6_bitCount_0f7a4_46 : decode mb_J6_bitCount_0f7a4 46 = .ok (.iadd, 1) := by decide +kernel
theorem dd_J6_bitCount_0f7a4_47 : decode mb_J6_bitCount_0f7a4 47 = .ok (.istore_n 0, 1) := by decide +kernel
theorem dd_J6_bitCount_0f7a4_48 : decode mb_J6_bitCount_0f7a4 48 = .ok (.iload_n 0, 1) := by decide +kernel
theorem dd_J6_bitCount_0f7a4_49 : decode mb_J6_bitCount_0f7a4 49 = .ok (.bipush 63, 2) := by decide +kernel
theorem dd_J6_bitCount_0f7a4_51 : decode mb_J6_bitCount_0f7a4 51 = .ok (.iand, 1) := by decide +kernel
theorem dd_J6_bitCount_0f7a4_52 : decode mb_J6_bitCount_0f7a4 52 = .ok (.ireturn, 1) := by decide +kernel
theorem dd_J7_fill_53178_0 : decode mb_J7_fill_53178 0 = .ok (.iconst 0, 1) := by decide +kernel
theorem dd_J7_fill_53178_1 : decode mb_J7_fill_53178 1 = .ok (.istore_n 2, 1) := by decide +kernel
theorem dd_J7_fill_53178_2 : decode mb_J7_fill_53178 2 = .ok (.aload_n 0, 1) := by decide +kernel
theorem dd_J7_fill_53178_3 : decode mb_J7_fill_53178 3 = .ok (.arraylength, 1) := by decide +kernel
theorem dd_J7_fill_53178_4 : decode mb_J7_fill_53178 4 = .ok (.istore_n 3, 1) := by decide +kernel
theorem dd_J7_fill_53178_5 : decode mb_J7_fill_53178 5 = .ok (.iload_n 2, 1) := by decide +kernel
theorem dd_J7_fill_53178_6 : decode mb_J7_fill_53178 6 = .ok (.iload_n 3, 1) := by decide +kernel
theorem dd_J7_fill_53178_7 : decode mb_J7_fill_53178 7 = .ok (.if_icmp .ge 13, 3) := by decide +kernel
theorem dd_J7_fill_53178_10 : decode mb_J7_fill_53178 10 = .ok (.aload_n 0, 1) := by decide +kernel
theorem dd_J7_fill_53178_11 : decode mb_J7_fill_53178 11 = .ok (.iload_n 2, 1) := by decide +kernel
theorem dd_J7_fill_53178_12 : decode mb_J7_fill_53178 12 = .ok (.iload_n 1, 1) := by decide +kernel
theorem dd_J7_fill_53178_13 : decode mb_J7_fill_53178 13 = .ok (.iastore, 1) := by decide +kernel
theorem dd_J7_fill_53178_14 : decode mb_J7_fill_53178 14 = .ok (.iinc 2 1, 3) := by decide +kernel
theorem dd_J7_fill_53178_17 : decode mb_J7_fill_53178 17 = .ok (.goto (-12), 3) := by decide +kernel
theorem dd_J7_fill_53178_20 : decode mb_J7_fill_53178 20 = .ok (.return_, 1) := by decide +kernel
theorem dd_J7_fill_d0a16_0 : decode mb_J7_fill_d0a16 0 = .ok (.iconst 0, 1) := by decide +kernel
theorem dd_J7_fill_d0a16_1 : decode mb_J7_fill_d0a16 1 = .ok (.istore_n 3, 1) := by decide +kernel
theorem dd_J7_fill_d0a16_2 : decode mb_J7_fill_d0a16 2 = .ok (.aload_n 0, 1) := by decide +kernel
theorem dd_J7_fill_d0a16_3 : decode mb_J7_fill_d0a16 3 = .ok (.arraylength, 1) := by decide +kernel
theorem dd_J7_fill_d0a16_4 : decode mb_J7_fill_d0a16 4 = .ok (.istore 4, 2) := by decide +kernel
theorem dd_J7_fill_d0a16_6 : decode mb_J7_fill_d0a16 6 = .ok (.iload_n 3, 1) := by decide +kernel
theorem dd_J7_fill_d0a16_7 : decode mb_J7_fill_d0a16 7 = .ok (.iload 4, 2) := by decide +kernel
theorem dd_J7_fill_d0a16_9 : decode mb_J7_fill_d0a16 9 = .ok (.if_icmp .ge 13, 3) := by decide +kernel
theorem dd_J7_fill_d0a16_12 : decode mb_J7_fill_d0a16 12 = .ok (.aload_n 0, 1) := by decide +kernel
theorem dd_J7_fill_d0a16_13 : decode mb_J7_fill_d0a16 13 = .ok (.iload_n 3, 1) := by decide +kernel
theorem dd_J7_fill_d0a16_14 : decode mb_J7_fill_d0a16 14 = .ok (.lload_n 1, 1) := by decide +kernel
theorem dd_J7_fill_d0a16_15 : decode mb_J7_fill_d0a16 15 = .ok (.lastore, 1) := by decide +kernel
theorem dd_J7_fill_d0a16_16 : decode mb_J7_fill_d0a16 16 = .ok (.iinc 3 1, 3) := by decide +kernel
theorem dd_J7_fill_d0a16_19 : decode mb_J7_fill_d0a16 19 = .ok (.goto (-13), 3) := by decide +kernel
theorem dd_J7_fill_d0a16_22 : decode mb_J7_fill_d0a16 22 = .ok (.return_, 1) := by decide +kernel
theorem dd_X0_add_0 : decode mb_X0_add 0 = .ok (.aload_n 0, 1) := by decide +kernel
theorem dd_X0_add_1 : decode mb_X0_add 1 = .ok (.getfield 9, 3) := by decide +kernel
theorem dd_X0_add_4 : decode mb_X0_add 4 = .ok (.aload_n 0, 1) := by decide +kernel
theorem dd_X0_add_5 : decode mb_X0_add 5 = .ok (.getfield 27, 3) := by decide +kernel
theorem dd_X0_add_8 : decode mb_X0_add 8 = .ok (.iload_n 1, 1) := by decide +kernel
theorem dd_X0_add_9 : decode mb_X0_add 9 = .ok (.iastore, 1) := by decide +kernel
theorem dd_X0_add_10 : decode mb_X0_add 10 = .ok (.aload_n 0, 1) := by decide +kernel
theorem dd_X0_add_11 : decode mb_X0_add 11 = .ok (.getfield 15, 3) := by decide +kernel
theorem dd_X0_add_14 : decode mb_X0_add 14 = .ok (.aload_n 0, 1) := by decide +kernel
theorem dd_X0_add_15 : decode mb_X0_add 15 = .ok (.getfield 27, 3) := by decide +kernel
theorem dd_X0_add_18 : decode mb_X0_add 18 = .ok (.iload_n 2, 1) := by decide +kernel
theorem dd_X0_add_19 : decode mb_X0_add 19 = .ok (.iastore, 1) := by decide +kernel
theorem dd_X0_add_20 : decode mb_X0_add 20 = .ok (.aload_n 0, 1) := by decide +kernel
theorem dd_X0_add_21 : decode mb_X0_add 21 = .ok (.getfield 18, 3) := by decide +kernel
theorem dd_X0_add_24 : decode mb_X0_add 24 = .ok (.aload_n 0, 1) := by decide +kernel
theorem dd_X0_add_25 : decode mb_X0_add 25 = .ok (.getfield 27, 3) := by decide +kernel
theorem dd_X0_add_28 : decode mb_X0_add 28 = .ok (.iload_n 3, 1) := by decide +kernel
theorem dd_X0_add_29 : decode mb_X0_add 29 = .ok (.iastore, 1) := by decide +kernel
theorem dd_X0_add_30 : decode mb_X0_add 30 = .ok (.aload_n 0, 1) := by decide +kernel
theorem dd_X0_add_31 : decode mb_X0_add 31 = .ok (.getfield 21, 3) := by decide +kernel
theorem dd_X0_add_34 : decode mb_X0_add 34 = .ok (.aload_n 0, 1) := by decide +kernel
theorem dd_X0_add_35 : decode mb_X0_add 35 = .ok (.getfield 27, 3) := by decide +kernel
theorem dd_X0_add_38 : decode mb_X0_add 38 = .ok (.iload 4, 2) := by decide +kernel
theorem dd_X0_add_40 : decode mb_X0_add 40 = .ok (.iastore, 1) := by decide +kernel
theorem dd_X0_add_41 : decode mb_X0_add 41 = .ok (.aload_n 0, 1) := by decide +kernel
theorem dd_X0_add_42 : decode mb_X0_add 42 = .ok (.getfield 24, 3) := by decide +kernel
theorem dd_X0_add_45 : decode mb_X0_add 45 = .ok (.aload_n 0, 1) := by decide +kernel
theorem dd_X0_add_46 : decode mb_X0_add 46 = .ok (.getfield 27, 3) := by decide +kernel
theorem dd_X0_add_49 : decode mb_X0_add 49 = .ok (.iconst 0, 1) := by decide +kernel
theorem dd_X0_add_50 : decode mb_X0_add 50 = .ok (.iastore, 1) := by decide +kernel
theorem dd_X0_add_51 : decode mb_X0_add 51 = .ok (.aload_n 0, 1) := by decide +kernel
theorem dd_X0_add_52 : decode mb_X0_add 52 = .ok (.dup, 1) := by decide +kernel
theorem dd_X0_add_53 : decode mb_X0_add 53 = .ok (.getfield 27, 3) := by decide +kernel
theorem dd_X0_add_56 : decode mb_X0_add 56 = .ok (.iconst 1, 1) := by decide +kernel
theorem dd_X0_add_57 : decode mb_X0_add 57 = .ok (.iadd, 1) := by decide +kernel
theorem dd_X0_add_58 : decode mb_X0_add 58 = .ok (.putfield 27, 3) := by decide +kernel
theorem dd_X0_add_61 : decode mb_X0_add 61 = .ok (.aload_n 0, 1) := by decide +kernel
theorem dd_X0_add_62 : decode mb_X0_add 62 = .ok (.getfield 27, 3) := by decide +kernel
theorem dd_X0_add_65 : decode mb_X0_add 65 = .ok (.iconst 1, 1) := by decide +kernel
theorem dd_X0_add_66 : decode mb_X0_add 66 = .ok (.isub, 1) := by decide +kernel
theorem dd_X0_add_67 : decode mb_X0_add 67 = .ok (.ireturn, 1) := by decide +kernel
theorem dd_X0_has_0 : decode mb_X0_has 0 = .ok (.iload_n 1, 1) := by decide +kernel
theorem dd_X0_has_1 : decode mb_X0_has 1 = .ok (.iconst 0, 1) := by decide +kernel
theorem dd_X0_has_2 : decode mb_X0_has 2 = .ok (.aload_n 0, 1) := by decide +kernel
theorem dd_X0_has_3 : decode mb_X0_has 3 = .ok (.getfield 27, 3) := by decide +kernel
theorem dd_X0_has_6 : decode mb_X0_has 6 = .ok (.iconst 1, 1) := by decide +kernel
theorem dd_X0_has_7 : decode mb_X0_has 7 = .ok (.isub, 1) := by decide +kernel
theorem dd_X0_has_8 : decode mb_X0_has 8 = .ok (.invokestatic 31, 3) := by decide +kernel
theorem dd_X0_has_11 : decode mb_X0_has 11 = .ok (.ireturn, 1) := by decide +kernel
theorem dd_X10_add_0 : decode mb_X10_add 0 = .ok (.aload_n 0, 1) := by decide +kernel
theorem dd_X10_add_1 : decode mb_X10_add 1 = .ok (.getfield 9, 3) := by decide +kernel
theorem dd_X10_add_4 : decode mb_X10_add 4 = .ok (.aload_n 0, 1) := by decide +kernel
theorem dd_X10_add_5 : decode mb_X10_add 5 = .ok (.getfield 30, 3) := by decide +kernel
theorem dd_X10_add_8 : decode mb_X10_add 8 = .ok (.iload_n 1, 1) := by decide +kernel
theorem dd_X10_add_9 : decode mb_X10_add 9 = .ok (.iastore, 1) := by decide +kernel
theorem dd_X10_add_10 : decode mb_X10_add 10 = .ok (.aload_n 0, 1) := by decide +kernel
theorem dd_X10_add_11 : decode mb_X10_add 11 = .ok (.getfield 15, 3) := by decide +kernel
theorem dd_X10_add_14 : decode mb_X10_add 14 = .ok (.aload_n 0, 1) := by decide +kernel
theorem dd_X10_add_15 : decode mb_X10_add 15 = .ok (.getfield 30, 3) := by decide +kernel
theorem dd_X10_add_18 : decode mb_X10_add 18 = .ok (.iload_n 2, 1) := by decide +kernel
theorem dd_X10_add_19 : decode mb_X10_add 19 = .ok (.iastore, 1) := by decide +kernel
theorem dd_X10_add_20 : decode mb_X10_add 20 = .ok (.aload_n 0, 1) := by decide +kernel
theorem dd_X10_add_21 : decode mb_X10_add 21 = .ok (.getfield 18, 3) := by decide +kernel
theorem dd_X10_add_24 : decode mb_X10_add 24 = .ok (.aload_n 0, 1) := by decide +kernel
theorem dd_X10_add_25 : decode mb_X10_add 25 = .ok (.getfield 30, 3) := by decide +kernel
theorem dd_X10_add_28 : decode mb_X10_add 28 = .ok (.iload_n 3, 1) := by decide +kernel
theorem dd_X10_add_29 : decode mb_X10_add 29 = .ok (.iastore, 1) := by decide +kernel
theorem dd_X10_add_30 : decode mb_X10_add 30 = .ok (.aload_n 0, 1) := by decide +kernel
theorem dd_X10_add_31 : decode mb_X10_add 31 = .ok (.getfield 21, 3) := by decide +kernel
theorem dd_X10_add_34 : decode mb_X10_add 34 = .ok (.aload_n 0, 1) := by decide +kernel
theorem dd_X10_add_35 : decode mb_X10_add 35 = .ok (.getfield 30, 3) := by decide +kernel
theorem dd_X10_add_38 : decode mb_X10_add 38 = .ok (.iconst (-1), 1) := by decide +kernel
theorem dd_X10_add_39 : decode mb_X10_add 39 = .ok (.iastore, 1) := by decide +kernel
theorem dd_X10_add_40 : decode mb_X10_add 40 = .ok (.aload_n 0, 1) := by decide +kernel
theorem dd_X10_add_41 : decode mb_X10_add 41 = .ok (.getfield 24, 3) := by decide +kernel
theorem dd_X10_add_44 : decode mb_X10_add 44 = .ok (.aload_n 0, 1) := by decide +kernel
theorem dd_X10_add_45 : decode mb_X10_add 45 = .ok (.getfield 30, 3) := by decide +kernel
theorem dd_X10_add_48 : decode mb_X10_add 48 = .ok (.iconst (-1), 1) := by decide +kernel
theorem dd_X10_add_49 : decode mb_X10_add 49 = .ok (.iastore, 1) := by decide +kernel
theorem dd_X10_add_50 : decode mb_X10_add 50 = .ok (.aload_n 0, 1) := by decide +kernel
theorem dd_X10_add_51 : decode mb_X10_add 51 = .ok (.getfield 27, 3) := by decide +kernel
theorem dd_X10_add_54 : decode mb_X10_add 54 = .ok (.aload_n 0, 1) := by decide +kernel
theorem dd_X10_add_55 : decode mb_X10_add 55 = .ok (.getfield 30, 3) := by decide +kernel
theorem dd_X10_add_58 : decode mb_X10_add 58 = .ok (.iconst (-1), 1) := by decide +kernel
theorem dd_X10_add_59 : decode mb_X10_add 59 = .ok (.iastore, 1) := by decide +kernel
theorem dd_X10_add_60 : decode mb_X10_add 60 = .ok (.aload_n 0, 1) := by decide +kernel
theorem dd_X10_add_61 : decode mb_X10_add 61 = .ok (.dup, 1) := by decide +kernel
theorem dd_X10_add_62 : decode mb_X10_add 62 = .ok (.getfield 30, 3) := by decide +kernel
theorem dd_X10_add_65 : decode mb_X10_add 65 = .ok (.iconst 1, 1) := by decide +kernel
theorem dd_X10_add_66 : decode mb_X10_add 66 = .ok (.iadd, 1) := by decide +kernel
theorem dd_X10_add_67 : decode mb_X10_add 67 = .ok (.putfield 30, 3) := by decide +kernel
theorem dd_X10_add_70 : decode mb_X10_add 70 = .ok (.aload_n 0, 1) := by decide +kernel
theorem dd_X10_add_71 : decode mb_X10_add 71 = .ok (.getfield 30, 3) := by decide +kernel
theorem dd_X10_add_74 : decode mb_X10_add 74 = .ok (.iconst 1, 1) := by decide +kernel
theorem dd_X10_add_75 : decode mb_X10_add 75 = .ok (.isub, 1) := by decide +kernel
theorem dd_X10_add_76 : decode mb_X10_add 76 = .ok (.ireturn, 1) := by decide +kernel
theorem dd_X10_countLeft_0 : decode mb_X10_countLeft 0 = .ok (.iconst 0, 1) := by decide +kernel
theorem dd_X10_countLeft_1 : decode mb_X10_countLeft 1 = .ok (.istore_n 1, 1) := by decide +kernel
theorem dd_X10_countLeft_2 : decode mb_X10_countLeft 2 = .ok (.iconst 0, 1) := by decide +kernel
theorem dd_X10_countLeft_3 : decode mb_X10_countLeft 3 = .ok (.istore_n 2, 1) := by decide +kernel
theorem dd_X10_countLeft_4 : decode mb_X10_countLeft 4 = .ok (.iload_n 2, 1) := by decide +kernel
theorem dd_X10_countLeft_5 : decode mb_X10_countLeft 5 = .ok (.aload_n 0, 1) := by decide +kernel
theorem dd_X10_countLeft_6 : decode mb_X10_countLeft 6 = .ok (.getfield 30, 3) := by decide +kernel
theorem dd_X10_countLeft_9 : decode mb_X10_countLeft 9 = .ok (.if_icmp .ge 20, 3) := by decide +kernel
theorem dd_X10_countLeft_29 : decode mb_X10_countLeft 29 = .ok (.iload_n 1, 1) := by decide +kernel
theorem dd_X10_countLeft_30 : decode mb_X10_countLeft 30 = .ok (.ireturn, 1) := by decide +kernel
theorem dd_X10_has_0 : decode mb_X10_has 0 = .ok (.iload_n 1, 1) := by decide +kernel
theorem dd_X10_has_1 : decode mb_X10_has 1 = .ok (.iconst 0, 1) := by decide +kernel
theorem dd_X10_has_2 : decode mb_X10_has 2 = .ok (.aload_n 0, 1) := by decide +kernel
theorem dd_X10_has_3 : decode mb_X10_has 3 = .ok (.getfield 30, 3) := by decide +kernel
theorem dd_X10_has_6 : decode mb_X10_has 6 = .ok (.iconst 1, 1) := by decide +kernel
theorem dd_X10_has_7 : decode mb_X10_has 7 = .ok (.isub, 1) := by decide +kernel
theorem dd_X10_has_8 : decode mb_X10_has 8 = .ok (.invokestatic 37, 3) := by decide +kernel
theorem dd_X10_has_11 : decode mb_X10_has 11 = .ok (.ireturn, 1) := by decide +kernel
theorem dd_X10_worthLeft_0 : decode mb_X10_worthLeft 0 = .ok (.iconst 0, 1) := by decide +kernel
theorem dd_X10_worthLeft_1 : decode mb_X10_worthLeft 1 = .ok (.istore_n 2, 1) := by decide +kernel
theorem dd_X10_worthLeft_2 : decode mb_X10_worthLeft 2 = .ok (.iconst 0, 1) := by decide +kernel
theorem dd_X10_worthLeft_3 : decode mb_X10_worthLeft 3 = .ok (.istore_n 3, 1) := by decide +kernel
theorem dd_X10_worthLeft_4 : decode mb_X10_worthLeft 4 = .ok (.iload_n 3, 1) := by decide +kernel
theorem dd_X10_worthLeft_5 : decode mb_X10_worthLeft 5 = .ok (.aload_n 0, 1) := by decide +kernel
theorem dd_X10_worthLeft_6 : decode mb_X10_worthLeft 6 = .ok (.getfield 30, 3) := by decide +kernel
theorem dd_X10_worthLeft_9 : decode mb_X10_worthLeft 9 = .ok (.if_icmp .ge 34, 3) := by decide +kernel
theorem dd_X10_worthLeft_43 : decode mb_X10_worthLeft 43 = .ok (.iload_n 2, 1) := by decide +kernel
theorem dd_X10_worthLeft_44 : decode mb_X10_worthLeft 44 = .ok (.ireturn, 1) := by decide +kernel
theorem dd_X11_back_0 : decode mb_X11_back 0 = .ok (.aload_n 0, 1) := by decide +kernel
theorem dd_X11_back_1 : decode mb_X11_back 1 = .ok (.getfield 50, 3) := by decide +kernel
theorem dd_X11_back_4 : decode mb_X11_back 4 = .ok (.ifCond .ne 10, 3) := by decide +kernel
theorem dd_X11_back_7 : decode mb_X11_back 7 = .ok (.aload_n 0, 1) := by decide +kernel
theorem dd_X11_back_8 : decode mb_X11_back 8 = .ok (.bipush (-5), 2) := by decide +kernel
theorem dd_X11_back_10 : decode mb_X11_back 10 = .ok (.invokevirtual 63, 3) := by decide +kernel
theorem dd_X11_back_13 : decode mb_X11_back 13 = .ok (.ireturn, 1) := by decide +kernel
theorem dd_X11_buyer_0 : decode mb_X11_buyer 0 = .ok (.iload_n 1, 1) := by decide +kernel
theorem dd_X11_buyer_1 : decode mb_X11_buyer 1 = .ok (.invokestatic 216, 3) := by decide +kernel
theorem dd_X11_buyer_4 : decode mb_X11_buyer 4 = .ok (.ifCond .eq 33, 3) := by decide +kernel
theorem dd_X11_buyer_7 : decode mb_X11_buyer 7 = .ok (.iload_n 2, 1) := by decide +kernel
theorem dd_X11_buyer_8 : decode mb_X11_buyer 8 = .ok (.iconst 0, 1) := by decide +kernel
theorem dd_X11_buyer_9 : decode mb_X11_buyer 9 = .ok (.sipush 9999, 3) := by decide +kernel
theorem dd_X11_buyer_12 : decode mb_X11_buyer 12 = .ok (.invokestatic 59, 3) := by decide +kernel
theorem dd_X11_buyer_15 : decode mb_X11_buyer 15 = .ok (.ifCond .eq 22, 3) := by decide +kernel
theorem dd_X11_buyer_18 : decode mb_X11_buyer 18 = .ok (.iload_n 3, 1) := by decide +kernel
theorem dd_X11_buyer_19 : decode mb_X11_buyer 19 = .ok (.invokestatic 165, 3) := by decide +kernel
theorem dd_X11_buyer_22 : decode mb_X11_buyer 22 = .ok (.ifCond .eq 15, 3) := by decide +kernel
theorem dd_X11_buyer_25 : decode mb_X11_buyer 25 = .ok (.iload 4, 2) := by decide +kernel
theorem dd_X11_buyer_27 : decode mb_X11_buyer 27 = .ok (.iconst 0, 1) := by decide +kernel
theorem dd_X11_buyer_28 : decode mb_X11_buyer 28 = .ok (.sipush 300, 3) := by decide +kernel
theorem dd_X11_buyer_31 : decode mb_X11_buyer 31 = .ok (.invokestatic 59, 3) := by decide +kernel
theorem dd_X11_buyer_34 : decode mb_X11_buyer 34 = .ok (.ifCond .ne 10, 3) := by decide +kernel
theorem dd_X11_buyer_37 : decode mb_X11_buyer 37 = .ok (.aload_n 0, 1) := by decide +kernel
theorem dd_X11_buyer_38 : decode mb_X11_buyer 38 = .ok (.bipush (-2), 2) := by decide +kernel
theorem dd_X11_buyer_40 : decode mb_X11_buyer 40 = .ok (.invokevirtual 63, 3) := by decide +kernel
theorem dd_X11_buyer_43 : decode mb_X11_buyer 43 = .ok (.ireturn, 1) := by decide +kernel
theorem dd_X11_buyer_44 : decode mb_X11_buyer 44 = .ok (.aload_n 0, 1) := by decide +kernel
theorem dd_X11_buyer_45 : decode mb_X11_buyer 45 = .ok (.getfield 29, 3) := by decide +kernel
theorem dd_X11_buyer_48 : decode mb_X11_buyer 48 = .ok (.getfield 219, 3) := by decide +kernel
theorem dd_X11_buyer_51 : decode mb_X11_buyer 51 = .ok (.getfield 223, 3) := by decide +kernel
theorem dd_X11_buyer_54 : decode mb_X11_buyer 54 = .ok (.bipush 12, 2) := by decide +kernel
theorem dd_X11_buyer_56 : decode mb_X11_buyer 56 = .ok (.if_icmp .lt 10, 3) := by decide +kernel
theorem dd_X11_buyer_66 : decode mb_X11_buyer 66 = .ok (.aload_n 0, 1) := by decide +kernel
theorem dd_X11_buyer_67 : decode mb_X11_buyer 67 = .ok (.getfield 29, 3) := by decide +kernel
theorem dd_X11_buyer_70 : decode mb_X11_buyer 70 = .ok (.getfield 219, 3) := by decide +kernel
theorem dd_X11_buyer_73 : decode mb_X11_buyer 73 = .ok (.iload_n 1, 1) := by decide +kernel
theorem dd_X11_buyer_74 : decode mb_X11_buyer 74 = .ok (.iload_n 2, 1) := by decide +kernel
theorem dd_X11_buyer_75 : decode mb_X11_buyer 75 = .ok (.iload_n 3, 1) := by decide +kernel
theorem dd_X11_buyer_76 : decode mb_X11_buyer 76 = .ok (.iload 4, 2) := by decide +kernel
theorem dd_X11_buyer_78 : decode mb_X11_buyer 78 = .ok (.invokevirtual 226, 3) := by decide +kernel
theorem dd_X11_buyer_81 : decode mb_X11_buyer 81 = .ok (.ireturn, 1) := by decide +kernel
theorem dd_X11_buyerOf_0 : decode mb_X11_buyerOf 0 = .ok (.aload_n 0, 1) := by decide +kernel
theorem dd_X11_buyerOf_1 : decode mb_X11_buyerOf 1 = .ok (.getfield 29, 3) := by decide +kernel
theorem dd_X11_buyerOf_4 : decode mb_X11_buyerOf 4 = .ok (.getfield 219, 3) := by decide +kernel
theorem dd_X11_buyerOf_7 : decode mb_X11_buyerOf 7 = .ok (.iload_n 1, 1) := by decide +kernel
theorem dd_X11_buyerOf_8 : decode mb_X11_buyerOf 8 = .ok (.invokevirtual 229, 3) := by decide +kernel
theorem dd_X11_buyerOf_11 : decode mb_X11_buyerOf 11 = .ok (.ifCond .ne 10, 3) := by decide +kernel
theorem dd_X11_buyerOf_14 : decode mb_X11_buyerOf 14 = .ok (.aload_n 0, 1) := by decide +kernel
theorem dd_X11_buyerOf_15 : decode mb_X11_buyerOf 15 = .ok (.bipush (-2), 2) := by decide +kernel
theorem dd_X11_buyerOf_17 : decode mb_X11_buyerOf 17 = .ok (.invokevirtual 63, 3) := by decide +kernel
theorem dd_X11_buyerOf_20 : decode mb_X11_buyerOf 20 = .ok (.ireturn, 1) := by decide +kernel
theorem dd_X11_chip_0 : decode mb_X11_chip 0 = .ok (.aload_n 0, 1) := by decide +kernel
theorem dd_X11_chip_1 : decode mb_X11_chip 1 = .ok (.getfield 29, 3) := by decide +kernel
theorem dd_X11_chip_4 : decode mb_X11_chip 4 = .ok (.getfield 113, 3) := by decide +kernel
theorem dd_X11_chip_7 : decode mb_X11_chip 7 = .ok (.iload_n 1, 1) := by decide +kernel
theorem dd_X11_chip_8 : decode mb_X11_chip 8 = .ok (.invokevirtual 117, 3) := by decide +kernel
theorem dd_X11_chip_11 : decode mb_X11_chip 11 = .ok (.ifCond .eq 13, 3) := by decide +kernel
theorem dd_X11_chip_24 : decode mb_X11_chip 24 = .ok (.aload_n 0, 1) := by decide +kernel
theorem dd_X11_chip_25 : decode mb_X11_chip 25 = .ok (.bipush (-2), 2) := by decide +kernel
theorem dd_X11_chip_27 : decode mb_X11_chip 27 = .ok (.invokevirtual 63, 3) := by decide +kernel
theorem dd_X11_chip_30 : decode mb_X11_chip 30 = .ok (.ireturn, 1) := by decide +kernel
theorem dd_X11_copy_0 : decode mb_X11_copy 0 = .ok (.iload_n 1, 1) := by decide +kernel
theorem dd_X11_copy_1 : decode mb_X11_copy 1 = .ok (.invokestatic 55, 3) := by decide +kernel
theorem dd_X11_copy_4 : decode mb_X11_copy 4 = .ok (.ifCond .eq 10, 3) := by decide +kernel
theorem dd_X11_copy_7 : decode mb_X11_copy 7 = .ok (.iload_n 2, 1) := by decide +kernel
theorem dd_X11_copy_8 : decode mb_X11_copy 8 = .ok (.invokestatic 55, 3) := by decide +kernel
theorem dd_X11_copy_11 : decode mb_X11_copy 11 = .ok (.ifCond .ne 10, 3) := by decide +kernel
theorem dd_X11_copy_14 : decode mb_X11_copy 14 = .ok (.aload_n 0, 1) := by decide +kernel
theorem dd_X11_copy_15 : decode mb_X11_copy 15 = .ok (.bipush (-2), 2) := by decide +kernel
theorem dd_X11_copy_17 : decode mb_X11_copy 17 = .ok (.invokevirtual 63, 3) := by decide +kernel
theorem dd_X11_copy_20 : decode mb_X11_copy 20 = .ok (.ireturn, 1) := by decide +kernel
theorem dd_X11_copy_21 : decode mb_X11_copy 21 = .ok (.aload_n 0, 1) := by decide +kernel
theorem dd_X11_copy_22 : decode mb_X11_copy 22 = .ok (.getfield 11, 3) := by decide +kernel
theorem dd_X11_copy_25 : decode mb_X11_copy 25 = .ok (.iload_n 1, 1) := by decide +kernel
theorem dd_X11_copy_26 : decode mb_X11_copy 26 = .ok (.aaload, 1) := by decide +kernel
theorem dd_X11_copy_27 : decode mb_X11_copy 27 = .ok (.astore 6, 2) := by decide +kernel
theorem dd_X11_copy_29 : decode mb_X11_copy 29 = .ok (.aload_n 0, 1) := by decide +kernel
theorem dd_X11_copy_30 : decode mb_X11_copy 30 = .ok (.getfield 11, 3) := by decide +kernel
theorem dd_X11_copy_33 : decode mb_X11_copy 33 = .ok (.iload_n 2, 1) := by decide +kernel
theorem dd_X11_copy_34 : decode mb_X11_copy 34 = .ok (.aaload, 1) := by decide +kernel
theorem dd_X11_copy_35 : decode mb_X11_copy 35 = .ok (.astore 7, 2) := by decide +kernel
theorem dd_X11_copy_37 : decode mb_X11_copy 37 = .ok (.aload 6, 2) := by decide +kernel
theorem dd_X11_copy_39 : decode mb_X11_copy 39 = .ok (.invokevirtual 82, 3) := by decide +kernel
theorem dd_X11_copy_42 : decode mb_X11_copy 42 = .ok (.ifCond .ne 11, 3) := by decide +kernel
theorem dd_X11_copy_45 : decode mb_X11_copy 45 = .ok (.aload 7, 2) := by decide +kernel
theorem dd_X11_copy_47 : decode mb_X11_copy 47 = .ok (.invokevirtual 82, 3) := by decide +kernel
theorem dd_X11_copy_50 : decode mb_X11_copy 50 = .ok (.ifCond .eq 10, 3) := by decide +kernel
theorem dd_X11_copy_60 : decode mb_X11_copy 60 = .ok (.aload 6, 2) := by decide +kernel
theorem dd_X11_copy_62 : decode mb_X11_copy 62 = .ok (.invokevirtual 86, 3) := by decide +kernel
theorem dd_X11_copy_65 : decode mb_X11_copy 65 = .ok (.ifCond .eq 31, 3) := by decide +kernel
theorem dd_X11_copy_96 : decode mb_X11_copy 96 = .ok (.aload 6, 2) := by decide +kernel
theorem dd_X11_copy_98 : decode mb_X11_copy 98 = .ok (.invokevirtual 92, 3) := by decide +kernel
theorem dd_X11_copy_101 : decode mb_X11_copy 101 = .ok (.ifCond .ne 11, 3) := by decide +kernel
theorem dd_X11_copy_112 : decode mb_X11_copy 112 = .ok (.aload_n 0, 1) := by decide +kernel
theorem dd_X11_copy_113 : decode mb_X11_copy 113 = .ok (.bipush (-4), 2) := by decide +kernel
theorem dd_X11_copy_115 : decode mb_X11_copy 115 = .ok (.invokevirtual 63, 3) := by decide +kernel
theorem dd_X11_copy_118 : decode mb_X11_copy 118 = .ok (.ireturn, 1) := by decide +kernel
theorem dd_X11_costs_0 : decode mb_X11_costs 0 = .ok (.aload_n 0, 1) := by decide +kernel
theorem dd_X11_costs_1 : decode mb_X11_costs 1 = .ok (.getfield 29, 3) := by decide +kernel
theorem dd_X11_costs_4 : decode mb_X11_costs 4 = .ok (.getfield 113, 3) := by decide +kernel
theorem dd_X11_costs_7 : decode mb_X11_costs 7 = .ok (.iload_n 1, 1) := by decide +kernel
theorem dd_X11_costs_8 : decode mb_X11_costs 8 = .ok (.invokevirtual 117, 3) := by decide +kernel
theorem dd_X11_costs_11 : decode mb_X11_costs 11 = .ok (.ifCond .eq 10, 3) := by decide +kernel
theorem dd_X11_costs_21 : decode mb_X11_costs 21 = .ok (.aload_n 0, 1) := by decide +kernel
theorem dd_X11_costs_22 : decode mb_X11_costs 22 = .ok (.bipush (-2), 2) := by decide +kernel
theorem dd_X11_costs_24 : decode mb_X11_costs 24 = .ok (.invokevirtual 63, 3) := by decide +kernel
theorem dd_X11_costs_27 : decode mb_X11_costs 27 = .ok (.ireturn, 1) := by decide +kernel
theorem dd_X11_day_0 : decode mb_X11_day 0 = .ok (.iload_n 1, 1) := by decide +kernel
theorem dd_X11_day_1 : decode mb_X11_day 1 = .ok (.tableswitch 80 0 3 #[31, 39, 47, 69], 31) := by decide +kernel
theorem dd_X11_day_32 : decode mb_X11_day 32 = .ok (.aload_n 0, 1) := by decide +kernel
theorem dd_X11_day_33 : decode mb_X11_day 33 = .ok (.getfield 29, 3) := by decide +kernel
theorem dd_X11_day_36 : decode mb_X11_day 36 = .ok (.getfield 282, 3) := by decide +kernel
theorem dd_X11_day_39 : decode mb_X11_day 39 = .ok (.ireturn, 1) := by decide +kernel
theorem dd_X11_day_40 : decode mb_X11_day 40 = .ok (.aload_n 0, 1) := by decide +kernel
theorem dd_X11_day_41 : decode mb_X11_day 41 = .ok (.getfield 29, 3) := by decide +kernel
theorem dd_X11_day_44 : decode mb_X11_day 44 = .ok (.getfield 293, 3) := by decide +kernel
theorem dd_X11_day_47 : decode mb_X11_day 47 = .ok (.ireturn, 1) := by decide +kernel
theorem dd_X11_day_48 : decode mb_X11_day 48 = .ok (.aload_n 0, 1) := by decide +kernel
theorem dd_X11_day_49 : decode mb_X11_day 49 = .ok (.getfield 29, 3) := by decide +kernel
theorem dd_X11_day_52 : decode mb_X11_day 52 = .ok (.getfield 113, 3) := by decide +kernel
theorem dd_X11_day_55 : decode mb_X11_day 55 = .ok (.getfield 132, 3) := by decide +kernel
theorem dd_X11_day_58 : decode mb_X11_day 58 = .ok (.aload_n 0, 1) := by decide +kernel
theorem dd_X11_day_59 : decode mb_X11_day 59 = .ok (.getfield 29, 3) := by decide +kernel
theorem dd_X11_day_62 : decode mb_X11_day 62 = .ok (.getfield 113, 3) := by decide +kernel
theorem dd_X11_day_65 : decode mb_X11_day 65 = .ok (.invokevirtual 296, 3) := by decide +kernel
theorem dd_X11_day_68 : decode mb_X11_day 68 = .ok (.isub, 1) := by decide +kernel
theorem dd_X11_day_69 : decode mb_X11_day 69 = .ok (.ireturn, 1) := by decide +kernel
theorem dd_X11_day_70 : decode mb_X11_day 70 = .ok (.aload_n 0, 1) := by decide +kernel
theorem dd_X11_day_71 : decode mb_X11_day 71 = .ok (.getfield 29, 3) := by decide +kernel
theorem dd_X11_day_74 : decode mb_X11_day 74 = .ok (.getfield 113, 3) := by decide +kernel
theorem dd_X11_day_77 : decode mb_X11_day 77 = .ok (.invokevirtual 296, 3) := by decide +kernel
theorem dd_X11_day_80 : decode mb_X11_day 80 = .ok (.ireturn, 1) := by decide +kernel
theorem dd_X11_day_81 : decode mb_X11_day 81 = .ok (.aload_n 0, 1) := by decide +kernel
theorem dd_X11_day_82 : decode mb_X11_day 82 = .ok (.bipush (-2), 2) := by decide +kernel
theorem dd_X11_day_84 : decode mb_X11_day 84 = .ok (.invokevirtual 63, 3) := by decide +kernel
theorem dd_X11_day_87 : decode mb_X11_day 87 = .ok (.ireturn, 1) := by decide +kernel
theorem dd_X11_element_0 : decode mb_X11_element 0 = .ok (.iload_n 1, 1) := by decide +kernel
theorem dd_X11_element_1 : decode mb_X11_element 1 = .ok (.invokestatic 55, 3) := by decide +kernel
theorem dd_X11_element_4 : decode mb_X11_element 4 = .ok (.ifCond .eq 16, 3) := by decide +kernel
theorem dd_X11_element_7 : decode mb_X11_element 7 = .ok (.aload_n 0, 1) := by decide +kernel
theorem dd_X11_element_8 : decode mb_X11_element 8 = .ok (.getfield 11, 3) := by decide +kernel
theorem dd_X11_element_11 : decode mb_X11_element 11 = .ok (.iload_n 1, 1) := by decide +kernel
theorem dd_X11_element_12 : decode mb_X11_element 12 = .ok (.aaload, 1) := by decide +kernel
theorem dd_X11_element_13 : decode mb_X11_element 13 = .ok (.iload_n 2, 1) := by decide +kernel
theorem dd_X11_element_14 : decode mb_X11_element 14 = .ok (.invokevirtual 109, 3) := by decide +kernel
theorem dd_X11_element_17 : decode mb_X11_element 17 = .ok (.goto 4, 3) := by decide +kernel
theorem dd_X11_element_20 : decode mb_X11_element 20 = .ok (.lconst 0, 1) := by decide +kernel
theorem dd_X11_element_21 : decode mb_X11_element 21 = .ok (.lreturn, 1) := by decide +kernel
theorem dd_X11_goes_0 : decode mb_X11_goes 0 = .ok (.aload_n 0, 1) := by decide +kernel
theorem dd_X11_goes_1 : decode mb_X11_goes 1 = .ok (.getfield 29, 3) := by decide +kernel
theorem dd_X11_goes_4 : decode mb_X11_goes 4 = .ok (.getfield 168, 3) := by decide +kernel
theorem dd_X11_goes_7 : decode mb_X11_goes 7 = .ok (.iload_n 1, 1) := by decide +kernel
theorem dd_X11_goes_8 : decode mb_X11_goes 8 = .ok (.invokevirtual 177, 3) := by decide +kernel
theorem dd_X11_goes_11 : decode mb_X11_goes 11 = .ok (.ifCond .eq 22, 3) := by decide +kernel
theorem dd_X11_goes_33 : decode mb_X11_goes 33 = .ok (.aload_n 0, 1) := by decide +kernel
theorem dd_X11_goes_34 : decode mb_X11_goes 34 = .ok (.bipush (-2), 2) := by decide +kernel
theorem dd_X11_goes_36 : decode mb_X11_goes 36 = .ok (.invokevirtual 63, 3) := by decide +kernel
theorem dd_X11_goes_39 : decode mb_X11_goes 39 = .ok (.ireturn, 1) := by decide +kernel
theorem dd_X11_hall_0 : decode mb_X11_hall 0 = .ok (.iload_n 1, 1) := by decide +kernel
theorem dd_X11_hall_1 : decode mb_X11_hall 1 = .ok (.iconst 0, 1) := by decide +kernel
theorem dd_X11_hall_2 : decode mb_X11_hall 2 = .ok (.iconst 2, 1) := by decide +kernel
theorem dd_X11_hall_3 : decode mb_X11_hall 3 = .ok (.invokestatic 59, 3) := by decide +kernel
theorem dd_X11_hall_6 : decode mb_X11_hall 6 = .ok (.ifCond .eq 17, 3) := by decide +kernel
theorem dd_X11_hall_9 : decode mb_X11_hall 9 = .ok (.aload_n 0, 1) := by decide +kernel
theorem dd_X11_hall_10 : decode mb_X11_hall 10 = .ok (.getfield 29, 3) := by decide +kernel
theorem dd_X11_hall_13 : decode mb_X11_hall 13 = .ok (.getfield 113, 3) := by decide +kernel
theorem dd_X11_hall_16 : decode mb_X11_hall 16 = .ok (.iload_n 2, 1) := by decide +kernel
theorem dd_X11_hall_17 : decode mb_X11_hall 17 = .ok (.invokevirtual 117, 3) := by decide +kernel
theorem dd_X11_hall_20 : decode mb_X11_hall 20 = .ok (.ifCond .ne 10, 3) := by decide +kernel
theorem dd_X11_hall_23 : decode mb_X11_hall 23 = .ok (.aload_n 0, 1) := by decide +kernel
theorem dd_X11_hall_24 : decode mb_X11_hall 24 = .ok (.bipush (-2), 2) := by decide +kernel
theorem dd_X11_hall_26 : decode mb_X11_hall 26 = .ok (.invokevirtual 63, 3) := by decide +kernel
theorem dd_X11_hall_29 : decode mb_X11_hall 29 = .ok (.ireturn, 1) := by decide +kernel
theorem dd_X11_holds_0 : decode mb_X11_holds 0 = .ok (.iload_n 1, 1) := by decide +kernel
theorem dd_X11_holds_1 : decode mb_X11_holds 1 = .ok (.invokestatic 55, 3) := by decide +kernel
theorem dd_X11_holds_4 : decode mb_X11_holds 4 = .ok (.ifCond .eq 15, 3) := by decide +kernel
theorem dd_X11_holds_7 : decode mb_X11_holds 7 = .ok (.aload_n 0, 1) := by decide +kernel
theorem dd_X11_holds_8 : decode mb_X11_holds 8 = .ok (.getfield 11, 3) := by decide +kernel
theorem dd_X11_holds_11 : decode mb_X11_holds 11 = .ok (.iload_n 1, 1) := by decide +kernel
theorem dd_X11_holds_12 : decode mb_X11_holds 12 = .ok (.aaload, 1) := by decide +kernel
theorem dd_X11_holds_13 : decode mb_X11_holds 13 = .ok (.getfield 89, 3) := by decide +kernel
theorem dd_X11_holds_16 : decode mb_X11_holds 16 = .ok (.goto 4, 3) := by decide +kernel
theorem dd_X11_holds_19 : decode mb_X11_holds 19 = .ok (.iconst (-1), 1) := by decide +kernel
theorem dd_X11_holds_20 : decode mb_X11_holds 20 = .ok (.ireturn, 1) := by decide +kernel
theorem dd_X11_isHour_0 : decode mb_X11_isHour 0 = .ok (.iload_n 0, 1) := by decide +kernel
theorem dd_X11_isHour_1 : decode mb_X11_isHour 1 = .ok (.iconst 0, 1) := by decide +kernel
theorem dd_X11_isHour_2 : decode mb_X11_isHour 2 = .ok (.bipush 11, 2) := by decide +kernel
theorem dd_X11_isHour_4 : decode mb_X11_isHour 4 = .ok (.invokestatic 59, 3) := by decide +kernel
theorem dd_X11_isHour_7 : decode mb_X11_isHour 7 = .ok (.ireturn, 1) := by decide +kernel
theorem dd_X11_isKind_0 : decode mb_X11_isKind 0 = .ok (.iload_n 0, 1) := by decide +kernel
theorem dd_X11_isKind_1 : decode mb_X11_isKind 1 = .ok (.iconst 0, 1) := by decide +kernel
theorem dd_X11_isKind_2 : decode mb_X11_isKind 2 = .ok (.iconst 5, 1) := by decide +kernel
theorem dd_X11_isKind_3 : decode mb_X11_isKind 3 = .ok (.invokestatic 59, 3) := by decide +kernel
theorem dd_X11_isKind_6 : decode mb_X11_isKind 6 = .ok (.ireturn, 1) := by decide +kernel
theorem dd_X11_isKinds_0 : decode mb_X11_isKinds 0 = .ok (.iload_n 0, 1) := by decide +kernel
theorem dd_X11_isKinds_1 : decode mb_X11_isKinds 1 = .ok (.iconst 0, 1) := by decide +kernel
theorem dd_X11_isKinds_2 : decode mb_X11_isKinds 2 = .ok (.bipush 63, 2) := by decide +kernel
theorem dd_X11_isKinds_4 : decode mb_X11_isKinds 4 = .ok (.invokestatic 59, 3) := by decide +kernel
theorem dd_X11_isKinds_7 : decode mb_X11_isKinds 7 = .ok (.ireturn, 1) := by decide +kernel
theorem dd_X11_isPerson_0 : decode mb_X11_isPerson 0 = .ok (.iload_n 0, 1) := by decide +kernel
theorem dd_X11_isPerson_1 : decode mb_X11_isPerson 1 = .ok (.iconst 0, 1) := by decide +kernel
theorem dd_X11_isPerson_2 : decode mb_X11_isPerson 2 = .ok (.bipush 15, 2) := by decide +kernel
theorem dd_X11_isPerson_4 : decode mb_X11_isPerson 4 = .ok (.invokestatic 59, 3) := by decide +kernel
theorem dd_X11_isPerson_7 : decode mb_X11_isPerson 7 = .ok (.ireturn, 1) := by decide +kernel
theorem dd_X11_isPersonOrNone_0 : decode mb_X11_isPersonOrNone 0 = .ok (.iload_n 0, 1) := by decide +kernel
theorem dd_X11_isPersonOrNone_1 : decode mb_X11_isPersonOrNone 1 = .ok (.iconst (-1), 1) := by decide +kernel
theorem dd_X11_isPersonOrNone_2 : decode mb_X11_isPersonOrNone 2 = .ok (.if_icmp .eq 10, 3) := by decide +kernel
theorem dd_X11_isPersonOrNone_5 : decode mb_X11_isPersonOrNone 5 = .ok (.iload_n 0, 1) := by decide +kernel
theorem dd_X11_isPersonOrNone_6 : decode mb_X11_isPersonOrNone 6 = .ok (.invokestatic 339, 3) := by decide +kernel
theorem dd_X11_isPersonOrNone_9 : decode mb_X11_isPersonOrNone 9 = .ok (.ifCond .eq 7, 3) := by decide +kernel
theorem dd_X11_isPersonOrNone_12 : decode mb_X11_isPersonOrNone 12 = .ok (.iconst 1, 1) := by decide +kernel
theorem dd_X11_isPersonOrNone_13 : decode mb_X11_isPersonOrNone 13 = .ok (.goto 4, 3) := by decide +kernel
theorem dd_X11_isPersonOrNone_16 : decode mb_X11_isPersonOrNone 16 = .ok (.iconst 0, 1) := by decide +kernel
theorem dd_X11_isPersonOrNone_17 : decode mb_X11_isPersonOrNone 17 = .ok (.ireturn, 1) := by decide +kernel
theorem dd_X11_isShelf_0 : decode mb_X11_isShelf 0 = .ok (.iload_n 0, 1) := by decide +kernel
theorem dd_X11_isShelf_1 : decode mb_X11_isShelf 1 = .ok (.iconst 0, 1) := by decide +kernel
theorem dd_X11_isShelf_2 : decode mb_X11_isShelf 2 = .ok (.bipush 7, 2) := by decide +kernel
theorem dd_X11_isShelf_4 : decode mb_X11_isShelf 4 = .ok (.invokestatic 59, 3) := by decide +kernel
theorem dd_X11_isShelf_7 : decode mb_X11_isShelf 7 = .ok (.ireturn, 1) := by decide +kernel
theorem dd_X11_judge_0 : decode mb_X11_judge 0 = .ok (.aload_n 0, 1) := by decide +kernel
theorem dd_X11_judge_1 : decode mb_X11_judge 1 = .ok (.iload_n 1, 1) := by decide +kernel
theorem dd_X11_judge_2 : decode mb_X11_judge 2 = .ok (.invokevirtual 71, 3) := by decide +kernel
theorem dd_X11_judge_5 : decode mb_X11_judge 5 = .ok (.istore_n 2, 1) := by decide +kernel
theorem dd_X11_judge_6 : decode mb_X11_judge 6 = .ok (.iload_n 2, 1) := by decide +kernel
theorem dd_X11_judge_7 : decode mb_X11_judge 7 = .ok (.ifCond .eq 9, 3) := by decide +kernel
theorem dd_X11_judge_10 : decode mb_X11_judge 10 = .ok (.aload_n 0, 1) := by decide +kernel
theorem dd_X11_judge_11 : decode mb_X11_judge 11 = .ok (.iload_n 2, 1) := by decide +kernel
theorem dd_X11_judge_12 : decode mb_X11_judge 12 = .ok (.invokevirtual 63, 3) := by decide +kernel
theorem dd_X11_judge_15 : decode mb_X11_judge 15 = .ok (.ireturn, 1) := by decide +kernel
theorem dd_X11_lady_0 : decode mb_X11_lady 0 = .ok (.iload_n 1, 1) := by decide +kernel
theorem dd_X11_lady_1 : decode mb_X11_lady 1 = .ok (.invokestatic 165, 3) := by decide +kernel
theorem dd_X11_lady_4 : decode mb_X11_lady 4 = .ok (.ifCond .eq 14, 3) := by decide +kernel
theorem dd_X11_lady_7 : decode mb_X11_lady 7 = .ok (.iload_n 2, 1) := by decide +kernel
theorem dd_X11_lady_8 : decode mb_X11_lady 8 = .ok (.iconst 0, 1) := by decide +kernel
theorem dd_X11_lady_9 : decode mb_X11_lady 9 = .ok (.sipush 999, 3) := by decide +kernel
theorem dd_X11_lady_12 : decode mb_X11_lady 12 = .ok (.invokestatic 59, 3) := by decide +kernel
theorem dd_X11_lady_15 : decode mb_X11_lady 15 = .ok (.ifCond .ne 10, 3) := by decide +kernel
theorem dd_X11_lady_18 : decode mb_X11_lady 18 = .ok (.aload_n 0, 1) := by decide +kernel
theorem dd_X11_lady_19 : decode mb_X11_lady 19 = .ok (.bipush (-2), 2) := by decide +kernel
theorem dd_X11_lady_21 : decode mb_X11_lady 21 = .ok (.invokevirtual 63, 3) := by decide +kernel
theorem dd_X11_lady_24 : decode mb_X11_lady 24 = .ok (.ireturn, 1) := by decide +kernel
theorem dd_X11_lady_25 : decode mb_X11_lady 25 = .ok (.aload_n 0, 1) := by decide +kernel
theorem dd_X11_lady_26 : decode mb_X11_lady 26 = .ok (.getfield 29, 3) := by decide +kernel
theorem dd_X11_lady_29 : decode mb_X11_lady 29 = .ok (.getfield 168, 3) := by decide +kernel
theorem dd_X11_lady_32 : decode mb_X11_lady 32 = .ok (.getfield 172, 3) := by decide +kernel
theorem dd_X11_lady_35 : decode mb_X11_lady 35 = .ok (.iconst 5, 1) := by decide +kernel
theorem dd_X11_lady_36 : decode mb_X11_lady 36 = .ok (.if_icmp .lt 10, 3) := by decide +kernel
theorem dd_X11_lady_46 : decode mb_X11_lady 46 = .ok (.aload_n 0, 1) := by decide +kernel
theorem dd_X11_lady_47 : decode mb_X11_lady 47 = .ok (.getfield 29, 3) := by decide +kernel
theorem dd_X11_lady_50 : decode mb_X11_lady 50 = .ok (.getfield 168, 3) := by decide +kernel
theorem dd_X11_lady_53 : decode mb_X11_lady 53 = .ok (.iload_n 1, 1) := by decide +kernel
theorem dd_X11_lady_54 : decode mb_X11_lady 54 = .ok (.iload_n 2, 1) := by decide +kernel
theorem dd_X11_lady_55 : decode mb_X11_lady 55 = .ok (.invokevirtual 175, 3) := by decide +kernel
theorem dd_X11_lady_58 : decode mb_X11_lady 58 = .ok (.ireturn, 1) := by decide +kernel
theorem dd_X11_laid_0 : decode mb_X11_laid 0 = .ok (.iload_n 1, 1) := by decide +kernel
theorem dd_X11_laid_1 : decode mb_X11_laid 1 = .ok (.iconst 1, 1) := by decide +kernel
theorem dd_X11_laid_2 : decode mb_X11_laid 2 = .ok (.bipush 10, 2) := by decide +kernel
theorem dd_X11_laid_4 : decode mb_X11_laid 4 = .ok (.invokestatic 59, 3) := by decide +kernel
theorem dd_X11_laid_7 : decode mb_X11_laid 7 = .ok (.ifCond .eq 17, 3) := by decide +kernel
theorem dd_X11_laid_10 : decode mb_X11_laid 10 = .ok (.aload_n 0, 1) := by decide +kernel
theorem dd_X11_laid_11 : decode mb_X11_laid 11 = .ok (.getfield 29, 3) := by decide +kernel
theorem dd_X11_laid_14 : decode mb_X11_laid 14 = .ok (.getfield 113, 3) := by decide +kernel
theorem dd_X11_laid_17 : decode mb_X11_laid 17 = .ok (.iload_n 2, 1) := by decide +kernel
theorem dd_X11_laid_18 : decode mb_X11_laid 18 = .ok (.invokevirtual 117, 3) := by decide +kernel
theorem dd_X11_laid_21 : decode mb_X11_laid 21 = .ok (.ifCond .ne 10, 3) := by decide +kernel
theorem dd_X11_laid_24 : decode mb_X11_laid 24 = .ok (.aload_n 0, 1) := by decide +kernel
theorem dd_X11_laid_25 : decode mb_X11_laid 25 = .ok (.bipush (-2), 2) := by decide +kernel
theorem dd_X11_laid_27 : decode mb_X11_laid 27 = .ok (.invokevirtual 63, 3) := by decide +kernel
theorem dd_X11_laid_30 : decode mb_X11_laid 30 = .ok (.ireturn, 1) := by decide +kernel
theorem dd_X11_lawOf_0 : decode mb_X11_lawOf 0 = .ok (.aload_n 0, 1) := by decide +kernel
theorem dd_X11_lawOf_1 : decode mb_X11_lawOf 1 = .ok (.getfield 29, 3) := by decide +kernel
theorem dd_X11_lawOf_4 : decode mb_X11_lawOf 4 = .ok (.getfield 178, 3) := by decide +kernel
theorem dd_X11_lawOf_7 : decode mb_X11_lawOf 7 = .ok (.iload_n 1, 1) := by decide +kernel
theorem dd_X11_lawOf_8 : decode mb_X11_lawOf 8 = .ok (.invokevirtual 182, 3) := by decide +kernel
theorem dd_X11_lawOf_11 : decode mb_X11_lawOf 11 = .ok (.ifCond .eq 12, 3) := by decide +kernel
theorem dd_X11_lawOf_23 : decode mb_X11_lawOf 23 = .ok (.aload_n 0, 1) := by decide +kernel
theorem dd_X11_lawOf_24 : decode mb_X11_lawOf 24 = .ok (.bipush (-2), 2) := by decide +kernel
theorem dd_X11_lawOf_26 : decode mb_X11_lawOf 26 = .ok (.invokevirtual 63, 3) := by decide +kernel
theorem dd_X11_lawOf_29 : decode mb_X11_lawOf 29 = .ok (.ireturn, 1) := by decide +kernel
theorem dd_X11_longest_0 : decode mb_X11_longest 0 = .ok (.aload_n 0, 1) := by decide +kernel
theorem dd_X11_longest_1 : decode mb_X11_longest 1 = .ok (.getfield 29, 3) := by decide +kernel
theorem dd_X11_longest_4 : decode mb_X11_longest 4 = .ok (.getfield 321, 3) := by decide +kernel
theorem dd_X11_longest_7 : decode mb_X11_longest 7 = .ok (.invokevirtual 336, 3) := by decide +kernel
theorem dd_X11_longest_10 : decode mb_X11_longest 10 = .ok (.ireturn, 1) := by decide +kernel
theorem dd_X11_looks_0 : decode mb_X11_looks 0 = .ok (.iload_n 1, 1) := by decide +kernel
theorem dd_X11_looks_1 : decode mb_X11_looks 1 = .ok (.invokestatic 339, 3) := by decide +kernel
theorem dd_X11_looks_4 : decode mb_X11_looks 4 = .ok (.ifCond .eq 13, 3) := by decide +kernel
theorem dd_X11_looks_7 : decode mb_X11_looks 7 = .ok (.iload_n 2, 1) := by decide +kernel
theorem dd_X11_looks_8 : decode mb_X11_looks 8 = .ok (.iconst 0, 1) := by decide +kernel
theorem dd_X11_looks_9 : decode mb_X11_looks 9 = .ok (.bipush 31, 2) := by decide +kernel
theorem dd_X11_looks_11 : decode mb_X11_looks 11 = .ok (.invokestatic 59, 3) := by decide +kernel
theorem dd_X11_looks_14 : decode mb_X11_looks 14 = .ok (.ifCond .ne 10, 3) := by decide +kernel
theorem dd_X11_looks_17 : decode mb_X11_looks 17 = .ok (.aload_n 0, 1) := by decide +kernel
theorem dd_X11_looks_18 : decode mb_X11_looks 18 = .ok (.bipush (-2), 2) := by decide +kernel
theorem dd_X11_looks_20 : decode mb_X11_looks 20 = .ok (.invokevirtual 63, 3) := by decide +kernel
theorem dd_X11_looks_23 : decode mb_X11_looks 23 = .ok (.ireturn, 1) := by decide +kernel
theorem dd_X11_looks_24 : decode mb_X11_looks 24 = .ok (.aload_n 0, 1) := by decide +kernel
theorem dd_X11_looks_25 : decode mb_X11_looks 25 = .ok (.getfield 29, 3) := by decide +kernel
theorem dd_X11_looks_28 : decode mb_X11_looks 28 = .ok (.getfield 342, 3) := by decide +kernel
theorem dd_X11_looks_31 : decode mb_X11_looks 31 = .ok (.getfield 350, 3) := by decide +kernel
theorem dd_X11_looks_34 : decode mb_X11_looks 34 = .ok (.iload_n 1, 1) := by decide +kernel
theorem dd_X11_looks_35 : decode mb_X11_looks 35 = .ok (.iaload, 1) := by decide +kernel
theorem dd_X11_looks_36 : decode mb_X11_looks 36 = .ok (.istore_n 3, 1) := by decide +kernel
theorem dd_X11_looks_37 : decode mb_X11_looks 37 = .ok (.aload_n 0, 1) := by decide +kernel
theorem dd_X11_looks_38 : decode mb_X11_looks 38 = .ok (.getfield 29, 3) := by decide +kernel
theorem dd_X11_looks_41 : decode mb_X11_looks 41 = .ok (.getfield 342, 3) := by decide +kernel
theorem dd_X11_looks_44 : decode mb_X11_looks 44 = .ok (.getfield 350, 3) := by decide +kernel
theorem dd_X11_looks_47 : decode mb_X11_looks 47 = .ok (.iload_n 1, 1) := by decide +kernel
theorem dd_X11_looks_48 : decode mb_X11_looks 48 = .ok (.iload_n 2, 1) := by decide +kernel
theorem dd_X11_looks_49 : decode mb_X11_looks 49 = .ok (.iastore, 1) := by decide +kernel
theorem dd_X11_looks_50 : decode mb_X11_looks 50 = .ok (.iload_n 3, 1) := by decide +kernel
theorem dd_X11_looks_51 : decode mb_X11_looks 51 = .ok (.ireturn, 1) := by decide +kernel
theorem dd_X11_loses_0 : decode mb_X11_loses 0 = .ok (.aload_n 0, 1) := by decide +kernel
theorem dd_X11_loses_1 : decode mb_X11_loses 1 = .ok (.getfield 29, 3) := by decide +kernel
theorem dd_X11_loses_4 : decode mb_X11_loses 4 = .ok (.getfield 168, 3) := by decide +kernel
theorem dd_X11_loses_7 : decode mb_X11_loses 7 = .ok (.iload_n 1, 1) := by decide +kernel
theorem dd_X11_loses_8 : decode mb_X11_loses 8 = .ok (.invokevirtual 177, 3) := by decide +kernel
theorem dd_X11_loses_11 : decode mb_X11_loses 11 = .ok (.ifCond .eq 10, 3) := by decide +kernel
theorem dd_X11_loses_21 : decode mb_X11_loses 21 = .ok (.aload_n 0, 1) := by decide +kernel
theorem dd_X11_loses_22 : decode mb_X11_loses 22 = .ok (.bipush (-2), 2) := by decide +kernel
theorem dd_X11_loses_24 : decode mb_X11_loses 24 = .ok (.invokevirtual 63, 3) := by decide +kernel
theorem dd_X11_loses_27 : decode mb_X11_loses 27 = .ok (.ireturn, 1) := by decide +kernel
theorem dd_X11_mark_0 : decode mb_X11_mark 0 = .ok (.aload_n 0, 1) := by decide +kernel
theorem dd_X11_mark_1 : decode mb_X11_mark 1 = .ok (.getfield 29, 3) := by decide +kernel
theorem dd_X11_mark_4 : decode mb_X11_mark 4 = .ok (.getfield 113, 3) := by decide +kernel
theorem dd_X11_mark_7 : decode mb_X11_mark 7 = .ok (.iload_n 1, 1) := by decide +kernel
theorem dd_X11_mark_8 : decode mb_X11_mark 8 = .ok (.invokevirtual 117, 3) := by decide +kernel
theorem dd_X11_mark_11 : decode mb_X11_mark 11 = .ok (.ifCond .eq 19, 3) := by decide +kernel
theorem dd_X11_mark_30 : decode mb_X11_mark 30 = .ok (.aload_n 0, 1) := by decide +kernel
theorem dd_X11_mark_31 : decode mb_X11_mark 31 = .ok (.bipush (-2), 2) := by decide +kernel
theorem dd_X11_mark_33 : decode mb_X11_mark 33 = .ok (.invokevirtual 63, 3) := by decide +kernel
theorem dd_X11_mark_36 : decode mb_X11_mark 36 = .ok (.ireturn, 1) := by decide +kernel
theorem dd_X11_morning_0 : decode mb_X11_morning 0 = .ok (.aload_n 0, 1) := by decide +kernel
theorem dd_X11_morning_1 : decode mb_X11_morning 1 = .ok (.getfield 29, 3) := by decide +kernel
theorem dd_X11_morning_4 : decode mb_X11_morning 4 = .ok (.getfield 282, 3) := by decide +kernel
theorem dd_X11_morning_7 : decode mb_X11_morning 7 = .ok (.istore_n 1, 1) := by decide +kernel
theorem dd_X11_morning_8 : decode mb_X11_morning 8 = .ok (.aload_n 0, 1) := by decide +kernel
theorem dd_X11_morning_9 : decode mb_X11_morning 9 = .ok (.getfield 29, 3) := by decide +kernel
theorem dd_X11_morning_12 : decode mb_X11_morning 12 = .ok (.iconst 0, 1) := by decide +kernel
theorem dd_X11_morning_13 : decode mb_X11_morning 13 = .ok (.putfield 282, 3) := by decide +kernel
theorem dd_X11_morning_16 : decode mb_X11_morning 16 = .ok (.aload_n 0, 1) := by decide +kernel
theorem dd_X11_morning_17 : decode mb_X11_morning 17 = .ok (.getfield 29, 3) := by decide +kernel
theorem dd_X11_morning_20 : decode mb_X11_morning 20 = .ok (.iconst 0, 1) := by decide +kernel
theorem dd_X11_morning_21 : decode mb_X11_morning 21 = .ok (.putfield 293, 3) := by decide +kernel
theorem dd_X11_morning_24 : decode mb_X11_morning 24 = .ok (.iload_n 1, 1) := by decide +kernel
theorem dd_X11_morning_25 : decode mb_X11_morning 25 = .ok (.ireturn, 1) := by decide +kernel
theorem dd_X11_price_0 : decode mb_X11_price 0 = .ok (.aload_n 0, 1) := by decide +kernel
theorem dd_X11_price_1 : decode mb_X11_price 1 = .ok (.getfield 29, 3) := by decide +kernel
theorem dd_X11_price_4 : decode mb_X11_price 4 = .ok (.getfield 168, 3) := by decide +kernel
theorem dd_X11_price_7 : decode mb_X11_price 7 = .ok (.iload_n 1, 1) := by decide +kernel
theorem dd_X11_price_8 : decode mb_X11_price 8 = .ok (.invokevirtual 177, 3) := by decide +kernel
theorem dd_X11_price_11 : decode mb_X11_price 11 = .ok (.ifCond .eq 10, 3) := by decide +kernel
theorem dd_X11_price_21 : decode mb_X11_price 21 = .ok (.aload_n 0, 1) := by decide +kernel
theorem dd_X11_price_22 : decode mb_X11_price 22 = .ok (.bipush (-2), 2) := by decide +kernel
theorem dd_X11_price_24 : decode mb_X11_price 24 = .ok (.invokevirtual 63, 3) := by decide +kernel
theorem dd_X11_price_27 : decode mb_X11_price 27 = .ok (.ireturn, 1) := by decide +kernel
theorem dd_X11_refusalOfRow_0 : decode mb_X11_refusalOfRow 0 = .ok (.iload_n 1, 1) := by decide +kernel
theorem dd_X11_refusalOfRow_1 : decode mb_X11_refusalOfRow 1 = .ok (.invokestatic 55, 3) := by decide +kernel
theorem dd_X11_refusalOfRow_4 : decode mb_X11_refusalOfRow 4 = .ok (.ifCond .ne 6, 3) := by decide +kernel
theorem dd_X11_refusalOfRow_7 : decode mb_X11_refusalOfRow 7 = .ok (.bipush (-2), 2) := by decide +kernel
theorem dd_X11_refusalOfRow_9 : decode mb_X11_refusalOfRow 9 = .ok (.ireturn, 1) := by decide +kernel
theorem dd_X11_refusalOfRow_10 : decode mb_X11_refusalOfRow 10 = .ok (.aload_n 0, 1) := by decide +kernel
theorem dd_X11_refusalOfRow_11 : decode mb_X11_refusalOfRow 11 = .ok (.getfield 11, 3) := by decide +kernel
theorem dd_X11_refusalOfRow_14 : decode mb_X11_refusalOfRow 14 = .ok (.iload_n 1, 1) := by decide +kernel
theorem dd_X11_refusalOfRow_15 : decode mb_X11_refusalOfRow 15 = .ok (.aaload, 1) := by decide +kernel
theorem dd_X11_refusalOfRow_16 : decode mb_X11_refusalOfRow 16 = .ok (.invokevirtual 82, 3) := by decide +kernel
theorem dd_X11_refusalOfRow_19 : decode mb_X11_refusalOfRow 19 = .ok (.ifCond .eq 6, 3) := by decide +kernel
theorem dd_X11_refusalOfRow_25 : decode mb_X11_refusalOfRow 25 = .ok (.aload_n 0, 1) := by decide +kernel
theorem dd_X11_refusalOfRow_26 : decode mb_X11_refusalOfRow 26 = .ok (.getfield 11, 3) := by decide +kernel
theorem dd_X11_refusalOfRow_29 : decode mb_X11_refusalOfRow 29 = .ok (.iload_n 1, 1) := by decide +kernel
theorem dd_X11_refusalOfRow_30 : decode mb_X11_refusalOfRow 30 = .ok (.aaload, 1) := by decide +kernel
theorem dd_X11_refusalOfRow_31 : decode mb_X11_refusalOfRow 31 = .ok (.invokevirtual 92, 3) := by decide +kernel
theorem dd_X11_refusalOfRow_34 : decode mb_X11_refusalOfRow 34 = .ok (.ifCond .eq 8, 3) := by decide +kernel
theorem dd_X11_refusalOfRow_37 : decode mb_X11_refusalOfRow 37 = .ok (.bipush (-4), 2) := by decide +kernel
theorem dd_X11_refusalOfRow_39 : decode mb_X11_refusalOfRow 39 = .ok (.goto 4, 3) := by decide +kernel
theorem dd_X11_refusalOfRow_43 : decode mb_X11_refusalOfRow 43 = .ok (.ireturn, 1) := by decide +kernel
theorem dd_X11_refuse_0 : decode mb_X11_refuse 0 = .ok (.bipush (-2), 2) := by decide +kernel
theorem dd_X11_refuse_2 : decode mb_X11_refuse 2 = .ok (.iload_n 1, 1) := by decide +kernel
theorem dd_X11_refuse_3 : decode mb_X11_refuse 3 = .ok (.isub, 1) := by decide +kernel
theorem dd_X11_refuse_4 : decode mb_X11_refuse 4 = .ok (.istore_n 2, 1) := by decide +kernel
theorem dd_X11_refuse_5 : decode mb_X11_refuse 5 = .ok (.iload_n 2, 1) := by decide +kernel
theorem dd_X11_refuse_6 : decode mb_X11_refuse 6 = .ok (.iconst 0, 1) := by decide +kernel
theorem dd_X11_refuse_7 : decode mb_X11_refuse 7 = .ok (.iconst 4, 1) := by decide +kernel
theorem dd_X11_refuse_8 : decode mb_X11_refuse 8 = .ok (.invokestatic 59, 3) := by decide +kernel
theorem dd_X11_refuse_11 : decode mb_X11_refuse 11 = .ok (.ifCond .eq 13, 3) := by decide +kernel
theorem dd_X11_refuse_14 : decode mb_X11_refuse 14 = .ok (.aload_n 0, 1) := by decide +kernel
theorem dd_X11_refuse_15 : decode mb_X11_refuse 15 = .ok (.getfield 15, 3) := by decide +kernel
theorem dd_X11_refuse_18 : decode mb_X11_refuse 18 = .ok (.iload_n 2, 1) := by decide +kernel
theorem dd_X11_refuse_19 : decode mb_X11_refuse 19 = .ok (.dup2, 1) := by decide +kernel
theorem dd_X11_refuse_20 : decode mb_X11_refuse 20 = .ok (.iaload, 1) := by decide +kernel
theorem dd_X11_refuse_21 : decode mb_X11_refuse 21 = .ok (.iconst 1, 1) := by decide +kernel
theorem dd_X11_refuse_22 : decode mb_X11_refuse 22 = .ok (.iadd, 1) := by decide +kernel
theorem dd_X11_refuse_23 : decode mb_X11_refuse 23 = .ok (.iastore, 1) := by decide +kernel
theorem dd_X11_refuse_24 : decode mb_X11_refuse 24 = .ok (.iload_n 1, 1) := by decide +kernel
theorem dd_X11_refuse_25 : decode mb_X11_refuse 25 = .ok (.ireturn, 1) := by decide +kernel
theorem dd_X11_rest_0 : decode mb_X11_rest 0 = .ok (.iload_n 1, 1) := by decide +kernel
theorem dd_X11_rest_1 : decode mb_X11_rest 1 = .ok (.iconst (-1), 1) := by decide +kernel
theorem dd_X11_rest_2 : decode mb_X11_rest 2 = .ok (.if_icmp .eq 17, 3) := by decide +kernel
theorem dd_X11_rest_5 : decode mb_X11_rest 5 = .ok (.iload_n 1, 1) := by decide +kernel
theorem dd_X11_rest_6 : decode mb_X11_rest 6 = .ok (.invokestatic 122, 3) := by decide +kernel
theorem dd_X11_rest_9 : decode mb_X11_rest 9 = .ok (.ifCond .ne 10, 3) := by decide +kernel
theorem dd_X11_rest_12 : decode mb_X11_rest 12 = .ok (.aload_n 0, 1) := by decide +kernel
theorem dd_X11_rest_13 : decode mb_X11_rest 13 = .ok (.bipush (-2), 2) := by decide +kernel
theorem dd_X11_rest_15 : decode mb_X11_rest 15 = .ok (.invokevirtual 63, 3) := by decide +kernel
theorem dd_X11_rest_18 : decode mb_X11_rest 18 = .ok (.ireturn, 1) := by decide +kernel
theorem dd_X11_rest_19 : decode mb_X11_rest 19 = .ok (.aload_n 0, 1) := by decide +kernel
theorem dd_X11_rest_20 : decode mb_X11_rest 20 = .ok (.getfield 29, 3) := by decide +kernel
theorem dd_X11_rest_23 : decode mb_X11_rest 23 = .ok (.getfield 113, 3) := by decide +kernel
theorem dd_X11_rest_26 : decode mb_X11_rest 26 = .ok (.iload_n 1, 1) := by decide +kernel
theorem dd_X11_rest_27 : decode mb_X11_rest 27 = .ok (.iconst (-1), 1) := by decide +kernel
theorem dd_X11_rest_28 : decode mb_X11_rest 28 = .ok (.if_icmp .ne 8, 3) := by decide +kernel
theorem dd_X11_rest_31 : decode mb_X11_rest 31 = .ok (.bipush 63, 2) := by decide +kernel
theorem dd_X11_rest_33 : decode mb_X11_rest 33 = .ok (.goto 6, 3) := by decide +kernel
theorem dd_X11_rest_36 : decode mb_X11_rest 36 = .ok (.iconst 1, 1) := by decide +kernel
theorem dd_X11_rest_37 : decode mb_X11_rest 37 = .ok (.iload_n 1, 1) := by decide +kernel
theorem dd_X11_rest_38 : decode mb_X11_rest 38 = .ok (.ishl, 1) := by decide +kernel
theorem dd_X11_rest_39 : decode mb_X11_rest 39 = .ok (.invokevirtual 276, 3) := by decide +kernel
theorem dd_X11_rest_42 : decode mb_X11_rest 42 = .ok (.ireturn, 1) := by decide +kernel
theorem dd_X11_row_0 : decode mb_X11_row 0 = .ok (.iload_n 1, 1) := by decide +kernel
theorem dd_X11_row_1 : decode mb_X11_row 1 = .ok (.invokestatic 55, 3) := by decide +kernel
theorem dd_X11_row_4 : decode mb_X11_row 4 = .ok (.ifCond .eq 22, 3) := by decide +kernel
theorem dd_X11_row_7 : decode mb_X11_row 7 = .ok (.iload_n 2, 1) := by decide +kernel
theorem dd_X11_row_8 : decode mb_X11_row 8 = .ok (.iconst 0, 1) := by decide +kernel
theorem dd_X11_row_9 : decode mb_X11_row 9 = .ok (.iconst 4, 1) := by decide +kernel
theorem dd_X11_row_10 : decode mb_X11_row 10 = .ok (.invokestatic 59, 3) := by decide +kernel
theorem dd_X11_row_13 : decode mb_X11_row 13 = .ok (.ifCond .eq 13, 3) := by decide +kernel
theorem dd_X11_row_16 : decode mb_X11_row 16 = .ok (.iload_n 3, 1) := by decide +kernel
theorem dd_X11_row_17 : decode mb_X11_row 17 = .ok (.iconst 0, 1) := by decide +kernel
theorem dd_X11_row_18 : decode mb_X11_row 18 = .ok (.bipush 40, 2) := by decide +kernel
theorem dd_X11_row_20 : decode mb_X11_row 20 = .ok (.invokestatic 59, 3) := by decide +kernel
theorem dd_X11_row_23 : decode mb_X11_row 23 = .ok (.ifCond .ne 10, 3) := by decide +kernel
theorem dd_X11_row_26 : decode mb_X11_row 26 = .ok (.aload_n 0, 1) := by decide +kernel
theorem dd_X11_row_27 : decode mb_X11_row 27 = .ok (.bipush (-2), 2) := by decide +kernel
theorem dd_X11_row_29 : decode mb_X11_row 29 = .ok (.invokevirtual 63, 3) := by decide +kernel
theorem dd_X11_row_32 : decode mb_X11_row 32 = .ok (.ireturn, 1) := by decide +kernel
theorem dd_X11_row_33 : decode mb_X11_row 33 = .ok (.aload_n 0, 1) := by decide +kernel
theorem dd_X11_row_34 : decode mb_X11_row 34 = .ok (.getfield 11, 3) := by decide +kernel
theorem dd_X11_row_37 : decode mb_X11_row 37 = .ok (.iload_n 1, 1) := by decide +kernel
theorem dd_X11_row_38 : decode mb_X11_row 38 = .ok (.aaload, 1) := by decide +kernel
theorem dd_X11_row_39 : decode mb_X11_row 39 = .ok (.iload_n 2, 1) := by decide +kernel
theorem dd_X11_row_40 : decode mb_X11_row 40 = .ok (.iload_n 3, 1) := by decide +kernel
theorem dd_X11_row_41 : decode mb_X11_row 41 = .ok (.invokevirtual 67, 3) := by decide +kernel
theorem dd_X11_row_44 : decode mb_X11_row 44 = .ok (.iconst 1, 1) := by decide +kernel
theorem dd_X11_row_45 : decode mb_X11_row 45 = .ok (.ireturn, 1) := by decide +kernel
theorem dd_X11_same_0 : decode mb_X11_same 0 = .ok (.aload_n 0, 1) := by decide +kernel
theorem dd_X11_same_1 : decode mb_X11_same 1 = .ok (.getfield 29, 3) := by decide +kernel
theorem dd_X11_same_4 : decode mb_X11_same 4 = .ok (.getfield 321, 3) := by decide +kernel
theorem dd_X11_same_7 : decode mb_X11_same 7 = .ok (.iload_n 1, 1) := by decide +kernel
theorem dd_X11_same_8 : decode mb_X11_same 8 = .ok (.invokevirtual 329, 3) := by decide +kernel
theorem dd_X11_same_11 : decode mb_X11_same 11 = .ok (.ifCond .eq 17, 3) := by decide +kernel
theorem dd_X11_same_28 : decode mb_X11_same 28 = .ok (.aload_n 0, 1) := by decide +kernel
theorem dd_X11_same_29 : decode mb_X11_same 29 = .ok (.bipush (-2), 2) := by decide +kernel
theorem dd_X11_same_31 : decode mb_X11_same 31 = .ok (.invokevirtual 63, 3) := by decide +kernel
theorem dd_X11_same_34 : decode mb_X11_same 34 = .ok (.ireturn, 1) := by decide +kernel
theorem dd_X11_says_0 : decode mb_X11_says 0 = .ok (.iload_n 1, 1) := by decide +kernel
theorem dd_X11_says_1 : decode mb_X11_says 1 = .ok (.invokestatic 55, 3) := by decide +kernel
theorem dd_X11_says_4 : decode mb_X11_says 4 = .ok (.ifCond .eq 10, 3) := by decide +kernel
theorem dd_X11_says_7 : decode mb_X11_says 7 = .ok (.iload_n 2, 1) := by decide +kernel
theorem dd_X11_says_8 : decode mb_X11_says 8 = .ok (.invokestatic 122, 3) := by decide +kernel
theorem dd_X11_says_11 : decode mb_X11_says 11 = .ok (.ifCond .ne 10, 3) := by decide +kernel
theorem dd_X11_says_14 : decode mb_X11_says 14 = .ok (.aload_n 0, 1) := by decide +kernel
theorem dd_X11_says_15 : decode mb_X11_says 15 = .ok (.bipush (-2), 2) := by decide +kernel
theorem dd_X11_says_17 : decode mb_X11_says 17 = .ok (.invokevirtual 63, 3) := by decide +kernel
theorem dd_X11_says_20 : decode mb_X11_says 20 = .ok (.ireturn, 1) := by decide +kernel
theorem dd_X11_says_21 : decode mb_X11_says 21 = .ok (.aload_n 0, 1) := by decide +kernel
theorem dd_X11_says_22 : decode mb_X11_says 22 = .ok (.getfield 11, 3) := by decide +kernel
theorem dd_X11_says_25 : decode mb_X11_says 25 = .ok (.iload_n 1, 1) := by decide +kernel
theorem dd_X11_says_26 : decode mb_X11_says 26 = .ok (.aaload, 1) := by decide +kernel
theorem dd_X11_says_27 : decode mb_X11_says 27 = .ok (.astore_n 3, 1) := by decide +kernel
theorem dd_X11_says_28 : decode mb_X11_says 28 = .ok (.aload_n 3, 1) := by decide +kernel
theorem dd_X11_says_29 : decode mb_X11_says 29 = .ok (.invokevirtual 92, 3) := by decide +kernel
theorem dd_X11_says_32 : decode mb_X11_says 32 = .ok (.ifCond .eq 10, 3) := by decide +kernel
theorem dd_X11_says_35 : decode mb_X11_says 35 = .ok (.aload_n 0, 1) := by decide +kernel
theorem dd_X11_says_36 : decode mb_X11_says 36 = .ok (.bipush (-4), 2) := by decide +kernel
theorem dd_X11_says_38 : decode mb_X11_says 38 = .ok (.invokevirtual 63, 3) := by decide +kernel
theorem dd_X11_says_41 : decode mb_X11_says 41 = .ok (.ireturn, 1) := by decide +kernel
theorem dd_X11_secret_0 : decode mb_X11_secret 0 = .ok (.aload_n 0, 1) := by decide +kernel
theorem dd_X11_secret_1 : decode mb_X11_secret 1 = .ok (.getfield 29, 3) := by decide +kernel
theorem dd_X11_secret_4 : decode mb_X11_secret 4 = .ok (.getfield 113, 3) := by decide +kernel
theorem dd_X11_secret_7 : decode mb_X11_secret 7 = .ok (.iload_n 1, 1) := by decide +kernel
theorem dd_X11_secret_8 : decode mb_X11_secret 8 = .ok (.invokevirtual 117, 3) := by decide +kernel
theorem dd_X11_secret_11 : decode mb_X11_secret 11 = .ok (.ifCond .eq 10, 3) := by decide +kernel
theorem dd_X11_secret_21 : decode mb_X11_secret 21 = .ok (.aload_n 0, 1) := by decide +kernel
theorem dd_X11_secret_22 : decode mb_X11_secret 22 = .ok (.bipush (-2), 2) := by decide +kernel
theorem dd_X11_secret_24 : decode mb_X11_secret 24 = .ok (.invokevirtual 63, 3) := by decide +kernel
theorem dd_X11_secret_27 : decode mb_X11_secret 27 = .ok (.ireturn, 1) := by decide +kernel
theorem dd_X11_set_0 : decode mb_X11_set 0 = .ok (.aload_n 0, 1) := by decide +kernel
theorem dd_X11_set_1 : decode mb_X11_set 1 = .ok (.iload_n 1, 1) := by decide +kernel
theorem dd_X11_set_2 : decode mb_X11_set 2 = .ok (.invokevirtual 71, 3) := by decide +kernel
theorem dd_X11_set_5 : decode mb_X11_set 5 = .ok (.istore 5, 2) := by decide +kernel
theorem dd_X11_set_7 : decode mb_X11_set 7 = .ok (.iload 5, 2) := by decide +kernel
theorem dd_X11_set_9 : decode mb_X11_set 9 = .ok (.ifCond .eq 10, 3) := by decide +kernel
theorem dd_X11_set_12 : decode mb_X11_set 12 = .ok (.aload_n 0, 1) := by decide +kernel
theorem dd_X11_set_13 : decode mb_X11_set 13 = .ok (.iload 5, 2) := by decide +kernel
theorem dd_X11_set_15 : decode mb_X11_set 15 = .ok (.invokevirtual 63, 3) := by decide +kernel
theorem dd_X11_set_18 : decode mb_X11_set 18 = .ok (.ireturn, 1) := by decide +kernel
theorem dd_X11_shelvesInUse_0 : decode mb_X11_shelvesInUse 0 = .ok (.iconst 0, 1) := by decide +kernel
theorem dd_X11_shelvesInUse_1 : decode mb_X11_shelvesInUse 1 = .ok (.istore_n 1, 1) := by decide +kernel
theorem dd_X11_shelvesInUse_2 : decode mb_X11_shelvesInUse 2 = .ok (.iconst 0, 1) := by decide +kernel
theorem dd_X11_shelvesInUse_3 : decode mb_X11_shelvesInUse 3 = .ok (.istore_n 2, 1) := by decide +kernel
theorem dd_X11_shelvesInUse_4 : decode mb_X11_shelvesInUse 4 = .ok (.iload_n 2, 1) := by decide +kernel
theorem dd_X11_shelvesInUse_5 : decode mb_X11_shelvesInUse 5 = .ok (.bipush 8, 2) := by decide +kernel
theorem dd_X11_shelvesInUse_7 : decode mb_X11_shelvesInUse 7 = .ok (.if_icmp .ge 24, 3) := by decide +kernel
theorem dd_X11_shelvesInUse_10 : decode mb_X11_shelvesInUse 10 = .ok (.aload_n 0, 1) := by decide +kernel
theorem dd_X11_shelvesInUse_11 : decode mb_X11_shelvesInUse 11 = .ok (.getfield 11, 3) := by decide +kernel
theorem dd_X11_shelvesInUse_14 : decode mb_X11_shelvesInUse 14 = .ok (.iload_n 2, 1) := by decide +kernel
theorem dd_X11_shelvesInUse_15 : decode mb_X11_shelvesInUse 15 = .ok (.aaload, 1) := by decide +kernel
theorem dd_X11_shelvesInUse_16 : decode mb_X11_shelvesInUse 16 = .ok (.invokevirtual 92, 3) := by decide +kernel
theorem dd_X11_shelvesInUse_19 : decode mb_X11_shelvesInUse 19 = .ok (.ifCond .ne 6, 3) := by decide +kernel
theorem dd_X11_shelvesInUse_25 : decode mb_X11_shelvesInUse 25 = .ok (.iinc 2 1, 3) := by decide +kernel
theorem dd_X11_shelvesInUse_28 : decode mb_X11_shelvesInUse 28 = .ok (.goto (-24), 3) := by decide +kernel
theorem dd_X11_shelvesInUse_31 : decode mb_X11_shelvesInUse 31 = .ok (.iload_n 1, 1) := by decide +kernel
theorem dd_X11_shelvesInUse_32 : decode mb_X11_shelvesInUse 32 = .ok (.ireturn, 1) := by decide +kernel
theorem dd_X11_shortBy_0 : decode mb_X11_shortBy 0 = .ok (.iload_n 1, 1) := by decide +kernel
theorem dd_X11_shortBy_1 : decode mb_X11_shortBy 1 = .ok (.iconst 1, 1) := by decide +kernel
theorem dd_X11_shortBy_2 : decode mb_X11_shortBy 2 = .ok (.sipush 9999, 3) := by decide +kernel
theorem dd_X11_shortBy_5 : decode mb_X11_shortBy 5 = .ok (.invokestatic 59, 3) := by decide +kernel
theorem dd_X11_shortBy_8 : decode mb_X11_shortBy 8 = .ok (.ifCond .ne 10, 3) := by decide +kernel
theorem dd_X11_shortBy_11 : decode mb_X11_shortBy 11 = .ok (.aload_n 0, 1) := by decide +kernel
theorem dd_X11_shortBy_12 : decode mb_X11_shortBy 12 = .ok (.bipush (-2), 2) := by decide +kernel
theorem dd_X11_shortBy_14 : decode mb_X11_shortBy 14 = .ok (.invokevirtual 63, 3) := by decide +kernel
theorem dd_X11_shortBy_17 : decode mb_X11_shortBy 17 = .ok (.ireturn, 1) := by decide +kernel
theorem dd_X11_shortBy_18 : decode mb_X11_shortBy 18 = .ok (.aload_n 0, 1) := by decide +kernel
theorem dd_X11_shortBy_19 : decode mb_X11_shortBy 19 = .ok (.getfield 46, 3) := by decide +kernel
theorem dd_X11_shortBy_22 : decode mb_X11_shortBy 22 = .ok (.aload_n 0, 1) := by decide +kernel
theorem dd_X11_shortBy_23 : decode mb_X11_shortBy 23 = .ok (.getfield 29, 3) := by decide +kernel
theorem dd_X11_shortBy_26 : decode mb_X11_shortBy 26 = .ok (.getfield 113, 3) := by decide +kernel
theorem dd_X11_shortBy_29 : decode mb_X11_shortBy 29 = .ok (.iload_n 1, 1) := by decide +kernel
theorem dd_X11_shortBy_30 : decode mb_X11_shortBy 30 = .ok (.invokevirtual 359, 3) := by decide +kernel
theorem dd_X11_shortBy_33 : decode mb_X11_shortBy 33 = .ok (.ireturn, 1) := by decide +kernel
theorem dd_X11_show_0 : decode mb_X11_show 0 = .ok (.iload_n 1, 1) := by decide +kernel
theorem dd_X11_show_1 : decode mb_X11_show 1 = .ok (.invokestatic 55, 3) := by decide +kernel
theorem dd_X11_show_4 : decode mb_X11_show 4 = .ok (.ifCond .eq 22, 3) := by decide +kernel
theorem dd_X11_show_7 : decode mb_X11_show 7 = .ok (.iload_n 2, 1) := by decide +kernel
theorem dd_X11_show_8 : decode mb_X11_show 8 = .ok (.iconst (-1), 1) := by decide +kernel
theorem dd_X11_show_9 : decode mb_X11_show 9 = .ok (.if_icmp .eq 24, 3) := by decide +kernel
theorem dd_X11_show_12 : decode mb_X11_show 12 = .ok (.aload_n 0, 1) := by decide +kernel
theorem dd_X11_show_13 : decode mb_X11_show 13 = .ok (.getfield 29, 3) := by decide +kernel
theorem dd_X11_show_16 : decode mb_X11_show 16 = .ok (.getfield 113, 3) := by decide +kernel
theorem dd_X11_show_19 : decode mb_X11_show 19 = .ok (.iload_n 2, 1) := by decide +kernel
theorem dd_X11_show_20 : decode mb_X11_show 20 = .ok (.invokevirtual 117, 3) := by decide +kernel
theorem dd_X11_show_23 : decode mb_X11_show 23 = .ok (.ifCond .ne 10, 3) := by decide +kernel
theorem dd_X11_show_26 : decode mb_X11_show 26 = .ok (.aload_n 0, 1) := by decide +kernel
theorem dd_X11_show_27 : decode mb_X11_show 27 = .ok (.bipush (-2), 2) := by decide +kernel
theorem dd_X11_show_29 : decode mb_X11_show 29 = .ok (.invokevirtual 63, 3) := by decide +kernel
theorem dd_X11_show_32 : decode mb_X11_show 32 = .ok (.ireturn, 1) := by decide +kernel
theorem dd_X11_show_33 : decode mb_X11_show 33 = .ok (.aload_n 0, 1) := by decide +kernel
theorem dd_X11_show_34 : decode mb_X11_show 34 = .ok (.getfield 11, 3) := by decide +kernel
theorem dd_X11_show_37 : decode mb_X11_show 37 = .ok (.iload_n 1, 1) := by decide +kernel
theorem dd_X11_show_38 : decode mb_X11_show 38 = .ok (.aaload, 1) := by decide +kernel
theorem dd_X11_show_39 : decode mb_X11_show 39 = .ok (.iload_n 2, 1) := by decide +kernel
theorem dd_X11_show_40 : decode mb_X11_show 40 = .ok (.iconst (-1), 1) := by decide +kernel
theorem dd_X11_show_41 : decode mb_X11_show 41 = .ok (.if_icmp .ne 7, 3) := by decide +kernel
theorem dd_X11_show_44 : decode mb_X11_show 44 = .ok (.iconst (-1), 1) := by decide +kernel
theorem dd_X11_show_45 : decode mb_X11_show 45 = .ok (.goto 7, 3) := by decide +kernel
theorem dd_X11_show_52 : decode mb_X11_show 52 = .ok (.putfield 89, 3) := by decide +kernel
theorem dd_X11_show_55 : decode mb_X11_show 55 = .ok (.iconst 1, 1) := by decide +kernel
theorem dd_X11_show_56 : decode mb_X11_show 56 = .ok (.ireturn, 1) := by decide +kernel
theorem dd_X11_shown_0 : decode mb_X11_shown 0 = .ok (.iload_n 1, 1) := by decide +kernel
theorem dd_X11_shown_1 : decode mb_X11_shown 1 = .ok (.iconst 0, 1) := by decide +kernel
theorem dd_X11_shown_2 : decode mb_X11_shown 2 = .ok (.sipush 200, 3) := by decide +kernel
theorem dd_X11_shown_5 : decode mb_X11_shown 5 = .ok (.invokestatic 59, 3) := by decide +kernel
theorem dd_X11_shown_8 : decode mb_X11_shown 8 = .ok (.ifCond .ne 10, 3) := by decide +kernel
theorem dd_X11_shown_11 : decode mb_X11_shown 11 = .ok (.aload_n 0, 1) := by decide +kernel
theorem dd_X11_shown_12 : decode mb_X11_shown 12 = .ok (.bipush (-2), 2) := by decide +kernel
theorem dd_X11_shown_14 : decode mb_X11_shown 14 = .ok (.invokevirtual 63, 3) := by decide +kernel
theorem dd_X11_shown_17 : decode mb_X11_shown 17 = .ok (.ireturn, 1) := by decide +kernel
theorem dd_X11_shown_18 : decode mb_X11_shown 18 = .ok (.aload_n 0, 1) := by decide +kernel
theorem dd_X11_shown_19 : decode mb_X11_shown 19 = .ok (.getfield 46, 3) := by decide +kernel
theorem dd_X11_shown_22 : decode mb_X11_shown 22 = .ok (.aload_n 0, 1) := by decide +kernel
theorem dd_X11_shown_23 : decode mb_X11_shown 23 = .ok (.getfield 29, 3) := by decide +kernel
theorem dd_X11_shown_26 : decode mb_X11_shown 26 = .ok (.getfield 113, 3) := by decide +kernel
theorem dd_X11_shown_29 : decode mb_X11_shown 29 = .ok (.iload_n 1, 1) := by decide +kernel
theorem dd_X11_shown_30 : decode mb_X11_shown 30 = .ok (.invokevirtual 299, 3) := by decide +kernel
theorem dd_X11_shown_33 : decode mb_X11_shown 33 = .ok (.ireturn, 1) := by decide +kernel
theorem dd_X11_sight_0 : decode mb_X11_sight 0 = .ok (.iload_n 1, 1) := by decide +kernel
theorem dd_X11_sight_1 : decode mb_X11_sight 1 = .ok (.iconst 0, 1) := by decide +kernel
theorem dd_X11_sight_2 : decode mb_X11_sight 2 = .ok (.bipush 99, 2) := by decide +kernel
theorem dd_X11_sight_4 : decode mb_X11_sight 4 = .ok (.invokestatic 59, 3) := by decide +kernel
theorem dd_X11_sight_7 : decode mb_X11_sight 7 = .ok (.ifCond .eq 29, 3) := by decide +kernel
theorem dd_X11_sight_10 : decode mb_X11_sight 10 = .ok (.iload_n 2, 1) := by decide +kernel
theorem dd_X11_sight_11 : decode mb_X11_sight 11 = .ok (.iconst 0, 1) := by decide +kernel
theorem dd_X11_sight_12 : decode mb_X11_sight 12 = .ok (.sipush 255, 3) := by decide +kernel
theorem dd_X11_sight_15 : decode mb_X11_sight 15 = .ok (.invokestatic 59, 3) := by decide +kernel
theorem dd_X11_sight_18 : decode mb_X11_sight 18 = .ok (.ifCond .eq 18, 3) := by decide +kernel
theorem dd_X11_sight_21 : decode mb_X11_sight 21 = .ok (.iload_n 3, 1) := by decide +kernel
theorem dd_X11_sight_22 : decode mb_X11_sight 22 = .ok (.invokestatic 318, 3) := by decide +kernel
theorem dd_X11_sight_25 : decode mb_X11_sight 25 = .ok (.ifCond .eq 11, 3) := by decide +kernel
theorem dd_X11_sight_28 : decode mb_X11_sight 28 = .ok (.iload 4, 2) := by decide +kernel
theorem dd_X11_sight_30 : decode mb_X11_sight 30 = .ok (.invokestatic 318, 3) := by decide +kernel
theorem dd_X11_sight_33 : decode mb_X11_sight 33 = .ok (.ifCond .ne 10, 3) := by decide +kernel
theorem dd_X11_sight_36 : decode mb_X11_sight 36 = .ok (.aload_n 0, 1) := by decide +kernel
theorem dd_X11_sight_37 : decode mb_X11_sight 37 = .ok (.bipush (-2), 2) := by decide +kernel
theorem dd_X11_sight_39 : decode mb_X11_sight 39 = .ok (.invokevirtual 63, 3) := by decide +kernel
theorem dd_X11_sight_42 : decode mb_X11_sight 42 = .ok (.ireturn, 1) := by decide +kernel
theorem dd_X11_sight_43 : decode mb_X11_sight 43 = .ok (.aload_n 0, 1) := by decide +kernel
theorem dd_X11_sight_44 : decode mb_X11_sight 44 = .ok (.getfield 29, 3) := by decide +kernel
theorem dd_X11_sight_47 : decode mb_X11_sight 47 = .ok (.getfield 321, 3) := by decide +kernel
theorem dd_X11_sight_50 : decode mb_X11_sight 50 = .ok (.getfield 325, 3) := by decide +kernel
theorem dd_X11_sight_53 : decode mb_X11_sight 53 = .ok (.bipush 20, 2) := by decide +kernel
theorem dd_X11_sight_55 : decode mb_X11_sight 55 = .ok (.if_icmp .lt 10, 3) := by decide +kernel
theorem dd_X11_sight_65 : decode mb_X11_sight 65 = .ok (.aload_n 0, 1) := by decide +kernel
theorem dd_X11_sight_66 : decode mb_X11_sight 66 = .ok (.getfield 29, 3) := by decide +kernel
theorem dd_X11_sight_69 : decode mb_X11_sight 69 = .ok (.getfield 321, 3) := by decide +kernel
theorem dd_X11_sight_72 : decode mb_X11_sight 72 = .ok (.iload_n 1, 1) := by decide +kernel
theorem dd_X11_sight_73 : decode mb_X11_sight 73 = .ok (.iload_n 2, 1) := by decide +kernel
theorem dd_X11_sight_74 : decode mb_X11_sight 74 = .ok (.iload_n 3, 1) := by decide +kernel
theorem dd_X11_sight_75 : decode mb_X11_sight 75 = .ok (.iload 4, 2) := by decide +kernel
theorem dd_X11_sight_77 : decode mb_X11_sight 77 = .ok (.invokevirtual 328, 3) := by decide +kernel
theorem dd_X11_sight_80 : decode mb_X11_sight 80 = .ok (.ireturn, 1) := by decide +kernel
theorem dd_X11_status_0 : decode mb_X11_status 0 = .ok (.iload_n 1, 1) := by decide +kernel
theorem dd_X11_status_1 : decode mb_X11_status 1 = .ok (.tableswitch 138 0 8 #[51, 62, 73, 84, 95, 103, 114, 125, 133], 51) := by decide +kernel
theorem dd_X11_status_52 : decode mb_X11_status 52 = .ok (.aload_n 0, 1) := by decide +kernel
theorem dd_X11_status_53 : decode mb_X11_status 53 = .ok (.getfield 29, 3) := by decide +kernel
theorem dd_X11_status_56 : decode mb_X11_status 56 = .ok (.getfield 113, 3) := by decide +kernel
theorem dd_X11_status_59 : decode mb_X11_status 59 = .ok (.getfield 132, 3) := by decide +kernel
theorem dd_X11_status_62 : decode mb_X11_status 62 = .ok (.ireturn, 1) := by decide +kernel
theorem dd_X11_status_63 : decode mb_X11_status 63 = .ok (.aload_n 0, 1) := by decide +kernel
theorem dd_X11_status_64 : decode mb_X11_status 64 = .ok (.getfield 29, 3) := by decide +kernel
theorem dd_X11_status_67 : decode mb_X11_status 67 = .ok (.getfield 168, 3) := by decide +kernel
theorem dd_X11_status_70 : decode mb_X11_status 70 = .ok (.getfield 172, 3) := by decide +kernel
theorem dd_X11_status_73 : decode mb_X11_status 73 = .ok (.ireturn, 1) := by decide +kernel
theorem dd_X11_status_74 : decode mb_X11_status 74 = .ok (.aload_n 0, 1) := by decide +kernel
theorem dd_X11_status_75 : decode mb_X11_status 75 = .ok (.getfield 29, 3) := by decide +kernel
theorem dd_X11_status_78 : decode mb_X11_status 78 = .ok (.getfield 178, 3) := by decide +kernel
theorem dd_X11_status_81 : decode mb_X11_status 81 = .ok (.getfield 192, 3) := by decide +kernel
theorem dd_X11_status_84 : decode mb_X11_status 84 = .ok (.ireturn, 1) := by decide +kernel
theorem dd_X11_status_85 : decode mb_X11_status 85 = .ok (.aload_n 0, 1) := by decide +kernel
theorem dd_X11_status_86 : decode mb_X11_status 86 = .ok (.getfield 29, 3) := by decide +kernel
theorem dd_X11_status_89 : decode mb_X11_status 89 = .ok (.getfield 219, 3) := by decide +kernel
theorem dd_X11_status_92 : decode mb_X11_status 92 = .ok (.getfield 223, 3) := by decide +kernel
theorem dd_X11_status_95 : decode mb_X11_status 95 = .ok (.ireturn, 1) := by decide +kernel
theorem dd_X11_status_96 : decode mb_X11_status 96 = .ok (.aload_n 0, 1) := by decide +kernel
theorem dd_X11_status_97 : decode mb_X11_status 97 = .ok (.getfield 29, 3) := by decide +kernel
theorem dd_X11_status_100 : decode mb_X11_status 100 = .ok (.getfield 303, 3) := by decide +kernel
theorem dd_X11_status_103 : decode mb_X11_status 103 = .ok (.ireturn, 1) := by decide +kernel
theorem dd_X11_status_104 : decode mb_X11_status 104 = .ok (.aload_n 0, 1) := by decide +kernel
theorem dd_X11_status_105 : decode mb_X11_status 105 = .ok (.getfield 29, 3) := by decide +kernel
theorem dd_X11_status_108 : decode mb_X11_status 108 = .ok (.getfield 321, 3) := by decide +kernel
theorem dd_X11_status_111 : decode mb_X11_status 111 = .ok (.getfield 325, 3) := by decide +kernel
theorem dd_X11_status_114 : decode mb_X11_status 114 = .ok (.ireturn, 1) := by decide +kernel
theorem dd_X11_status_115 : decode mb_X11_status 115 = .ok (.aload_n 0, 1) := by decide +kernel
theorem dd_X11_status_116 : decode mb_X11_status 116 = .ok (.getfield 29, 3) := by decide +kernel
theorem dd_X11_status_119 : decode mb_X11_status 119 = .ok (.getfield 342, 3) := by decide +kernel
theorem dd_X11_status_122 : decode mb_X11_status 122 = .ok (.getfield 346, 3) := by decide +kernel
theorem dd_X11_status_125 : decode mb_X11_status 125 = .ok (.ireturn, 1) := by decide +kernel
theorem dd_X11_status_126 : decode mb_X11_status 126 = .ok (.aload_n 0, 1) := by decide +kernel
theorem dd_X11_status_127 : decode mb_X11_status 127 = .ok (.getfield 22, 3) := by decide +kernel
theorem dd_X11_status_130 : decode mb_X11_status 130 = .ok (.getfield 188, 3) := by decide +kernel
theorem dd_X11_status_133 : decode mb_X11_status 133 = .ok (.ireturn, 1) := by decide +kernel
theorem dd_X11_status_134 : decode mb_X11_status 134 = .ok (.aload_n 0, 1) := by decide +kernel
theorem dd_X11_status_135 : decode mb_X11_status 135 = .ok (.invokevirtual 372, 3) := by decide +kernel
theorem dd_X11_status_138 : decode mb_X11_status 138 = .ok (.ireturn, 1) := by decide +kernel
theorem dd_X11_status_139 : decode mb_X11_status 139 = .ok (.iload_n 1, 1) := by decide +kernel
theorem dd_X11_status_140 : decode mb_X11_status 140 = .ok (.bipush 12, 2) := by decide +kernel
theorem dd_X11_status_142 : decode mb_X11_status 142 = .ok (.bipush 16, 2) := by decide +kernel
theorem dd_X11_status_144 : decode mb_X11_status 144 = .ok (.invokestatic 59, 3) := by decide +kernel
theorem dd_X11_status_147 : decode mb_X11_status 147 = .ok (.ifCond .eq 15, 3) := by decide +kernel
theorem dd_X11_status_150 : decode mb_X11_status 150 = .ok (.aload_n 0, 1) := by decide +kernel
theorem dd_X11_status_151 : decode mb_X11_status 151 = .ok (.getfield 15, 3) := by decide +kernel
theorem dd_X11_status_154 : decode mb_X11_status 154 = .ok (.iload_n 1, 1) := by decide +kernel
theorem dd_X11_status_155 : decode mb_X11_status 155 = .ok (.bipush 12, 2) := by decide +kernel
theorem dd_X11_status_157 : decode mb_X11_status 157 = .ok (.isub, 1) := by decide +kernel
theorem dd_X11_status_158 : decode mb_X11_status 158 = .ok (.iaload, 1) := by decide +kernel
theorem dd_X11_status_159 : decode mb_X11_status 159 = .ok (.goto 4, 3) := by decide +kernel
theorem dd_X11_status_162 : decode mb_X11_status 162 = .ok (.iconst (-1), 1) := by decide +kernel
theorem dd_X11_status_163 : decode mb_X11_status 163 = .ok (.ireturn, 1) := by decide +kernel
theorem dd_X11_table_0 : decode mb_X11_table 0 = .ok (.iload_n 1, 1) := by decide +kernel
theorem dd_X11_table_1 : decode mb_X11_table 1 = .ok (.invokestatic 165, 3) := by decide +kernel
theorem dd_X11_table_4 : decode mb_X11_table 4 = .ok (.ifCond .ne 10, 3) := by decide +kernel
theorem dd_X11_table_7 : decode mb_X11_table 7 = .ok (.aload_n 0, 1) := by decide +kernel
theorem dd_X11_table_8 : decode mb_X11_table 8 = .ok (.bipush (-2), 2) := by decide +kernel
theorem dd_X11_table_10 : decode mb_X11_table 10 = .ok (.invokevirtual 63, 3) := by decide +kernel
theorem dd_X11_table_13 : decode mb_X11_table 13 = .ok (.ireturn, 1) := by decide +kernel
theorem dd_X11_table_14 : decode mb_X11_table 14 = .ok (.aload_n 0, 1) := by decide +kernel
theorem dd_X11_table_15 : decode mb_X11_table 15 = .ok (.getfield 29, 3) := by decide +kernel
theorem dd_X11_table_18 : decode mb_X11_table 18 = .ok (.getfield 303, 3) := by decide +kernel
theorem dd_X11_table_21 : decode mb_X11_table 21 = .ok (.iconst 5, 1) := by decide +kernel
theorem dd_X11_table_22 : decode mb_X11_table 22 = .ok (.if_icmp .lt 10, 3) := by decide +kernel
theorem dd_X11_table_32 : decode mb_X11_table 32 = .ok (.aload_n 0, 1) := by decide +kernel
theorem dd_X11_table_33 : decode mb_X11_table 33 = .ok (.getfield 29, 3) := by decide +kernel
theorem dd_X11_table_36 : decode mb_X11_table 36 = .ok (.getfield 306, 3) := by decide +kernel
theorem dd_X11_table_39 : decode mb_X11_table 39 = .ok (.aload_n 0, 1) := by decide +kernel
theorem dd_X11_table_40 : decode mb_X11_table 40 = .ok (.getfield 29, 3) := by decide +kernel
theorem dd_X11_table_43 : decode mb_X11_table 43 = .ok (.getfield 303, 3) := by decide +kernel
theorem dd_X11_table_46 : decode mb_X11_table 46 = .ok (.iload_n 1, 1) := by decide +kernel
theorem dd_X11_table_47 : decode mb_X11_table 47 = .ok (.iastore, 1) := by decide +kernel
theorem dd_X11_table_48 : decode mb_X11_table 48 = .ok (.aload_n 0, 1) := by decide +kernel
theorem dd_X11_table_49 : decode mb_X11_table 49 = .ok (.getfield 29, 3) := by decide +kernel
theorem dd_X11_table_52 : decode mb_X11_table 52 = .ok (.dup, 1) := by decide +kernel
theorem dd_X11_table_53 : decode mb_X11_table 53 = .ok (.getfield 303, 3) := by decide +kernel
theorem dd_X11_table_56 : decode mb_X11_table 56 = .ok (.iconst 1, 1) := by decide +kernel
theorem dd_X11_table_57 : decode mb_X11_table 57 = .ok (.iadd, 1) := by decide +kernel
theorem dd_X11_table_58 : decode mb_X11_table 58 = .ok (.putfield 303, 3) := by decide +kernel
theorem dd_X11_table_61 : decode mb_X11_table 61 = .ok (.aload_n 0, 1) := by decide +kernel
theorem dd_X11_table_62 : decode mb_X11_table 62 = .ok (.getfield 29, 3) := by decide +kernel
theorem dd_X11_table_65 : decode mb_X11_table 65 = .ok (.getfield 303, 3) := by decide +kernel
theorem dd_X11_table_68 : decode mb_X11_table 68 = .ok (.iconst 1, 1) := by decide +kernel
theorem dd_X11_table_69 : decode mb_X11_table 69 = .ok (.isub, 1) := by decide +kernel
theorem dd_X11_table_70 : decode mb_X11_table 70 = .ok (.ireturn, 1) := by decide +kernel
theorem dd_X11_takes_0 : decode mb_X11_takes 0 = .ok (.aload_n 0, 1) := by decide +kernel
theorem dd_X11_takes_1 : decode mb_X11_takes 1 = .ok (.getfield 29, 3) := by decide +kernel
theorem dd_X11_takes_4 : decode mb_X11_takes 4 = .ok (.getfield 219, 3) := by decide +kernel
theorem dd_X11_takes_7 : decode mb_X11_takes 7 = .ok (.iload_n 1, 1) := by decide +kernel
theorem dd_X11_takes_8 : decode mb_X11_takes 8 = .ok (.invokevirtual 229, 3) := by decide +kernel
theorem dd_X11_takes_11 : decode mb_X11_takes 11 = .ok (.ifCond .eq 10, 3) := by decide +kernel
theorem dd_X11_takes_21 : decode mb_X11_takes 21 = .ok (.aload_n 0, 1) := by decide +kernel
theorem dd_X11_takes_22 : decode mb_X11_takes 22 = .ok (.bipush (-2), 2) := by decide +kernel
theorem dd_X11_takes_24 : decode mb_X11_takes 24 = .ok (.invokevirtual 63, 3) := by decide +kernel
theorem dd_X11_takes_27 : decode mb_X11_takes 27 = .ok (.ireturn, 1) := by decide +kernel
theorem dd_X11_takings_0 : decode mb_X11_takings 0 = .ok (.iload_n 1, 1) := by decide +kernel
theorem dd_X11_takings_1 : decode mb_X11_takings 1 = .ok (.iconst 0, 1) := by decide +kernel
theorem dd_X11_takings_2 : decode mb_X11_takings 2 = .ok (.bipush 12, 2) := by decide +kernel
theorem dd_X11_takings_4 : decode mb_X11_takings 4 = .ok (.invokestatic 59, 3) := by decide +kernel
theorem dd_X11_takings_7 : decode mb_X11_takings 7 = .ok (.ifCond .eq 13, 3) := by decide +kernel
theorem dd_X11_takings_10 : decode mb_X11_takings 10 = .ok (.iload_n 2, 1) := by decide +kernel
theorem dd_X11_takings_11 : decode mb_X11_takings 11 = .ok (.iconst 0, 1) := by decide +kernel
theorem dd_X11_takings_12 : decode mb_X11_takings 12 = .ok (.bipush 12, 2) := by decide +kernel
theorem dd_X11_takings_14 : decode mb_X11_takings 14 = .ok (.invokestatic 59, 3) := by decide +kernel
theorem dd_X11_takings_17 : decode mb_X11_takings 17 = .ok (.ifCond .ne 10, 3) := by decide +kernel
theorem dd_X11_takings_20 : decode mb_X11_takings 20 = .ok (.aload_n 0, 1) := by decide +kernel
theorem dd_X11_takings_21 : decode mb_X11_takings 21 = .ok (.bipush (-2), 2) := by decide +kernel
theorem dd_X11_takings_23 : decode mb_X11_takings 23 = .ok (.invokevirtual 63, 3) := by decide +kernel
theorem dd_X11_takings_26 : decode mb_X11_takings 26 = .ok (.ireturn, 1) := by decide +kernel
theorem dd_X11_takings_27 : decode mb_X11_takings 27 = .ok (.aload_n 0, 1) := by decide +kernel
theorem dd_X11_takings_28 : decode mb_X11_takings 28 = .ok (.getfield 39, 3) := by decide +kernel
theorem dd_X11_takings_31 : decode mb_X11_takings 31 = .ok (.aload_n 0, 1) := by decide +kernel
theorem dd_X11_takings_32 : decode mb_X11_takings 32 = .ok (.getfield 29, 3) := by decide +kernel
theorem dd_X11_takings_35 : decode mb_X11_takings 35 = .ok (.iload_n 1, 1) := by decide +kernel
theorem dd_X11_takings_36 : decode mb_X11_takings 36 = .ok (.iload_n 2, 1) := by decide +kernel
theorem dd_X11_takings_37 : decode mb_X11_takings 37 = .ok (.invokevirtual 265, 3) := by decide +kernel
theorem dd_X11_takings_40 : decode mb_X11_takings 40 = .ok (.ireturn, 1) := by decide +kernel
theorem dd_X11_thing_0 : decode mb_X11_thing 0 = .ok (.iload_n 1, 1) := by decide +kernel
theorem dd_X11_thing_1 : decode mb_X11_thing 1 = .ok (.invokestatic 122, 3) := by decide +kernel
theorem dd_X11_thing_4 : decode mb_X11_thing 4 = .ok (.ifCond .eq 25, 3) := by decide +kernel
theorem dd_X11_thing_7 : decode mb_X11_thing 7 = .ok (.iload_n 2, 1) := by decide +kernel
theorem dd_X11_thing_8 : decode mb_X11_thing 8 = .ok (.iconst 0, 1) := by decide +kernel
theorem dd_X11_thing_9 : decode mb_X11_thing 9 = .ok (.sipush 999, 3) := by decide +kernel
theorem dd_X11_thing_12 : decode mb_X11_thing 12 = .ok (.invokestatic 59, 3) := by decide +kernel
theorem dd_X11_thing_15 : decode mb_X11_thing 15 = .ok (.ifCond .eq 14, 3) := by decide +kernel
theorem dd_X11_thing_18 : decode mb_X11_thing 18 = .ok (.iload_n 3, 1) := by decide +kernel
theorem dd_X11_thing_19 : decode mb_X11_thing 19 = .ok (.iconst 0, 1) := by decide +kernel
theorem dd_X11_thing_20 : decode mb_X11_thing 20 = .ok (.sipush 255, 3) := by decide +kernel
theorem dd_X11_thing_23 : decode mb_X11_thing 23 = .ok (.invokestatic 59, 3) := by decide +kernel
theorem dd_X11_thing_26 : decode mb_X11_thing 26 = .ok (.ifCond .ne 10, 3) := by decide +kernel
theorem dd_X11_thing_29 : decode mb_X11_thing 29 = .ok (.aload_n 0, 1) := by decide +kernel
theorem dd_X11_thing_30 : decode mb_X11_thing 30 = .ok (.bipush (-2), 2) := by decide +kernel
theorem dd_X11_thing_32 : decode mb_X11_thing 32 = .ok (.invokevirtual 63, 3) := by decide +kernel
theorem dd_X11_thing_35 : decode mb_X11_thing 35 = .ok (.ireturn, 1) := by decide +kernel
theorem dd_X11_thing_36 : decode mb_X11_thing 36 = .ok (.aload_n 0, 1) := by decide +kernel
theorem dd_X11_thing_37 : decode mb_X11_thing 37 = .ok (.getfield 29, 3) := by decide +kernel
theorem dd_X11_thing_40 : decode mb_X11_thing 40 = .ok (.getfield 113, 3) := by decide +kernel
theorem dd_X11_thing_43 : decode mb_X11_thing 43 = .ok (.getfield 132, 3) := by decide +kernel
theorem dd_X11_thing_46 : decode mb_X11_thing 46 = .ok (.bipush 30, 2) := by decide +kernel
theorem dd_X11_thing_48 : decode mb_X11_thing 48 = .ok (.if_icmp .lt 10, 3) := by decide +kernel
theorem dd_X11_thing_58 : decode mb_X11_thing 58 = .ok (.aload_n 0, 1) := by decide +kernel
theorem dd_X11_thing_59 : decode mb_X11_thing 59 = .ok (.getfield 29, 3) := by decide +kernel
theorem dd_X11_thing_62 : decode mb_X11_thing 62 = .ok (.getfield 113, 3) := by decide +kernel
theorem dd_X11_thing_65 : decode mb_X11_thing 65 = .ok (.iload_n 1, 1) := by decide +kernel
theorem dd_X11_thing_66 : decode mb_X11_thing 66 = .ok (.iload_n 2, 1) := by decide +kernel
theorem dd_X11_thing_67 : decode mb_X11_thing 67 = .ok (.iload_n 3, 1) := by decide +kernel
theorem dd_X11_thing_68 : decode mb_X11_thing 68 = .ok (.invokevirtual 135, 3) := by decide +kernel
theorem dd_X11_thing_71 : decode mb_X11_thing 71 = .ok (.ireturn, 1) := by decide +kernel
theorem dd_X11_thingOf_0 : decode mb_X11_thingOf 0 = .ok (.aload_n 0, 1) := by decide +kernel
theorem dd_X11_thingOf_1 : decode mb_X11_thingOf 1 = .ok (.getfield 29, 3) := by decide +kernel
theorem dd_X11_thingOf_4 : decode mb_X11_thingOf 4 = .ok (.getfield 113, 3) := by decide +kernel
theorem dd_X11_thingOf_7 : decode mb_X11_thingOf 7 = .ok (.iload_n 1, 1) := by decide +kernel
theorem dd_X11_thingOf_8 : decode mb_X11_thingOf 8 = .ok (.invokevirtual 117, 3) := by decide +kernel
theorem dd_X11_thingOf_11 : decode mb_X11_thingOf 11 = .ok (.ifCond .ne 10, 3) := by decide +kernel
theorem dd_X11_thingOf_14 : decode mb_X11_thingOf 14 = .ok (.aload_n 0, 1) := by decide +kernel
theorem dd_X11_thingOf_15 : decode mb_X11_thingOf 15 = .ok (.bipush (-2), 2) := by decide +kernel
theorem dd_X11_thingOf_17 : decode mb_X11_thingOf 17 = .ok (.invokevirtual 63, 3) := by decide +kernel
theorem dd_X11_thingOf_20 : decode mb_X11_thingOf 20 = .ok (.ireturn, 1) := by decide +kernel
theorem dd_X11_things_0 : decode mb_X11_things 0 = .ok (.iload_n 1, 1) := by decide +kernel
theorem dd_X11_things_1 : decode mb_X11_things 1 = .ok (.invokestatic 55, 3) := by decide +kernel
theorem dd_X11_things_4 : decode mb_X11_things 4 = .ok (.ifCond .eq 10, 3) := by decide +kernel
theorem dd_X11_things_7 : decode mb_X11_things 7 = .ok (.iload_n 2, 1) := by decide +kernel
theorem dd_X11_things_8 : decode mb_X11_things 8 = .ok (.invokestatic 122, 3) := by decide +kernel
theorem dd_X11_things_11 : decode mb_X11_things 11 = .ok (.ifCond .ne 10, 3) := by decide +kernel
theorem dd_X11_things_14 : decode mb_X11_things 14 = .ok (.aload_n 0, 1) := by decide +kernel
theorem dd_X11_things_15 : decode mb_X11_things 15 = .ok (.bipush (-2), 2) := by decide +kernel
theorem dd_X11_things_17 : decode mb_X11_things 17 = .ok (.invokevirtual 63, 3) := by decide +kernel
theorem dd_X11_things_20 : decode mb_X11_things 20 = .ok (.ireturn, 1) := by decide +kernel
theorem dd_X11_things_21 : decode mb_X11_things 21 = .ok (.aload_n 0, 1) := by decide +kernel
theorem dd_X11_things_22 : decode mb_X11_things 22 = .ok (.iload_n 1, 1) := by decide +kernel
theorem dd_X11_things_23 : decode mb_X11_things 23 = .ok (.invokevirtual 71, 3) := by decide +kernel
theorem dd_X11_things_26 : decode mb_X11_things 26 = .ok (.istore 4, 2) := by decide +kernel
theorem dd_X11_things_28 : decode mb_X11_things 28 = .ok (.iload 4, 2) := by decide +kernel
theorem dd_X11_things_30 : decode mb_X11_things 30 = .ok (.ifCond .eq 10, 3) := by decide +kernel
theorem dd_X11_things_33 : decode mb_X11_things 33 = .ok (.aload_n 0, 1) := by decide +kernel
theorem dd_X11_things_34 : decode mb_X11_things 34 = .ok (.iload 4, 2) := by decide +kernel
theorem dd_X11_things_36 : decode mb_X11_things 36 = .ok (.invokevirtual 63, 3) := by decide +kernel
theorem dd_X11_things_39 : decode mb_X11_things 39 = .ok (.ireturn, 1) := by decide +kernel
theorem dd_X11_thinks_0 : decode mb_X11_thinks 0 = .ok (.aload_n 0, 1) := by decide +kernel
theorem dd_X11_thinks_1 : decode mb_X11_thinks 1 = .ok (.getfield 29, 3) := by decide +kernel
theorem dd_X11_thinks_4 : decode mb_X11_thinks 4 = .ok (.getfield 168, 3) := by decide +kernel
theorem dd_X11_thinks_7 : decode mb_X11_thinks 7 = .ok (.iload_n 1, 1) := by decide +kernel
theorem dd_X11_thinks_8 : decode mb_X11_thinks 8 = .ok (.invokevirtual 177, 3) := by decide +kernel
theorem dd_X11_thinks_11 : decode mb_X11_thinks 11 = .ok (.ifCond .eq 17, 3) := by decide +kernel
theorem dd_X11_thinks_28 : decode mb_X11_thinks 28 = .ok (.aload_n 0, 1) := by decide +kernel
theorem dd_X11_thinks_29 : decode mb_X11_thinks 29 = .ok (.bipush (-2), 2) := by decide +kernel
theorem dd_X11_thinks_31 : decode mb_X11_thinks 31 = .ok (.invokevirtual 63, 3) := by decide +kernel
theorem dd_X11_thinks_34 : decode mb_X11_thinks 34 = .ok (.ireturn, 1) := by decide +kernel
theorem dd_X11_turn_0 : decode mb_X11_turn 0 = .ok (.iload_n 1, 1) := by decide +kernel
theorem dd_X11_turn_1 : decode mb_X11_turn 1 = .ok (.iconst 0, 1) := by decide +kernel
theorem dd_X11_turn_2 : decode mb_X11_turn 2 = .ok (.iconst 1, 1) := by decide +kernel
theorem dd_X11_turn_3 : decode mb_X11_turn 3 = .ok (.invokestatic 59, 3) := by decide +kernel
theorem dd_X11_turn_6 : decode mb_X11_turn 6 = .ok (.ifCond .eq 13, 3) := by decide +kernel
theorem dd_X11_turn_9 : decode mb_X11_turn 9 = .ok (.iload_n 2, 1) := by decide +kernel
theorem dd_X11_turn_10 : decode mb_X11_turn 10 = .ok (.iconst 0, 1) := by decide +kernel
theorem dd_X11_turn_11 : decode mb_X11_turn 11 = .ok (.bipush 12, 2) := by decide +kernel
theorem dd_X11_turn_13 : decode mb_X11_turn 13 = .ok (.invokestatic 59, 3) := by decide +kernel
theorem dd_X11_turn_16 : decode mb_X11_turn 16 = .ok (.ifCond .ne 10, 3) := by decide +kernel
theorem dd_X11_turn_19 : decode mb_X11_turn 19 = .ok (.aload_n 0, 1) := by decide +kernel
theorem dd_X11_turn_20 : decode mb_X11_turn 20 = .ok (.bipush (-2), 2) := by decide +kernel
theorem dd_X11_turn_22 : decode mb_X11_turn 22 = .ok (.invokevirtual 63, 3) := by decide +kernel
theorem dd_X11_turn_25 : decode mb_X11_turn 25 = .ok (.ireturn, 1) := by decide +kernel
theorem dd_X11_turn_26 : decode mb_X11_turn 26 = .ok (.iload_n 1, 1) := by decide +kernel
theorem dd_X11_turn_27 : decode mb_X11_turn 27 = .ok (.ifCond .ne 13, 3) := by decide +kernel
theorem dd_X11_turn_30 : decode mb_X11_turn 30 = .ok (.aload_n 0, 1) := by decide +kernel
theorem dd_X11_turn_31 : decode mb_X11_turn 31 = .ok (.getfield 29, 3) := by decide +kernel
theorem dd_X11_turn_34 : decode mb_X11_turn 34 = .ok (.getfield 245, 3) := by decide +kernel
theorem dd_X11_turn_37 : decode mb_X11_turn 37 = .ok (.goto 10, 3) := by decide +kernel
theorem dd_X11_turn_40 : decode mb_X11_turn 40 = .ok (.aload_n 0, 1) := by decide +kernel
theorem dd_X11_turn_41 : decode mb_X11_turn 41 = .ok (.getfield 29, 3) := by decide +kernel
theorem dd_X11_turn_44 : decode mb_X11_turn 44 = .ok (.getfield 248, 3) := by decide +kernel
theorem dd_X11_turn_47 : decode mb_X11_turn 47 = .ok (.istore_n 3, 1) := by decide +kernel
theorem dd_X11_turn_48 : decode mb_X11_turn 48 = .ok (.iload_n 1, 1) := by decide +kernel
theorem dd_X11_turn_49 : decode mb_X11_turn 49 = .ok (.ifCond .ne 14, 3) := by decide +kernel
theorem dd_X11_turn_52 : decode mb_X11_turn 52 = .ok (.aload_n 0, 1) := by decide +kernel
theorem dd_X11_turn_53 : decode mb_X11_turn 53 = .ok (.getfield 29, 3) := by decide +kernel
theorem dd_X11_turn_56 : decode mb_X11_turn 56 = .ok (.iload_n 2, 1) := by decide +kernel
theorem dd_X11_turn_57 : decode mb_X11_turn 57 = .ok (.putfield 245, 3) := by decide +kernel
theorem dd_X11_turn_60 : decode mb_X11_turn 60 = .ok (.goto 11, 3) := by decide +kernel
theorem dd_X11_turn_63 : decode mb_X11_turn 63 = .ok (.aload_n 0, 1) := by decide +kernel
theorem dd_X11_turn_64 : decode mb_X11_turn 64 = .ok (.getfield 29, 3) := by decide +kernel
theorem dd_X11_turn_67 : decode mb_X11_turn 67 = .ok (.iload_n 2, 1) := by decide +kernel
theorem dd_X11_turn_68 : decode mb_X11_turn 68 = .ok (.putfield 248, 3) := by decide +kernel
theorem dd_X11_turn_71 : decode mb_X11_turn 71 = .ok (.iload_n 3, 1) := by decide +kernel
theorem dd_X11_turn_72 : decode mb_X11_turn 72 = .ok (.ireturn, 1) := by decide +kernel
theorem dd_X11_vases_0 : decode mb_X11_vases 0 = .ok (.aload_n 0, 1) := by decide +kernel
theorem dd_X11_vases_1 : decode mb_X11_vases 1 = .ok (.getfield 29, 3) := by decide +kernel
theorem dd_X11_vases_4 : decode mb_X11_vases 4 = .ok (.getfield 321, 3) := by decide +kernel
theorem dd_X11_vases_7 : decode mb_X11_vases 7 = .ok (.invokevirtual 333, 3) := by decide +kernel
theorem dd_X11_vases_10 : decode mb_X11_vases 10 = .ok (.ireturn, 1) := by decide +kernel
theorem dd_X11_who_0 : decode mb_X11_who 0 = .ok (.iload_n 1, 1) := by decide +kernel
theorem dd_X11_who_1 : decode mb_X11_who 1 = .ok (.iconst (-1), 1) := by decide +kernel
theorem dd_X11_who_2 : decode mb_X11_who 2 = .ok (.if_icmp .eq 27, 3) := by decide +kernel
theorem dd_X11_who_5 : decode mb_X11_who 5 = .ok (.iload_n 1, 1) := by decide +kernel
theorem dd_X11_who_6 : decode mb_X11_who 6 = .ok (.iconst 0, 1) := by decide +kernel
theorem dd_X11_who_7 : decode mb_X11_who 7 = .ok (.aload_n 0, 1) := by decide +kernel
theorem dd_X11_who_8 : decode mb_X11_who 8 = .ok (.getfield 29, 3) := by decide +kernel
theorem dd_X11_who_11 : decode mb_X11_who 11 = .ok (.getfield 303, 3) := by decide +kernel
theorem dd_X11_who_14 : decode mb_X11_who 14 = .ok (.iconst 1, 1) := by decide +kernel
theorem dd_X11_who_15 : decode mb_X11_who 15 = .ok (.isub, 1) := by decide +kernel
theorem dd_X11_who_16 : decode mb_X11_who 16 = .ok (.invokestatic 59, 3) := by decide +kernel
theorem dd_X11_who_19 : decode mb_X11_who 19 = .ok (.ifCond .ne 10, 3) := by decide +kernel
theorem dd_X11_who_22 : decode mb_X11_who 22 = .ok (.aload_n 0, 1) := by decide +kernel
theorem dd_X11_who_23 : decode mb_X11_who 23 = .ok (.bipush (-2), 2) := by decide +kernel
theorem dd_X11_who_25 : decode mb_X11_who 25 = .ok (.invokevirtual 63, 3) := by decide +kernel
theorem dd_X11_who_28 : decode mb_X11_who 28 = .ok (.ireturn, 1) := by decide +kernel
theorem dd_X11_who_29 : decode mb_X11_who 29 = .ok (.aload_n 0, 1) := by decide +kernel
theorem dd_X11_who_30 : decode mb_X11_who 30 = .ok (.getfield 29, 3) := by decide +kernel
theorem dd_X11_who_33 : decode mb_X11_who 33 = .ok (.getfield 303, 3) := by decide +kernel
theorem dd_X11_who_36 : decode mb_X11_who 36 = .ok (.aload_n 0, 1) := by decide +kernel
theorem dd_X11_who_37 : decode mb_X11_who 37 = .ok (.getfield 29, 3) := by decide +kernel
theorem dd_X11_who_40 : decode mb_X11_who 40 = .ok (.getfield 168, 3) := by decide +kernel
theorem dd_X11_who_43 : decode mb_X11_who 43 = .ok (.getfield 172, 3) := by decide +kernel
theorem dd_X11_who_46 : decode mb_X11_who 46 = .ok (.if_icmp .le 10, 3) := by decide +kernel
theorem dd_X11_who_56 : decode mb_X11_who 56 = .ok (.aload_n 0, 1) := by decide +kernel
theorem dd_X11_who_57 : decode mb_X11_who 57 = .ok (.getfield 29, 3) := by decide +kernel
theorem dd_X11_who_60 : decode mb_X11_who 60 = .ok (.invokevirtual 309, 3) := by decide +kernel
theorem dd_X11_who_63 : decode mb_X11_who 63 = .ok (.iload_n 1, 1) := by decide +kernel
theorem dd_X11_who_64 : decode mb_X11_who 64 = .ok (.iconst (-1), 1) := by decide +kernel
theorem dd_X11_who_65 : decode mb_X11_who 65 = .ok (.if_icmp .ne 15, 3) := by decide +kernel
theorem dd_X11_who_68 : decode mb_X11_who 68 = .ok (.aload_n 0, 1) := by decide +kernel
theorem dd_X11_who_69 : decode mb_X11_who 69 = .ok (.getfield 29, 3) := by decide +kernel
theorem dd_X11_who_72 : decode mb_X11_who 72 = .ok (.getfield 312, 3) := by decide +kernel
theorem dd_X11_who_75 : decode mb_X11_who 75 = .ok (.iconst 0, 1) := by decide +kernel
theorem dd_X11_who_76 : decode mb_X11_who 76 = .ok (.iaload, 1) := by decide +kernel
theorem dd_X11_who_77 : decode mb_X11_who 77 = .ok (.goto 11, 3) := by decide +kernel
theorem dd_X11_who_88 : decode mb_X11_who 88 = .ok (.ireturn, 1) := by decide +kernel
theorem dd_X11_wipe_0 : decode mb_X11_wipe 0 = .ok (.aload_n 0, 1) := by decide +kernel
theorem dd_X11_wipe_1 : decode mb_X11_wipe 1 = .ok (.getfield 22, 3) := by decide +kernel
theorem dd_X11_wipe_4 : decode mb_X11_wipe 4 = .ok (.getfield 188, 3) := by decide +kernel
theorem dd_X11_wipe_7 : decode mb_X11_wipe 7 = .ok (.istore_n 1, 1) := by decide +kernel
theorem dd_X11_wipe_8 : decode mb_X11_wipe 8 = .ok (.aload_n 0, 1) := by decide +kernel
theorem dd_X11_wipe_9 : decode mb_X11_wipe 9 = .ok (.getfield 22, 3) := by decide +kernel
theorem dd_X11_wipe_12 : decode mb_X11_wipe 12 = .ok (.iconst 0, 1) := by decide +kernel
theorem dd_X11_wipe_13 : decode mb_X11_wipe 13 = .ok (.putfield 188, 3) := by decide +kernel
theorem dd_X11_wipe_16 : decode mb_X11_wipe 16 = .ok (.iload_n 1, 1) := by decide +kernel
theorem dd_X11_wipe_17 : decode mb_X11_wipe 17 = .ok (.ireturn, 1) := by decide +kernel
theorem dd_X11_within_0 : decode mb_X11_within 0 = .ok (.iload_n 0, 1) := by decide +kernel
theorem dd_X11_within_1 : decode mb_X11_within 1 = .ok (.iload_n 1, 1) := by decide +kernel
theorem dd_X11_within_2 : decode mb_X11_within 2 = .ok (.if_icmp .lt 12, 3) := by decide +kernel
theorem dd_X11_within_5 : decode mb_X11_within 5 = .ok (.iload_n 0, 1) := by decide +kernel
theorem dd_X11_within_6 : decode mb_X11_within 6 = .ok (.iload_n 2, 1) := by decide +kernel
theorem dd_X11_within_7 : decode mb_X11_within 7 = .ok (.if_icmp .gt 7, 3) := by decide +kernel
theorem dd_X11_within_10 : decode mb_X11_within 10 = .ok (.iconst 1, 1) := by decide +kernel
theorem dd_X11_within_11 : decode mb_X11_within 11 = .ok (.goto 4, 3) := by decide +kernel
theorem dd_X11_within_14 : decode mb_X11_within 14 = .ok (.iconst 0, 1) := by decide +kernel
theorem dd_X11_within_15 : decode mb_X11_within 15 = .ok (.ireturn, 1) := by decide +kernel
theorem dd_X1_bestLady_0 : decode mb_X1_bestLady 0 = .ok (.iconst (-1), 1) := by decide +kernel
theorem dd_X1_bestLady_1 : decode mb_X1_bestLady 1 = .ok (.istore_n 3, 1) := by decide +kernel
theorem dd_X1_bestLady_2 : decode mb_X1_bestLady 2 = .ok (.iconst 0, 1) := by decide +kernel
theorem dd_X1_bestLady_3 : decode mb_X1_bestLady 3 = .ok (.istore 4, 2) := by decide +kernel
theorem dd_X1_bestLady_5 : decode mb_X1_bestLady 5 = .ok (.iload_n 2, 1) := by decide +kernel
theorem dd_X1_bestLady_6 : decode mb_X1_bestLady 6 = .ok (.aload_n 0, 1) := by decide +kernel
theorem dd_X1_bestLady_7 : decode mb_X1_bestLady 7 = .ok (.getfield 57, 3) := by decide +kernel
theorem dd_X1_bestLady_10 : decode mb_X1_bestLady 10 = .ok (.if_icmp .lt 5, 3) := by decide +kernel
theorem dd_X1_bestLady_13 : decode mb_X1_bestLady 13 = .ok (.iconst (-1), 1) := by decide +kernel
theorem dd_X1_bestLady_14 : decode mb_X1_bestLady 14 = .ok (.ireturn, 1) := by decide +kernel
theorem dd_X1_planTables_0 : decode mb_X1_planTables 0 = .ok (.iconst 0, 1) := by decide +kernel
theorem dd_X1_planTables_1 : decode mb_X1_planTables 1 = .ok (.istore_n 1, 1) := by decide +kernel
theorem dd_X1_planTables_2 : decode mb_X1_planTables 2 = .ok (.iload_n 1, 1) := by decide +kernel
theorem dd_X1_planTables_3 : decode mb_X1_planTables 3 = .ok (.aload_n 0, 1) := by decide +kernel
theorem dd_X1_planTables_4 : decode mb_X1_planTables 4 = .ok (.getfield 21, 3) := by decide +kernel
theorem dd_X1_planTables_7 : decode mb_X1_planTables 7 = .ok (.getfield 130, 3) := by decide +kernel
theorem dd_X1_planTables_10 : decode mb_X1_planTables 10 = .ok (.if_icmp .ge 46, 3) := by decide +kernel
theorem dd_X1_planTables_56 : decode mb_X1_planTables 56 = .ok (.iconst 1, 1) := by decide +kernel
theorem dd_X1_planTables_57 : decode mb_X1_planTables 57 = .ok (.aload_n 0, 1) := by decide +kernel
theorem dd_X1_planTables_58 : decode mb_X1_planTables 58 = .ok (.getfield 21, 3) := by decide +kernel
theorem dd_X1_planTables_61 : decode mb_X1_planTables 61 = .ok (.getfield 130, 3) := by decide +kernel
theorem dd_X1_planTables_64 : decode mb_X1_planTables 64 = .ok (.ishl, 1) := by decide +kernel
theorem dd_X1_planTables_65 : decode mb_X1_planTables 65 = .ok (.iconst 1, 1) := by decide +kernel
theorem dd_X1_planTables_66 : decode mb_X1_planTables 66 = .ok (.isub, 1) := by decide +kernel
theorem dd_X1_planTables_67 : decode mb_X1_planTables 67 = .ok (.istore_n 1, 1) := by decide +kernel
theorem dd_X1_planTables_68 : decode mb_X1_planTables 68 = .ok (.iload_n 1, 1) := by decide +kernel
theorem dd_X1_planTables_69 : decode mb_X1_planTables 69 = .ok (.ifCond .lt 43, 3) := by decide +kernel
theorem dd_X1_planTables_72 : decode mb_X1_planTables 72 = .ok (.iload_n 1, 1) := by decide +kernel
theorem dd_X1_planTables_73 : decode mb_X1_planTables 73 = .ok (.invokestatic 134, 3) := by decide +kernel
theorem dd_X1_planTables_76 : decode mb_X1_planTables 76 = .ok (.istore_n 2, 1) := by decide +kernel
theorem dd_X1_planTables_77 : decode mb_X1_planTables 77 = .ok (.aload_n 0, 1) := by decide +kernel
theorem dd_X1_planTables_78 : decode mb_X1_planTables 78 = .ok (.iload_n 1, 1) := by decide +kernel
theorem dd_X1_planTables_79 : decode mb_X1_planTables 79 = .ok (.iload_n 2, 1) := by decide +kernel
theorem dd_X1_planTables_80 : decode mb_X1_planTables 80 = .ok (.invokevirtual 139, 3) := by decide +kernel
theorem dd_X1_planTables_83 : decode mb_X1_planTables 83 = .ok (.istore_n 3, 1) := by decide +kernel
theorem dd_X1_planTables_84 : decode mb_X1_planTables 84 = .ok (.aload_n 0, 1) := by decide +kernel
theorem dd_X1_planTables_85 : decode mb_X1_planTables 85 = .ok (.getfield 76, 3) := by decide +kernel
theorem dd_X1_planTables_88 : decode mb_X1_planTables 88 = .ok (.iload_n 1, 1) := by decide +kernel
theorem dd_X1_planTables_89 : decode mb_X1_planTables 89 = .ok (.iload_n 3, 1) := by decide +kernel
theorem dd_X1_planTables_90 : decode mb_X1_planTables 90 = .ok (.iconst (-1), 1) := by decide +kernel
theorem dd_X1_planTables_91 : decode mb_X1_planTables 91 = .ok (.if_icmp .ne 7, 3) := by decide +kernel
theorem dd_X1_planTables_94 : decode mb_X1_planTables 94 = .ok (.iconst 0, 1) := by decide +kernel
theorem dd_X1_planTables_95 : decode mb_X1_planTables 95 = .ok (.goto 10, 3) := by decide +kernel
theorem dd_X1_planTables_105 : decode mb_X1_planTables 105 = .ok (.iastore, 1) := by decide +kernel
theorem dd_X1_planTables_106 : decode mb_X1_planTables 106 = .ok (.iinc 1 (-1), 3) := by decide +kernel
theorem dd_X1_planTables_109 : decode mb_X1_planTables 109 = .ok (.goto (-41), 3) := by decide +kernel
theorem dd_X1_planTables_112 : decode mb_X1_planTables 112 = .ok (.return_, 1) := by decide +kernel
theorem dd_X2_add_0 : decode mb_X2_add 0 = .ok (.aload_n 0, 1) := by decide +kernel
theorem dd_X2_add_1 : decode mb_X2_add 1 = .ok (.getfield 9, 3) := by decide +kernel
theorem dd_X2_add_4 : decode mb_X2_add 4 = .ok (.aload_n 0, 1) := by decide +kernel
theorem dd_X2_add_5 : decode mb_X2_add 5 = .ok (.getfield 21, 3) := by decide +kernel
theorem dd_X2_add_8 : decode mb_X2_add 8 = .ok (.iload_n 1, 1) := by decide +kernel
theorem dd_X2_add_9 : decode mb_X2_add 9 = .ok (.iastore, 1) := by decide +kernel
theorem dd_X2_add_10 : decode mb_X2_add 10 = .ok (.aload_n 0, 1) := by decide +kernel
theorem dd_X2_add_11 : decode mb_X2_add 11 = .ok (.getfield 15, 3) := by decide +kernel
theorem dd_X2_add_14 : decode mb_X2_add 14 = .ok (.aload_n 0, 1) := by decide +kernel
theorem dd_X2_add_15 : decode mb_X2_add 15 = .ok (.getfield 21, 3) := by decide +kernel
theorem dd_X2_add_18 : decode mb_X2_add 18 = .ok (.iload_n 2, 1) := by decide +kernel
theorem dd_X2_add_19 : decode mb_X2_add 19 = .ok (.iastore, 1) := by decide +kernel
theorem dd_X2_add_20 : decode mb_X2_add 20 = .ok (.aload_n 0, 1) := by decide +kernel
theorem dd_X2_add_21 : decode mb_X2_add 21 = .ok (.getfield 18, 3) := by decide +kernel
theorem dd_X2_add_24 : decode mb_X2_add 24 = .ok (.aload_n 0, 1) := by decide +kernel
theorem dd_X2_add_25 : decode mb_X2_add 25 = .ok (.getfield 21, 3) := by decide +kernel
theorem dd_X2_add_28 : decode mb_X2_add 28 = .ok (.iconst (-1), 1) := by decide +kernel
theorem dd_X2_add_29 : decode mb_X2_add 29 = .ok (.iastore, 1) := by decide +kernel
theorem dd_X2_add_30 : decode mb_X2_add 30 = .ok (.aload_n 0, 1) := by decide +kernel
theorem dd_X2_add_31 : decode mb_X2_add 31 = .ok (.dup, 1) := by decide +kernel
theorem dd_X2_add_32 : decode mb_X2_add 32 = .ok (.getfield 21, 3) := by decide +kernel
theorem dd_X2_add_35 : decode mb_X2_add 35 = .ok (.iconst 1, 1) := by decide +kernel
theorem dd_X2_add_36 : decode mb_X2_add 36 = .ok (.iadd, 1) := by decide +kernel
theorem dd_X2_add_37 : decode mb_X2_add 37 = .ok (.putfield 21, 3) := by decide +kernel
theorem dd_X2_add_40 : decode mb_X2_add 40 = .ok (.aload_n 0, 1) := by decide +kernel
theorem dd_X2_add_41 : decode mb_X2_add 41 = .ok (.getfield 21, 3) := by decide +kernel
theorem dd_X2_add_44 : decode mb_X2_add 44 = .ok (.iconst 1, 1) := by decide +kernel
theorem dd_X2_add_45 : decode mb_X2_add 45 = .ok (.isub, 1) := by decide +kernel
theorem dd_X2_add_46 : decode mb_X2_add 46 = .ok (.ireturn, 1) := by decide +kernel
theorem dd_X2_has_0 : decode mb_X2_has 0 = .ok (.iload_n 1, 1) := by decide +kernel
theorem dd_X2_has_1 : decode mb_X2_has 1 = .ok (.iconst 0, 1) := by decide +kernel
theorem dd_X2_has_2 : decode mb_X2_has 2 = .ok (.aload_n 0, 1) := by decide +kernel
theorem dd_X2_has_3 : decode mb_X2_has 3 = .ok (.getfield 21, 3) := by decide +kernel
theorem dd_X2_has_6 : decode mb_X2_has 6 = .ok (.iconst 1, 1) := by decide +kernel
theorem dd_X2_has_7 : decode mb_X2_has 7 = .ok (.isub, 1) := by decide +kernel
theorem dd_X2_has_8 : decode mb_X2_has 8 = .ok (.invokestatic 25, 3) := by decide +kernel
theorem dd_X2_has_11 : decode mb_X2_has 11 = .ok (.ireturn, 1) := by decide +kernel
theorem dd_X3_has_0 : decode mb_X3_has 0 = .ok (.iload_n 1, 1) := by decide +kernel
theorem dd_X3_has_1 : decode mb_X3_has 1 = .ok (.iconst 0, 1) := by decide +kernel
theorem dd_X3_has_2 : decode mb_X3_has 2 = .ok (.aload_n 0, 1) := by decide +kernel
theorem dd_X3_has_3 : decode mb_X3_has 3 = .ok (.getfield 18, 3) := by decide +kernel
theorem dd_X3_has_6 : decode mb_X3_has 6 = .ok (.iconst 1, 1) := by decide +kernel
theorem dd_X3_has_7 : decode mb_X3_has 7 = .ok (.isub, 1) := by decide +kernel
theorem dd_X3_has_8 : decode mb_X3_has 8 = .ok (.invokestatic 28, 3) := by decide +kernel
theorem dd_X3_has_11 : decode mb_X3_has 11 = .ok (.ireturn, 1) := by decide +kernel
theorem dd_X4_bargains_0 : decode mb_X4_bargains 0 = .ok (.iconst 0, 1) := by decide +kernel
theorem dd_X4_bargains_1 : decode mb_X4_bargains 1 = .ok (.istore_n 3, 1) := by decide +kernel
theorem dd_X4_bargains_2 : decode mb_X4_bargains 2 = .ok (.iload_n 3, 1) := by decide +kernel
theorem dd_X4_bargains_3 : decode mb_X4_bargains 3 = .ok (.iload_n 2, 1) := by decide +kernel
theorem dd_X4_bargains_4 : decode mb_X4_bargains 4 = .ok (.if_icmp .gt 23, 3) := by decide +kernel
theorem dd_X4_bargains_7 : decode mb_X4_bargains 7 = .ok (.aload_n 0, 1) := by decide +kernel
theorem dd_X4_bargains_8 : decode mb_X4_bargains 8 = .ok (.getfield 9, 3) := by decide +kernel
theorem dd_X4_bargains_11 : decode mb_X4_bargains 11 = .ok (.iload_n 3, 1) := by decide +kernel
theorem dd_X4_bargains_12 : decode mb_X4_bargains 12 = .ok (.iconst 0, 1) := by decide +kernel
theorem dd_X4_bargains_13 : decode mb_X4_bargains 13 = .ok (.iastore, 1) := by decide +kernel
theorem dd_X4_bargains_14 : decode mb_X4_bargains 14 = .ok (.aload_n 0, 1) := by decide +kernel
theorem dd_X4_bargains_15 : decode mb_X4_bargains 15 = .ok (.getfield 15, 3) := by decide +kernel
theorem dd_X4_bargains_18 : decode mb_X4_bargains 18 = .ok (.iload_n 3, 1) := by decide +kernel
theorem dd_X4_bargains_19 : decode mb_X4_bargains 19 = .ok (.iconst 0, 1) := by decide +kernel
theorem dd_X4_bargains_20 : decode mb_X4_bargains 20 = .ok (.iastore, 1) := by decide +kernel
theorem dd_X4_bargains_21 : decode mb_X4_bargains 21 = .ok (.iinc 3 1, 3) := by decide +kernel
theorem dd_X4_bargains_24 : decode mb_X4_bargains 24 = .ok (.goto (-22), 3) := by decide +kernel
theorem dd_X4_bargains_27 : decode mb_X4_bargains 27 = .ok (.iconst 0, 1) := by decide +kernel
theorem dd_X4_bargains_28 : decode mb_X4_bargains 28 = .ok (.istore_n 3, 1) := by decide +kernel
theorem dd_X4_bargains_29 : decode mb_X4_bargains 29 = .ok (.iload_n 3, 1) := by decide +kernel
theorem dd_X4_bargains_30 : decode mb_X4_bargains 30 = .ok (.aload_n 1, 1) := by decide +kernel
theorem dd_X4_bargains_31 : decode mb_X4_bargains 31 = .ok (.getfield 18, 3) := by decide +kernel
theorem dd_X4_bargains_34 : decode mb_X4_bargains 34 = .ok (.if_icmp .ge 43, 3) := by decide +kernel
theorem dd_X4_bargains_77 : decode mb_X4_bargains 77 = .ok (.aload_n 0, 1) := by decide +kernel
theorem dd_X4_bargains_78 : decode mb_X4_bargains 78 = .ok (.getfield 9, 3) := by decide +kernel
theorem dd_X4_bargains_81 : decode mb_X4_bargains 81 = .ok (.iload_n 2, 1) := by decide +kernel
theorem dd_X4_bargains_82 : decode mb_X4_bargains 82 = .ok (.iaload, 1) := by decide +kernel
theorem dd_X4_bargains_83 : decode mb_X4_bargains 83 = .ok (.ireturn, 1) := by decide +kernel
theorem dd_X4_fewestPaid_0 : decode mb_X4_fewestPaid 0 = .ok (.aload_n 0, 1) := by decide +kernel
theorem dd_X4_fewestPaid_1 : decode mb_X4_fewestPaid 1 = .ok (.getfield 9, 3) := by decide +kernel
theorem dd_X4_fewestPaid_4 : decode mb_X4_fewestPaid 4 = .ok (.iconst 0, 1) := by decide +kernel
theorem dd_X4_fewestPaid_5 : decode mb_X4_fewestPaid 5 = .ok (.iconst 0, 1) := by decide +kernel
theorem dd_X4_fewestPaid_6 : decode mb_X4_fewestPaid 6 = .ok (.iastore, 1) := by decide +kernel
theorem dd_X4_fewestPaid_7 : decode mb_X4_fewestPaid 7 = .ok (.iconst 1, 1) := by decide +kernel
theorem dd_X4_fewestPaid_8 : decode mb_X4_fewestPaid 8 = .ok (.istore_n 3, 1) := by decide +kernel
theorem dd_X4_fewestPaid_9 : decode mb_X4_fewestPaid 9 = .ok (.iload_n 3, 1) := by decide +kernel
theorem dd_X4_fewestPaid_10 : decode mb_X4_fewestPaid 10 = .ok (.iload_n 2, 1) := by decide +kernel
theorem dd_X4_fewestPaid_11 : decode mb_X4_fewestPaid 11 = .ok (.if_icmp .gt 16, 3) := by decide +kernel
theorem dd_X4_fewestPaid_14 : decode mb_X4_fewestPaid 14 = .ok (.aload_n 0, 1) := by decide +kernel
theorem dd_X4_fewestPaid_15 : decode mb_X4_fewestPaid 15 = .ok (.getfield 9, 3) := by decide +kernel
theorem dd_X4_fewestPaid_18 : decode mb_X4_fewestPaid 18 = .ok (.iload_n 3, 1) := by decide +kernel
theorem dd_X4_fewestPaid_19 : decode mb_X4_fewestPaid 19 = .ok (.iconst (-1), 1) := by decide +kernel
theorem dd_X4_fewestPaid_20 : decode mb_X4_fewestPaid 20 = .ok (.iastore, 1) := by decide +kernel
theorem dd_X4_fewestPaid_21 : decode mb_X4_fewestPaid 21 = .ok (.iinc 3 1, 3) := by decide +kernel
theorem dd_X4_fewestPaid_24 : decode mb_X4_fewestPaid 24 = .ok (.goto (-15), 3) := by decide +kernel
theorem dd_X4_fewestPaid_27 : decode mb_X4_fewestPaid 27 = .ok (.iconst 0, 1) := by decide +kernel
theorem dd_X4_fewestPaid_28 : decode mb_X4_fewestPaid 28 = .ok (.istore_n 3, 1) := by decide +kernel
theorem dd_X4_fewestPaid_29 : decode mb_X4_fewestPaid 29 = .ok (.iconst 0, 1) := by decide +kernel
theorem dd_X4_fewestPaid_30 : decode mb_X4_fewestPaid 30 = .ok (.istore 4, 2) := by decide +kernel
theorem dd_X4_fewestPaid_32 : decode mb_X4_fewestPaid 32 = .ok (.iload 4, 2) := by decide +kernel
theorem dd_X4_fewestPaid_34 : decode mb_X4_fewestPaid 34 = .ok (.aload_n 1, 1) := by decide +kernel
theorem dd_X4_fewestPaid_35 : decode mb_X4_fewestPaid 35 = .ok (.getfield 18, 3) := by decide +kernel
theorem dd_X4_fewestPaid_38 : decode mb_X4_fewestPaid 38 = .ok (.if_icmp .ge 46, 3) := by decide +kernel
theorem dd_X4_fewestPaid_84 : decode mb_X4_fewestPaid 84 = .ok (.aload_n 0, 1) := by decide +kernel
theorem dd_X4_fewestPaid_85 : decode mb_X4_fewestPaid 85 = .ok (.getfield 9, 3) := by decide +kernel
theorem dd_X4_fewestPaid_88 : decode mb_X4_fewestPaid 88 = .ok (.iload_n 2, 1) := by decide +kernel
theorem dd_X4_fewestPaid_89 : decode mb_X4_fewestPaid 89 = .ok (.iaload, 1) := by decide +kernel
theorem dd_X4_fewestPaid_90 : decode mb_X4_fewestPaid 90 = .ok (.ireturn, 1) := by decide +kernel
theorem dd_X5_open_0 : decode mb_X5_open 0 = .ok (.aload_n 1, 1) := by decide +kernel
theorem dd_X5_open_1 : decode mb_X5_open 1 = .ok (.getfield 40, 3) := by decide +kernel
theorem dd_X5_open_4 : decode mb_X5_open 4 = .ok (.astore 4, 2) := by decide +kernel
theorem dd_X5_open_6 : decode mb_X5_open 6 = .ok (.aload_n 0, 1) := by decide +kernel
theorem dd_X5_open_7 : decode mb_X5_open 7 = .ok (.iload_n 2, 1) := by decide +kernel
theorem dd_X5_open_8 : decode mb_X5_open 8 = .ok (.putfield 9, 3) := by decide +kernel
theorem dd_X5_open_11 : decode mb_X5_open 11 = .ok (.aload_n 0, 1) := by decide +kernel
theorem dd_X5_open_12 : decode mb_X5_open 12 = .ok (.iload_n 3, 1) := by decide +kernel
theorem dd_X5_open_13 : decode mb_X5_open 13 = .ok (.putfield 15, 3) := by decide +kernel
theorem dd_X5_open_16 : decode mb_X5_open 16 = .ok (.aload_n 0, 1) := by decide +kernel
theorem dd_X5_open_17 : decode mb_X5_open 17 = .ok (.iconst 0, 1) := by decide +kernel
theorem dd_X5_open_18 : decode mb_X5_open 18 = .ok (.putfield 22, 3) := by decide +kernel
theorem dd_X5_open_21 : decode mb_X5_open 21 = .ok (.iconst 0, 1) := by decide +kernel
theorem dd_X5_open_22 : decode mb_X5_open 22 = .ok (.istore 5, 2) := by decide +kernel
theorem dd_X5_open_24 : decode mb_X5_open 24 = .ok (.iload 5, 2) := by decide +kernel
theorem dd_X5_open_26 : decode mb_X5_open 26 = .ok (.aload 4, 2) := by decide +kernel
theorem dd_X5_open_28 : decode mb_X5_open 28 = .ok (.getfield 46, 3) := by decide +kernel
theorem dd_X5_open_31 : decode mb_X5_open 31 = .ok (.if_icmp .ge 62, 3) := by decide +kernel
theorem dd_X5_open_93 : decode mb_X5_open 93 = .ok (.iconst 0, 1) := by decide +kernel
theorem dd_X5_open_94 : decode mb_X5_open 94 = .ok (.istore 5, 2) := by decide +kernel
theorem dd_X5_open_96 : decode mb_X5_open 96 = .ok (.iload 5, 2) := by decide +kernel
theorem dd_X5_open_98 : decode mb_X5_open 98 = .ok (.aload_n 1, 1) := by decide +kernel
theorem dd_X5_open_99 : decode mb_X5_open 99 = .ok (.getfield 59, 3) := by decide +kernel
theorem dd_X5_open_102 : decode mb_X5_open 102 = .ok (.getfield 63, 3) := by decide +kernel
theorem dd_X5_open_105 : decode mb_X5_open 105 = .ok (.if_icmp .ge 34, 3) := by decide +kernel
theorem dd_X5_open_139 : decode mb_X5_open 139 = .ok (.return_, 1) := by decide +kernel
theorem dd_X5_playHour_0 : decode mb_X5_playHour 0 = .ok (.iload_n 2, 1) := by decide +kernel
theorem dd_X5_playHour_1 : decode mb_X5_playHour 1 = .ok (.aload_n 0, 1) := by decide +kernel
theorem dd_X5_playHour_2 : decode mb_X5_playHour 2 = .ok (.getfield 9, 3) := by decide +kernel
theorem dd_X5_playHour_5 : decode mb_X5_playHour 5 = .ok (.aload_n 0, 1) := by decide +kernel
theorem dd_X5_playHour_6 : decode mb_X5_playHour 6 = .ok (.getfield 15, 3) := by decide +kernel
theorem dd_X5_playHour_9 : decode mb_X5_playHour 9 = .ok (.invokestatic 70, 3) := by decide +kernel
theorem dd_X5_playHour_12 : decode mb_X5_playHour 12 = .ok (.istore_n 3, 1) := by decide +kernel
theorem dd_X5_playHour_13 : decode mb_X5_playHour 13 = .ok (.iconst 0, 1) := by decide +kernel
theorem dd_X5_playHour_14 : decode mb_X5_playHour 14 = .ok (.istore 4, 2) := by decide +kernel
theorem dd_X5_playHour_16 : decode mb_X5_playHour 16 = .ok (.iconst 0, 1) := by decide +kernel
theorem dd_X5_playHour_17 : decode mb_X5_playHour 17 = .ok (.istore 5, 2) := by decide +kernel
theorem dd_X5_playHour_19 : decode mb_X5_playHour 19 = .ok (.iload 5, 2) := by decide +kernel
theorem dd_X5_playHour_21 : decode mb_X5_playHour 21 = .ok (.aload_n 1, 1) := by decide +kernel
theorem dd_X5_playHour_22 : decode mb_X5_playHour 22 = .ok (.getfield 59, 3) := by decide +kernel
theorem dd_X5_playHour_25 : decode mb_X5_playHour 25 = .ok (.getfield 63, 3) := by decide +kernel
theorem dd_X5_playHour_28 : decode mb_X5_playHour 28 = .ok (.if_icmp .ge 93, 3) := by decide +kernel
theorem dd_X5_playHour_121 : decode mb_X5_playHour 121 = .ok (.iload 4, 2) := by decide +kernel
theorem dd_X5_playHour_123 : decode mb_X5_playHour 123 = .ok (.ireturn, 1) := by decide +kernel
theorem dd_X5_settle_0 : decode mb_X5_settle 0 = .ok (.aload_n 1, 1) := by decide +kernel
theorem dd_X5_settle_1 : decode mb_X5_settle 1 = .ok (.getfield 40, 3) := by decide +kernel
theorem dd_X5_settle_4 : decode mb_X5_settle 4 = .ok (.astore_n 2, 1) := by decide +kernel
theorem dd_X5_settle_5 : decode mb_X5_settle 5 = .ok (.aload_n 1, 1) := by decide +kernel
theorem dd_X5_settle_6 : decode mb_X5_settle 6 = .ok (.getfield 59, 3) := by decide +kernel
theorem dd_X5_settle_9 : decode mb_X5_settle 9 = .ok (.astore_n 3, 1) := by decide +kernel
theorem dd_X5_settle_10 : decode mb_X5_settle 10 = .ok (.iconst 0, 1) := by decide +kernel
theorem dd_X5_settle_11 : decode mb_X5_settle 11 = .ok (.istore 4, 2) := by decide +kernel
theorem dd_X5_settle_13 : decode mb_X5_settle 13 = .ok (.iload 4, 2) := by decide +kernel
theorem dd_X5_settle_15 : decode mb_X5_settle 15 = .ok (.aload_n 2, 1) := by decide +kernel
theorem dd_X5_settle_16 : decode mb_X5_settle 16 = .ok (.getfield 46, 3) := by decide +kernel
theorem dd_X5_settle_19 : decode mb_X5_settle 19 = .ok (.if_icmp .ge 78, 3) := by decide +kernel
theorem dd_X5_settle_97 : decode mb_X5_settle 97 = .ok (.return_, 1) := by decide +kernel
theorem dd_X5_stage_0 : decode mb_X5_stage 0 = .ok (.iload_n 0, 1) := by decide +kernel
theorem dd_X5_stage_1 : decode mb_X5_stage 1 = .ok (.iload_n 2, 1) := by decide +kernel
theorem dd_X5_stage_2 : decode mb_X5_stage 2 = .ok (.if_icmp .lt 5, 3) := by decide +kernel
theorem dd_X5_stage_5 : decode mb_X5_stage 5 = .ok (.iconst 2, 1) := by decide +kernel
theorem dd_X5_stage_6 : decode mb_X5_stage 6 = .ok (.ireturn, 1) := by decide +kernel
theorem dd_X5_stage_7 : decode mb_X5_stage 7 = .ok (.iload_n 0, 1) := by decide +kernel
theorem dd_X5_stage_8 : decode mb_X5_stage 8 = .ok (.iload_n 1, 1) := by decide +kernel
theorem dd_X5_stage_9 : decode mb_X5_stage 9 = .ok (.if_icmp .lt 7, 3) := by decide +kernel
theorem dd_X5_stage_12 : decode mb_X5_stage 12 = .ok (.iconst 1, 1) := by decide +kernel
theorem dd_X5_stage_13 : decode mb_X5_stage 13 = .ok (.goto 4, 3) := by decide +kernel
theorem dd_X5_stage_16 : decode mb_X5_stage 16 = .ok (.iconst 0, 1) := by decide +kernel
theorem dd_X5_stage_17 : decode mb_X5_stage 17 = .ok (.ireturn, 1) := by decide +kernel
theorem dd_X5_wholeDay_0 : decode mb_X5_wholeDay 0 = .ok (.aload_n 0, 1) := by decide +kernel
theorem dd_X5_wholeDay_1 : decode mb_X5_wholeDay 1 = .ok (.aload_n 1, 1) := by decide +kernel
theorem dd_X5_wholeDay_2 : decode mb_X5_wholeDay 2 = .ok (.iload_n 2, 1) := by decide +kernel
theorem dd_X5_wholeDay_3 : decode mb_X5_wholeDay 3 = .ok (.iload_n 3, 1) := by decide +kernel
theorem dd_X5_wholeDay_4 : decode mb_X5_wholeDay 4 = .ok (.invokevirtual 104, 3) := by decide +kernel
theorem dd_X5_wholeDay_7 : decode mb_X5_wholeDay 7 = .ok (.iconst 0, 1) := by decide +kernel
theorem dd_X5_wholeDay_8 : decode mb_X5_wholeDay 8 = .ok (.istore 4, 2) := by decide +kernel
theorem dd_X5_wholeDay_10 : decode mb_X5_wholeDay 10 = .ok (.iconst 0, 1) := by decide +kernel
theorem dd_X5_wholeDay_11 : decode mb_X5_wholeDay 11 = .ok (.istore 5, 2) := by decide +kernel
theorem dd_X5_wholeDay_13 : decode mb_X5_wholeDay 13 = .ok (.iload 5, 2) := by decide +kernel
theorem dd_X5_wholeDay_15 : decode mb_X5_wholeDay 15 = .ok (.bipush 12, 2) := by decide +kernel
theorem dd_X5_wholeDay_17 : decode mb_X5_wholeDay 17 = .ok (.if_icmp .ge 21, 3) := by decide +kernel
theorem dd_X5_wholeDay_20 : decode mb_X5_wholeDay 20 = .ok (.iload 4, 2) := by decide +kernel
theorem dd_X5_wholeDay_22 : decode mb_X5_wholeDay 22 = .ok (.aload_n 0, 1) := by decide +kernel
theorem dd_X5_wholeDay_23 : decode mb_X5_wholeDay 23 = .ok (.aload_n 1, 1) := by decide +kernel
theorem dd_X5_wholeDay_24 : decode mb_X5_wholeDay 24 = .ok (.iload 5, 2) := by decide +kernel
theorem dd_X5_wholeDay_26 : decode mb_X5_wholeDay 26 = .ok (.invokevirtual 108, 3) := by decide +kernel
theorem dd_X5_wholeDay_29 : decode mb_X5_wholeDay 29 = .ok (.iadd, 1) := by decide +kernel
theorem dd_X5_wholeDay_30 : decode mb_X5_wholeDay 30 = .ok (.istore 4, 2) := by decide +kernel
theorem dd_X5_wholeDay_32 : decode mb_X5_wholeDay 32 = .ok (.iinc 5 1, 3) := by decide +kernel
theorem dd_X5_wholeDay_35 : decode mb_X5_wholeDay 35 = .ok (.goto (-22), 3) := by decide +kernel
theorem dd_X5_wholeDay_38 : decode mb_X5_wholeDay 38 = .ok (.iload 4, 2) := by decide +kernel
theorem dd_X5_wholeDay_40 : decode mb_X5_wholeDay 40 = .ok (.ireturn, 1) := by decide +kernel
theorem dd_X7_at_0 : decode mb_X7_at 0 = .ok (.aload_n 0, 1) := by decide +kernel
theorem dd_X7_at_1 : decode mb_X7_at 1 = .ok (.invokevirtual 32, 3) := by decide +kernel
theorem dd_X7_at_4 : decode mb_X7_at 4 = .ok (.ifCond .eq 26, 3) := by decide +kernel
theorem dd_X7_at_30 : decode mb_X7_at 30 = .ok (.lconst 0, 1) := by decide +kernel
theorem dd_X7_at_31 : decode mb_X7_at 31 = .ok (.lreturn, 1) := by decide +kernel
theorem dd_X7_hasRow_0 : decode mb_X7_hasRow 0 = .ok (.aload_n 0, 1) := by decide +kernel
theorem dd_X7_hasRow_1 : decode mb_X7_hasRow 1 = .ok (.getfield 15, 3) := by decide +kernel
theorem dd_X7_hasRow_4 : decode mb_X7_hasRow 4 = .ok (.iconst 0, 1) := by decide +kernel
theorem dd_X7_hasRow_5 : decode mb_X7_hasRow 5 = .ok (.iconst 4, 1) := by decide +kernel
theorem dd_X7_hasRow_6 : decode mb_X7_hasRow 6 = .ok (.invokestatic 22, 3) := by decide +kernel
theorem dd_X7_hasRow_9 : decode mb_X7_hasRow 9 = .ok (.ireturn, 1) := by decide +kernel
theorem dd_X7_hasThing_0 : decode mb_X7_hasThing 0 = .ok (.aload_n 0, 1) := by decide +kernel
theorem dd_X7_hasThing_1 : decode mb_X7_hasThing 1 = .ok (.getfield 15, 3) := by decide +kernel
theorem dd_X7_hasThing_4 : decode mb_X7_hasThing 4 = .ok (.bipush 10, 2) := by decide +kernel
theorem dd_X7_hasThing_6 : decode mb_X7_hasThing 6 = .ok (.if_icmp .lt 7, 3) := by decide +kernel
theorem dd_X7_hasThing_13 : decode mb_X7_hasThing 13 = .ok (.iconst 0, 1) := by decide +kernel
theorem dd_X7_hasThing_14 : decode mb_X7_hasThing 14 = .ok (.ireturn, 1) := by decide +kernel
theorem dd_X7_isEmpty_0 : decode mb_X7_isEmpty 0 = .ok (.aload_n 0, 1) := by decide +kernel
theorem dd_X7_isEmpty_1 : decode mb_X7_isEmpty 1 = .ok (.getfield 15, 3) := by decide +kernel
theorem dd_X7_isEmpty_4 : decode mb_X7_isEmpty 4 = .ok (.iconst (-1), 1) := by decide +kernel
theorem dd_X7_isEmpty_5 : decode mb_X7_isEmpty 5 = .ok (.if_icmp .ne 7, 3) := by decide +kernel
theorem dd_X7_isEmpty_8 : decode mb_X7_isEmpty 8 = .ok (.iconst 1, 1) := by decide +kernel
theorem dd_X7_isEmpty_9 : decode mb_X7_isEmpty 9 = .ok (.goto 4, 3) := by decide +kernel
theorem dd_X7_isEmpty_13 : decode mb_X7_isEmpty 13 = .ok (.ireturn, 1) := by decide +kernel
theorem dd_X7_takeRow_0 : decode mb_X7_takeRow 0 = .ok (.aload_n 0, 1) := by decide +kernel
theorem dd_X7_takeRow_1 : decode mb_X7_takeRow 1 = .ok (.iload_n 1, 1) := by decide +kernel
theorem dd_X7_takeRow_2 : decode mb_X7_takeRow 2 = .ok (.putfield 15, 3) := by decide +kernel
theorem dd_X7_takeRow_5 : decode mb_X7_takeRow 5 = .ok (.aload_n 0, 1) := by decide +kernel
theorem dd_X7_takeRow_6 : decode mb_X7_takeRow 6 = .ok (.iload_n 2, 1) := by decide +kernel
theorem dd_X7_takeRow_7 : decode mb_X7_takeRow 7 = .ok (.putfield 19, 3) := by decide +kernel
theorem dd_X7_takeRow_10 : decode mb_X7_takeRow 10 = .ok (.aload_n 0, 1) := by decide +kernel
theorem dd_X7_takeRow_11 : decode mb_X7_takeRow 11 = .ok (.getfield 9, 3) := by decide +kernel
theorem dd_X7_takeRow_14 : decode mb_X7_takeRow 14 = .ok (.lconst 0, 1) := by decide +kernel
theorem dd_X7_takeRow_15 : decode mb_X7_takeRow 15 = .ok (.invokestatic 26, 3) := by decide +kernel
theorem dd_X7_takeRow_18 : decode mb_X7_takeRow 18 = .ok (.return_, 1) := by decide +kernel
theorem dd_X8_add_0 : decode mb_X8_add 0 = .ok (.aload_n 0, 1) := by decide +kernel
theorem dd_X8_add_1 : decode mb_X8_add 1 = .ok (.getfield 9, 3) := by decide +kernel
theorem dd_X8_add_4 : decode mb_X8_add 4 = .ok (.aload_n 0, 1) := by decide +kernel
theorem dd_X8_add_5 : decode mb_X8_add 5 = .ok (.getfield 24, 3) := by decide +kernel
theorem dd_X8_add_8 : decode mb_X8_add 8 = .ok (.iload_n 1, 1) := by decide +kernel
theorem dd_X8_add_9 : decode mb_X8_add 9 = .ok (.iastore, 1) := by decide +kernel
theorem dd_X8_add_10 : decode mb_X8_add 10 = .ok (.aload_n 0, 1) := by decide +kernel
theorem dd_X8_add_11 : decode mb_X8_add 11 = .ok (.getfield 15, 3) := by decide +kernel
theorem dd_X8_add_14 : decode mb_X8_add 14 = .ok (.aload_n 0, 1) := by decide +kernel
theorem dd_X8_add_15 : decode mb_X8_add 15 = .ok (.getfield 24, 3) := by decide +kernel
theorem dd_X8_add_18 : decode mb_X8_add 18 = .ok (.iload_n 2, 1) := by decide +kernel
theorem dd_X8_add_19 : decode mb_X8_add 19 = .ok (.iastore, 1) := by decide +kernel
theorem dd_X8_add_20 : decode mb_X8_add 20 = .ok (.aload_n 0, 1) := by decide +kernel
theorem dd_X8_add_21 : decode mb_X8_add 21 = .ok (.getfield 18, 3) := by decide +kernel
theorem dd_X8_add_24 : decode mb_X8_add 24 = .ok (.aload_n 0, 1) := by decide +kernel
theorem dd_X8_add_25 : decode mb_X8_add 25 = .ok (.getfield 24, 3) := by decide +kernel
theorem dd_X8_add_28 : decode mb_X8_add 28 = .ok (.iload_n 3, 1) := by decide +kernel
theorem dd_X8_add_29 : decode mb_X8_add 29 = .ok (.iastore, 1) := by decide +kernel
theorem dd_X8_add_30 : decode mb_X8_add 30 = .ok (.aload_n 0, 1) := by decide +kernel
theorem dd_X8_add_31 : decode mb_X8_add 31 = .ok (.getfield 21, 3) := by decide +kernel
theorem dd_X8_add_34 : decode mb_X8_add 34 = .ok (.aload_n 0, 1) := by decide +kernel
theorem dd_X8_add_35 : decode mb_X8_add 35 = .ok (.getfield 24, 3) := by decide +kernel
theorem dd_X8_add_38 : decode mb_X8_add 38 = .ok (.iload 4, 2) := by decide +kernel
theorem dd_X8_add_40 : decode mb_X8_add 40 = .ok (.iastore, 1) := by decide +kernel
theorem dd_X8_add_41 : decode mb_X8_add 41 = .ok (.aload_n 0, 1) := by decide +kernel
theorem dd_X8_add_42 : decode mb_X8_add 42 = .ok (.dup, 1) := by decide +kernel
theorem dd_X8_add_43 : decode mb_X8_add 43 = .ok (.getfield 24, 3) := by decide +kernel
theorem dd_X8_add_46 : decode mb_X8_add 46 = .ok (.iconst 1, 1) := by decide +kernel
theorem dd_X8_add_47 : decode mb_X8_add 47 = .ok (.iadd, 1) := by decide +kernel
theorem dd_X8_add_48 : decode mb_X8_add 48 = .ok (.putfield 24, 3) := by decide +kernel
theorem dd_X8_add_51 : decode mb_X8_add 51 = .ok (.aload_n 0, 1) := by decide +kernel
theorem dd_X8_add_52 : decode mb_X8_add 52 = .ok (.getfield 24, 3) := by decide +kernel
theorem dd_X8_add_55 : decode mb_X8_add 55 = .ok (.iconst 1, 1) := by decide +kernel
theorem dd_X8_add_56 : decode mb_X8_add 56 = .ok (.isub, 1) := by decide +kernel
theorem dd_X8_add_57 : decode mb_X8_add 57 = .ok (.ireturn, 1) := by decide +kernel
theorem dd_X8_fewestVases_0 : decode mb_X8_fewestVases 0 = .ok (.aload_n 0, 1) := by decide +kernel
theorem dd_X8_fewestVases_1 : decode mb_X8_fewestVases 1 = .ok (.getfield 28, 3) := by decide +kernel
theorem dd_X8_fewestVases_4 : decode mb_X8_fewestVases 4 = .ok (.iconst (-1), 1) := by decide +kernel
theorem dd_X8_fewestVases_5 : decode mb_X8_fewestVases 5 = .ok (.invokestatic 41, 3) := by decide +kernel
theorem dd_X8_fewestVases_8 : decode mb_X8_fewestVases 8 = .ok (.iconst 0, 1) := by decide +kernel
theorem dd_X8_fewestVases_9 : decode mb_X8_fewestVases 9 = .ok (.istore_n 1, 1) := by decide +kernel
theorem dd_X8_fewestVases_10 : decode mb_X8_fewestVases 10 = .ok (.iconst 0, 1) := by decide +kernel
theorem dd_X8_fewestVases_11 : decode mb_X8_fewestVases 11 = .ok (.istore_n 2, 1) := by decide +kernel
theorem dd_X8_fewestVases_12 : decode mb_X8_fewestVases 12 = .ok (.iload_n 2, 1) := by decide +kernel
theorem dd_X8_fewestVases_13 : decode mb_X8_fewestVases 13 = .ok (.aload_n 0, 1) := by decide +kernel
theorem dd_X8_fewestVases_14 : decode mb_X8_fewestVases 14 = .ok (.getfield 24, 3) := by decide +kernel
theorem dd_X8_fewestVases_17 : decode mb_X8_fewestVases 17 = .ok (.if_icmp .ge 29, 3) := by decide +kernel
theorem dd_X8_fewestVases_46 : decode mb_X8_fewestVases 46 = .ok (.aload_n 0, 1) := by decide +kernel
theorem dd_X8_fewestVases_47 : decode mb_X8_fewestVases 47 = .ok (.getfield 24, 3) := by decide +kernel
theorem dd_X8_fewestVases_50 : decode mb_X8_fewestVases 50 = .ok (.iload_n 1, 1) := by decide +kernel
theorem dd_X8_fewestVases_51 : decode mb_X8_fewestVases 51 = .ok (.isub, 1) := by decide +kernel
theorem dd_X8_fewestVases_52 : decode mb_X8_fewestVases 52 = .ok (.ireturn, 1) := by decide +kernel
theorem dd_X8_has_0 : decode mb_X8_has 0 = .ok (.iload_n 1, 1) := by decide +kernel
theorem dd_X8_has_1 : decode mb_X8_has 1 = .ok (.iconst 0, 1) := by decide +kernel
theorem dd_X8_has_2 : decode mb_X8_has 2 = .ok (.aload_n 0, 1) := by decide +kernel
theorem dd_X8_has_3 : decode mb_X8_has 3 = .ok (.getfield 24, 3) := by decide +kernel
theorem dd_X8_has_6 : decode mb_X8_has 6 = .ok (.iconst 1, 1) := by decide +kernel
theorem dd_X8_has_7 : decode mb_X8_has 7 = .ok (.isub, 1) := by decide +kernel
theorem dd_X8_has_8 : decode mb_X8_has 8 = .ok (.invokestatic 37, 3) := by decide +kernel
theorem dd_X8_has_11 : decode mb_X8_has 11 = .ok (.ireturn, 1) := by decide +kernel
theorem dd_X8_longestRow_0 : decode mb_X8_longestRow 0 = .ok (.iconst 0, 1) := by decide +kernel
theorem dd_X8_longestRow_1 : decode mb_X8_longestRow 1 = .ok (.istore_n 1, 1) := by decide +kernel
theorem dd_X8_longestRow_2 : decode mb_X8_longestRow 2 = .ok (.iconst 0, 1) := by decide +kernel
theorem dd_X8_longestRow_3 : decode mb_X8_longestRow 3 = .ok (.istore_n 2, 1) := by decide +kernel
theorem dd_X8_longestRow_4 : decode mb_X8_longestRow 4 = .ok (.iload_n 2, 1) := by decide +kernel
theorem dd_X8_longestRow_5 : decode mb_X8_longestRow 5 = .ok (.bipush 99, 2) := by decide +kernel
theorem dd_X8_longestRow_7 : decode mb_X8_longestRow 7 = .ok (.if_icmp .gt 59, 3) := by decide +kernel
theorem dd_X8_longestRow_10 : decode mb_X8_longestRow 10 = .ok (.iconst 0, 1) := by decide +kernel
theorem dd_X8_longestRow_11 : decode mb_X8_longestRow 11 = .ok (.istore_n 3, 1) := by decide +kernel
theorem dd_X8_longestRow_12 : decode mb_X8_longestRow 12 = .ok (.iload_n 3, 1) := by decide +kernel
theorem dd_X8_longestRow_13 : decode mb_X8_longestRow 13 = .ok (.aload_n 0, 1) := by decide +kernel
theorem dd_X8_longestRow_14 : decode mb_X8_longestRow 14 = .ok (.getfield 24, 3) := by decide +kernel
theorem dd_X8_longestRow_17 : decode mb_X8_longestRow 17 = .ok (.if_icmp .ge 43, 3) := by decide +kernel
theorem dd_X8_longestRow_60 : decode mb_X8_longestRow 60 = .ok (.iinc 2 1, 3) := by decide +kernel
theorem dd_X8_longestRow_63 : decode mb_X8_longestRow 63 = .ok (.goto (-59), 3) := by decide +kernel
theorem dd_X8_longestRow_66 : decode mb_X8_longestRow 66 = .ok (.iload_n 1, 1) := by decide +kernel
theorem dd_X8_longestRow_67 : decode mb_X8_longestRow 67 = .ok (.ireturn, 1) := by decide +kernel
end
section
/-! contracts of two shapes, and how they are opened, ended and called -/
abbrev TY4 (cy : Nat → ClassId) : List (ClassId × FieldType) := [(cy 0, .int), (cy 1, .byte), (cy 2, .long), (cy 3, .boolean)]
abbrev TY (cy : Nat → ClassId) : List (ClassId × FieldType) := [(cy 0, .int), (cy 1, .byte), (cy 2, .long), (cy 3, .boolean), (cy 4, .object "WhiteElephants$Shelf")]
abbrev rmD (d mc ms : Nat) : Room := { frames := d, cells := mc, slots := ms, locals := 100 * d }
/-- a method that leaves the heap as it is -/
def PC (l : Launch) (y : MethodName) (b : ByteArray) (n : Nat) (r : Option FieldType) (rm : Room) (D : va_G) (ty : List (ClassId × FieldType)) (args : List Value) (X : State → Prop) (WS : va_W) (Qc : Array Value → State → Outcome → State → Prop) : Prop :=
  Met l y (wq y b n r) rm (va_Pc args (fun U => va_P D cls WS U.heap ∧ va_K D cls ty U ∧ X U)) Qc 0 0 (fun _ => False)
/-- a method that writes its cells WS and makes new ones -/
def HC (l : Launch) (y : MethodName) (b : ByteArray) (n : Nat) (r : Option FieldType) (rm : Room) (D : va_G) (ty : List (ClassId × FieldType)) (args : List Value) (X : (Nat → Prop) → State → Prop) (WS : va_W) (Qc : (Nat → Prop) → Array Value → State → Outcome → State → Prop) : Prop :=
  ∀ sz : Nat, Met l y (wq y b n r) rm (va_Pc args (fun U => U.heap.size = sz ∧ va_P D cls WS U.heap ∧ va_K D cls ty U ∧ va_D (fun _ => True) WS ∧ X (va_A WS sz) U)) (Qc (va_A WS sz)) rm.cells rm.slots (va_A WS sz)
abbrev QI {S : Type} (D : va_G) (post : Int32 → S → Prop) (W1 : S → va_W) : (Nat → Prop) → Array Value → State → Outcome → State → Prop := fun A => va_Qi post (fun u t => va_P D cls (W1 u) t.heap ∧ va_D A (W1 u)) A
abbrev QL {S : Type} (D : va_G) (post : Int64 → S → Prop) (W1 : S → va_W) : (Nat → Prop) → Array Value → State → Outcome → State → Prop := fun A => va_Ql post (fun u t => va_P D cls (W1 u) t.heap ∧ va_D A (W1 u)) A
abbrev QV {S : Type} (D : va_G) (post : S → Prop) (W1 : S → va_W) : (Nat → Prop) → Array Value → State → Outcome → State → Prop := fun A => va_Qv post (fun u t => va_P D cls (W1 u) t.heap ∧ va_D A (W1 u)) A
abbrev NS : State → Prop := fun U => NN U
theorem ns_b : ∀ (a : Array Value) (U : State) (g : JFrame) (mk : MethodId), NS U → NS (U.calling g mk a) := fun _ _ _ _ h => NN.call h
theorem nx_b : ∀ (A : Nat → Prop) (a : Array Value) (U : State) (g : JFrame) (mk : MethodId), NX A U → NX A (U.calling g mk a) := fun _ _ _ _ _ h => NN.call h
theorem ns_w {s : State} {H : Heap} (h : NN s) : ∀ U : State, U.heap = H → s.WarmedH U.vm → NS U := fun _ _ hW => NN.warm hW h
theorem nx_w {s : State} {H : Heap} {A : Nat → Prop} (h : NN s) : ∀ U : State, U.heap = H → s.WarmedH U.vm → NX A U := fun _ _ hW => NN.warm hW h
theorem pc_intro {l : Launch} {y : MethodName} {b : ByteArray} {n : Nat} {r : Option FieldType} {rm : Room} {D : va_G} {ty : List (ClassId × FieldType)} {args : List Value} {X : State → Prop} {WS : va_W} {Qc : Array Value → State → Outcome → State → Prop} (hy : plainName y.cls = true) (hn : (lg_sl args).length ≤ n)
    (body : ∀ (p : Program) (e : Env) (s : State) (m : MethodId) (below : List Frame) (meth : Method) (c : Code) (ls : Array Slot), CallFix p m c b n s args.toArray BW y.cls → meth.sig.returnType = r → meth.locks = false → lv_has ls n (lv_args 0 args) → va_P D cls WS s.heap → va_K D cls ty s → X s →
      W p l e rm s m args.toArray below meth c s.heap [] 0 0 (MQ below Qc args.toArray s 0 0 (fun _ => False)) (F0 m 0 ls [])) : PC l y b n r rm D ty args X WS Qc := by
  refine Met.ofW (cc := b) (maxL := n) (ret := r) hy rfl ?_
  intro p e s m args' below meth c s₁ B hml hv
  obtain ⟨rfl, hP, hK, hX⟩ := hv
  have hts := atoms_spec (ws := wq y b n r) B.pre
  have hl := lv_entry args (n := n) hn
  rw [lg_entry_eq]
  generalize (lg_sl args ++ List.replicate (n - (lg_sl args).length) Slot.unset).toArray = ls at hl ⊢
  exact body p e s m below meth c ls ⟨B.exec, B.bytes, hml, findClass_of_methodNamed B.named, fun w h => hts w (List.mem_cons_of_mem _ h)⟩ B.returns B.notSynchronized hl hP hK hX
theorem hc_intro {l : Launch} {y : MethodName} {b : ByteArray} {n : Nat} {r : Option FieldType} {rm : Room} {D : va_G} {ty : List (ClassId × FieldType)} {args : List Value} {X : (Nat → Prop) → State → Prop} {WS : va_W} {Qc : (Nat → Prop) → Array Value → State → Outcome → State → Prop} (hy : plainName y.cls = true) (hn : (lg_sl args).length ≤ n)
    (body : ∀ (p : Program) (e : Env) (s : State) (m : MethodId) (below : List Frame) (meth : Method) (c : Code) (A : Nat → Prop) (ls : Array Slot), CallFix p m c b n s args.toArray BW y.cls → meth.sig.returnType = r → meth.locks = false → meth.name = y.name → lv_has ls n (lv_args 0 args) → va_P D cls WS s.heap → va_D A WS → va_K D cls ty s → va_S A s.heap s.heap [] → (∀ q : Nat, s.heap.size ≤ q → A q) → X A s →
      W p l e rm s m args.toArray below meth c s.heap [] 0 0 (MQ below (Qc A) args.toArray s rm.cells rm.slots A) (F0 m 0 ls [])) : HC l y b n r rm D ty args X WS Qc := by
  intro sz
  refine Met.ofW (cc := b) (maxL := n) (ret := r) hy rfl ?_
  intro p e s m args' below meth c s₁ B hml hv
  obtain ⟨rfl, hsz, hP, hK, hD0, hX⟩ := hv
  have hts := atoms_spec (ws := wq y b n r) B.pre
  have hl := lv_entry args (n := n) hn
  rw [lg_entry_eq]
  generalize (lg_sl args ++ List.replicate (n - (lg_sl args).length) Slot.unset).toArray = ls at hl ⊢
  subst hsz
  exact body p e s m below meth c _ ls ⟨B.exec, B.bytes, hml, findClass_of_methodNamed B.named, fun w h => hts w (List.mem_cons_of_mem _ h)⟩ B.returns B.notSynchronized (name_of_methodNamed B.named B.method).1 hl hP hD0.self hK va_S.rf (fun q h => Or.inr h) hX
theorem ci_lt {x y : Int32} {a b : Int} (hx : x.toInt = a) (hy : y.toInt = b) (h : x < y) : a < b := by subst hx; subst hy; exact Int32.lt_iff_toInt_lt.mp h
theorem ci_nlt {x y : Int32} {a b : Int} (hx : x.toInt = a) (hy : y.toInt = b) (h : ¬ x < y) : b ≤ a := by subst hx; subst hy; exact Int.not_lt.mp (fun q => h (Int32.lt_iff_toInt_lt.mpr q))
theorem ci_le {x y : Int32} {a b : Int} (hx : x.toInt = a) (hy : y.toInt = b) (h : x ≤ y) : a ≤ b := by subst hx; subst hy; exact Int32.le_iff_toInt_le.mp h
theorem ci_nle {x y : Int32} {a b : Int} (hx : x.toInt = a) (hy : y.toInt = b) (h : ¬ x ≤ y) : b < a := by subst hx; subst hy; exact Int.not_le.mp (fun q => h (Int32.le_iff_toInt_le.mpr q))
theorem ci_eq {x y : Int32} {a b : Int} (hx : x.toInt = a) (hy : y.toInt = b) (h : x = y) : a = b := by subst hx; subst hy; rw [h]
theorem ci_ne {x y : Int32} {a b : Int} (hx : x.toInt = a) (hy : y.toInt = b) (h : ¬ x = y) : ¬ a = b := by subst hx; subst hy; exact fun q => h (Int32.toInt_inj.mp q)
theorem ci_of {x y : Int32} {b : Int} (hy : y.toInt = b) (h : x.toInt = b) : x = y := Int32.toInt_inj.mp (h.trans hy.symm)
theorem ti_add {x y : Int32} {a b : Int} (hx : x.toInt = a) (hy : y.toInt = b) (h1 : -2147483648 ≤ a + b) (h2 : a + b ≤ 2147483647) : (x + y).toInt = a + b := by
  subst hx; subst hy
  rw [Int32.toInt_add]
  exact Int.bmod_eq_of_le (by omega) (by omega)
theorem ti_sub {x y : Int32} {a b : Int} (hx : x.toInt = a) (hy : y.toInt = b) (h1 : -2147483648 ≤ a - b) (h2 : a - b ≤ 2147483647) : (x - y).toInt = a - b := by
  subst hx; subst hy
  rw [Int32.toInt_sub]
  exact Int.bmod_eq_of_le (by omega) (by omega)
theorem ti_mul {x y : Int32} {a b : Int} (hx : x.toInt = a) (hy : y.toInt = b) (h1 : -2147483648 ≤ a * b) (h2 : a * b ≤ 2147483647) : (x * y).toInt = a * b := by
  subst hx; subst hy
  rw [Int32.toInt_mul]
  exact Int.bmod_eq_of_le (by omega) (by omega)
theorem upd_c (k : Nat) (v : Int32) : upd (fun _ => v) k v = fun _ => v := by
  funext j
  simp [upd]
theorem updL_c (k : Nat) (v : Int64) : vp_updL (fun _ => v) k v = fun _ => v := by
  funext j
  simp [vp_updL]
theorem upd_at {f : Nat → Int32} {i : Int32} {x : Int32} {n : Int} (hi : i.toInt = n) (h0 : 0 ≤ n) : ∀ j : Nat, upd f i.toNatClampNeg x j = if (j : Int) = n then x else f j := by
  intro j
  have e : (i.toNatClampNeg : Int) = n := by
    subst hi
    show (i.toInt.toNat : Int) = i.toInt
    omega
  by_cases h : (j : Int) = n
  · rw [if_pos h]; simp [upd, show j = i.toNatClampNeg by omega]
  · rw [if_neg h]; simp [upd, show ¬ j = i.toNatClampNeg by omega]
theorem nc_at {i : Int32} (h0 : 0 ≤ i.toInt) : (i.toNatClampNeg : Int) = i.toInt := by
  show (i.toInt.toNat : Int) = i.toInt
  omega
theorem vi_of {x : Int32} {n : Nat} (h : 0 ≤ x.toInt ∧ x.toInt < (n : Int)) : vp_in x n := vp_in_iff.mpr h
theorem vi_lt {x : Int32} {n : Nat} (h : vp_in x n) : x.toNatClampNeg < n := Nat.lt_of_not_le (fun q => h (Or.inr q))
/-- one of two answers, by a condition -/
abbrev if2 (P : Prop) (a b r : Int32) : Prop := (P ∧ r = a) ∨ (¬ P ∧ r = b)
theorem if2_eq {P : Prop} {a b r t : Int32} (h1 : if2 P a b r) (h2 : if2 P a b t) : r = t := by
  rcases h1 with ⟨p, h⟩ | ⟨p, h⟩ <;> rcases h2 with ⟨q, k⟩ | ⟨q, k⟩
  · rw [h, k]
  · exact absurd p q
  · exact absurd q p
  · rw [h, k]
section WK2
variable {p : Program} {l : Launch} {e : Env} {R : Room} {s : State} {m : MethodId} {args : Array Value} {below : List Frame} {meth : Method} {c : Code} {H : Heap} {locs : List Loc} {cells slots : Nat} {Q : State → Prop}
variable {cc : ByteArray} {pc nL idx n k : Nat} {ls : Array Slot} {own : String} {y : MethodName} {b : ByteArray} {r : Option FieldType} {rm : Room} {o : Nat} {st0 : List Value} {D : va_G} {ty : List (ClassId × FieldType)} {X : State → Prop} {Y : (Nat → Prop) → State → Prop} {ws wc wr : va_W} {A0 : Nat → Prop} {H0 : Heap}
theorem pc_bl {av : List (ClassId × FieldType)} {WS : va_W} (hX : ∀ (a : Array Value) (U : State) (g : JFrame) (mk : MethodId), X U → X (U.calling g mk a)) : ∀ (a : Array Value) (U : State) (g : JFrame) (mk : MethodId), (va_P D cls WS U.heap ∧ va_K D cls av U ∧ X U) → (va_P D cls WS (U.calling g mk a).heap ∧ va_K D cls av (U.calling g mk a) ∧ X (U.calling g mk a)) := fun a U g mk q => ⟨q.1, va_K.moved (u := U) (U := U.calling g mk a) (Vm.Alike.refl U.vm) q.2.1, hX a U g mk q.2.2⟩
theorem hc_bl {av : List (ClassId × FieldType)} {WS : va_W} {sz : Nat} {A : Nat → Prop} (hX : ∀ (A : Nat → Prop) (a : Array Value) (U : State) (g : JFrame) (mk : MethodId), Y A U → Y A (U.calling g mk a)) : ∀ (a : Array Value) (U : State) (g : JFrame) (mk : MethodId), (U.heap.size = sz ∧ va_P D cls WS U.heap ∧ va_K D cls av U ∧ va_D (fun _ => True) WS ∧ Y A U) → ((U.calling g mk a).heap.size = sz ∧ va_P D cls WS (U.calling g mk a).heap ∧ va_K D cls av (U.calling g mk a) ∧ va_D (fun _ => True) WS ∧ Y A (U.calling g mk a)) := fun a U g mk q => ⟨q.1, q.2.1, va_K.moved (u := U) (U := U.calling g mk a) (Vm.Alike.refl U.vm) q.2.2.1, q.2.2.2.1, hX A a U g mk q.2.2.2.2⟩
/-- the ends -/
theorem pc_ret {post : Int32 → Prop} {v : Int32} (Sx : CallFix p m c cc nL s args BW own) {ft : FieldType} (hr : meth.sig.returnType = some ft) (hlocks : meth.locks = false) (hn : narrow ft (.int v) = .int v) (hdg : decode cc pc = .ok (.ireturn, 1)) (hv : post v) : W p l e R s m args below meth c s.heap [] cells slots (MQ below (vp_Si post) args s cells slots (fun _ => False)) (F0 m pc ls [.int v]) :=
  W.zret Sx.1 Sx.2.1 hr hn (fun t ht _ => ⟨v, rfl, hv, ht⟩) (fun q h => absurd h List.not_mem_nil) hdg hlocks
theorem pc_vret {post : Unit → Prop} (Sx : CallFix p m c cc nL s args BW own) (hr : meth.sig.returnType = none) (hlocks : meth.locks = false) (hdg : decode cc pc = .ok (.return_, 1)) (hv : post ()) : W p l e R s m args below meth c s.heap [] cells slots (MQ below (va_Sv post) args s cells slots (fun _ => False)) (F0 m pc ls []) :=
  W.vret Sx.1 Sx.2.1 hr (fun t ht _ => ⟨rfl, hv, ht⟩) (fun q h => absurd h List.not_mem_nil) hdg hlocks
theorem pc_lret {post : Int64 → Prop} {v : Int64} (Sx : CallFix p m c cc nL s args BW own) (hr : meth.sig.returnType = some .long) (hlocks : meth.locks = false) (hdg : decode cc pc = .ok (.lreturn, 1)) (hv : post v) : W p l e R s m args below meth c s.heap [] cells slots (MQ below (vp_Sl post) args s cells slots (fun _ => False)) (F0 m pc ls [.long v]) :=
  W.lret Sx.1 Sx.2.1 hr (fun t ht _ => ⟨v, rfl, hv, ht⟩) (fun q h => absurd h List.not_mem_nil) hdg hlocks
theorem hc_ret {S : Type} {post : Int32 → S → Prop} {W1 : S → va_W} {v : Int32} (Sx : CallFix p m c cc nL s args BW own) (hr : meth.sig.returnType = some .int) (hlocks : meth.locks = false) (hdg : decode cc pc = .ok (.ireturn, 1)) (hS : va_S A0 s.heap H locs) (u : S) (hv : post v u) (hP : va_P D cls (W1 u) H) (hD : va_D A0 (W1 u)) : W p l e R s m args below meth c H locs cells slots (MQ below (QI D post W1 A0) args s cells slots A0) (F0 m pc ls [.int v]) :=
  W.iret Sx.1 Sx.2.1 hr (fun t ht _ => ⟨⟨v, u, rfl, hv, by rw [ht]; exact hP, hD⟩, hS.F ht⟩) hS.2.2 hdg hlocks
theorem hc_vret {S : Type} {post : S → Prop} {W1 : S → va_W} (Sx : CallFix p m c cc nL s args BW own) (hr : meth.sig.returnType = none) (hlocks : meth.locks = false) (hdg : decode cc pc = .ok (.return_, 1)) (hS : va_S A0 s.heap H locs) (u : S) (hv : post u) (hP : va_P D cls (W1 u) H) (hD : va_D A0 (W1 u)) : W p l e R s m args below meth c H locs cells slots (MQ below (QV D post W1 A0) args s cells slots A0) (F0 m pc ls []) :=
  W.vret Sx.1 Sx.2.1 hr (fun t ht _ => ⟨⟨u, rfl, hv, by rw [ht]; exact hP, hD⟩, hS.F ht⟩) hS.2.2 hdg hlocks
theorem hc_lret {S : Type} {post : Int64 → S → Prop} {W1 : S → va_W} {v : Int64} (Sx : CallFix p m c cc nL s args BW own) (hr : meth.sig.returnType = some .long) (hlocks : meth.locks = false) (hdg : decode cc pc = .ok (.lreturn, 1)) (hS : va_S A0 s.heap H locs) (u : S) (hv : post v u) (hP : va_P D cls (W1 u) H) (hD : va_D A0 (W1 u)) : W p l e R s m args below meth c H locs cells slots (MQ below (QL D post W1 A0) args s cells slots A0) (F0 m pc ls [.long v]) :=
  W.lret Sx.1 Sx.2.1 hr (fun t ht _ => ⟨⟨v, u, rfl, hv, by rw [ht]; exact hP, hD⟩, hS.F ht⟩) hS.2.2 hdg hlocks
/-- calls of a method that leaves the heap as it is: what it answers -/
theorem pk_i {post : Int32 → Prop} {a : Array Value} {rest : List Value} (hr : va_Run p l e R s m args below meth c H locs cells slots 0 0 (F0 m pc ls st0) rest (vp_Si post a) (fun _ => False)) (kk : ∀ v : Int32, post v → W p l e R s m args below meth c H locs cells slots Q (F0 m (pc + 3) ls (.int v :: rest))) : W p l e R s m args below meth c H locs cells slots Q (F0 m pc ls st0) := vp_callSi hr.run kk
theorem pk_l {post : Int64 → Prop} {a : Array Value} {rest : List Value} (hr : va_Run p l e R s m args below meth c H locs cells slots 0 0 (F0 m pc ls st0) rest (vp_Sl post a) (fun _ => False)) (kk : ∀ v : Int64, post v → W p l e R s m args below meth c H locs cells slots Q (F0 m (pc + 3) ls (.long v :: rest))) : W p l e R s m args below meth c H locs cells slots Q (F0 m pc ls st0) := vp_callSl hr.run kk
theorem pk_v {post : Unit → Prop} {a : Array Value} {rest : List Value} (hr : va_Run p l e R s m args below meth c H locs cells slots 0 0 (F0 m pc ls st0) rest (va_Sv post a) (fun _ => False)) (kk : post () → W p l e R s m args below meth c H locs cells slots Q (F0 m (pc + 3) ls rest)) : W p l e R s m args below meth c H locs cells slots Q (F0 m pc ls st0) := va_csv hr.run kk
theorem pc_V {Qc : Array Value → State → Outcome → State → Prop} (As rest : List Value) (Sx : CallFix p m c cc nL s args BW own) (hls : ls.size = nL) (w : WV own idx y b n r) (md : MD y k) (hM : PC l y b n r rm D ty (.ref o :: As) X wc Qc) (hrm : rm.cells = 0 ∧ rm.slots = 0) (hR : rm.frames + 1 ≤ R.frames ∧ 8 + (n + 11) + rm.locals ≤ R.locals) (hP : va_P D cls wc H) (hK : va_K D cls ty s) (hXb : ∀ (a : Array Value) (U : State) (g : JFrame) (mk : MethodId), X U → X (U.calling g mk a)) (hX : ∀ U : State, U.heap = H → s.WarmedH U.vm → X U)
    (hrv : ∃ cell : Cell, H[o]? = some cell ∧ cell.vm.isStatics = false ∧ s.vm.findClass y.cls = some cell.cls) (hn : As.length = k) (hst : st0 = As.reverse ++ .ref o :: rest) (hW : (rest.map fun v => v.category).sum ≤ 8) (hdg : decode cc pc = .ok (.invokevirtual idx, 3)) (hf : cells + 0 ≤ R.cells ∧ slots + 0 ≤ R.slots) :
    va_Run p l e R s m args below meth c H locs cells slots 0 0 (F0 m pc ls st0) rest (Qc (Value.ref o :: As).toArray) (fun _ => False) :=
  wk_rV As rest Sx hls w md hM hrm hR (pc_bl hXb) (fun U hU hW => ⟨by rw [hU]; exact hP, va_K.moved hW.alike hK, hX U hU hW⟩) hrv hn hst hW hdg hf
theorem pc_T {Qc : Array Value → State → Outcome → State → Prop} (As rest : List Value) (Sx : CallFix p m c cc nL s args BW own) (hls : ls.size = nL) (w : WT own idx y b n r) (md : MD y k) (hM : PC l y b n r rm D ty As X wc Qc) (hrm : rm.cells = 0 ∧ rm.slots = 0) (hR : rm.frames + 1 ≤ R.frames ∧ 8 + (n + 11) + rm.locals ≤ R.locals) (hP : va_P D cls wc H) (hK : va_K D cls ty s) (hXb : ∀ (a : Array Value) (U : State) (g : JFrame) (mk : MethodId), X U → X (U.calling g mk a)) (hX : ∀ U : State, U.heap = H → s.WarmedH U.vm → X U)
    (hn : As.length = k) (hst : st0 = As.reverse ++ rest) (hW : (rest.map fun v => v.category).sum ≤ 8) (hdg : decode cc pc = .ok (.invokestatic idx, 3)) (hf : cells + 0 ≤ R.cells ∧ slots + 0 ≤ R.slots) :
    va_Run p l e R s m args below meth c H locs cells slots 0 0 (F0 m pc ls st0) rest (Qc As.toArray) (fun _ => False) :=
  wk_rT As rest Sx hls w md hM hrm hR (pc_bl hXb) (fun U hU hW => ⟨by rw [hU]; exact hP, va_K.moved hW.alike hK, hX U hU hW⟩) hn hst hW hdg hf
theorem pc_TN {Qc : Array Value → State → Outcome → State → Prop} (As rest : List Value) (Sx : CallFix p m c cc nL s args BW own) (hNN : NN s) (hls : ls.size = nL) (w : WTN own idx y b n r) (md : MD y k) (hM : PC l y b n r rm D ty As X wc Qc) (hrm : rm.cells = 0 ∧ rm.slots = 0) (hR : rm.frames + 1 ≤ R.frames ∧ 8 + (n + 11) + rm.locals ≤ R.locals) (hP : va_P D cls wc H) (hK : va_K D cls ty s) (hXb : ∀ (a : Array Value) (U : State) (g : JFrame) (mk : MethodId), X U → X (U.calling g mk a)) (hX : ∀ U : State, U.heap = H → s.WarmedH U.vm → X U)
    (hn : As.length = k) (hst : st0 = As.reverse ++ rest) (hW : (rest.map fun v => v.category).sum ≤ 8) (hdg : decode cc pc = .ok (.invokestatic idx, 3)) (hf : cells + 0 ≤ R.cells ∧ slots + 0 ≤ R.slots) :
    va_Run p l e R s m args below meth c H locs cells slots 0 0 (F0 m pc ls st0) rest (Qc As.toArray) (fun _ => False) :=
  wk_rTN As rest Sx hNN hls w md hM hrm hR (pc_bl hXb) (fun U hU hW => ⟨by rw [hU]; exact hP, va_K.moved hW.alike hK, hX U hU hW⟩) hn hst hW hdg hf
/-- calls of a method that writes -/
theorem hc_V {Qc : (Nat → Prop) → Array Value → State → Outcome → State → Prop} (As rest : List Value) (isC : List Nat) (Sx : CallFix p m c cc nL s args BW own) (hls : ls.size = nL) (w : WV own idx y b n r) (md : MD y k) (hM : HC l y b n r rm D ty (.ref o :: As) Y wc Qc) (hR : rm.frames + 1 ≤ R.frames ∧ 8 + (n + 11) + rm.locals ≤ R.locals) (hP : va_P D cls ws H) (hD : va_D A0 ws) (hC : isC.map (fun i => ws[i]?) = wc.map some) (hnC : va_nd isC = true) (hK : va_K D cls ty s) (hXb : ∀ (A : Nat → Prop) (a : Array Value) (U : State) (g : JFrame) (mk : MethodId), Y A U → Y A (U.calling g mk a)) (hX : ∀ U : State, U.heap = H → s.WarmedH U.vm → Y (va_A wc H.size) U)
    (hrv : ∃ cell : Cell, H[o]? = some cell ∧ cell.vm.isStatics = false ∧ s.vm.findClass y.cls = some cell.cls) (hn : As.length = k) (hst : st0 = As.reverse ++ .ref o :: rest) (hW : (rest.map fun v => v.category).sum ≤ 8) (hdg : decode cc pc = .ok (.invokevirtual idx, 3)) (hf : cells + rm.cells ≤ R.cells ∧ slots + rm.slots ≤ R.slots) :
    va_Run p l e R s m args below meth c H locs cells slots rm.cells rm.slots (F0 m pc ls st0) rest (Qc (va_A wc H.size) (Value.ref o :: As).toArray) (va_A wc H.size) :=
  wk_rV As rest Sx hls w md (hM H.size) ⟨rfl, rfl⟩ hR (hc_bl hXb) (fun U hU hW => ⟨by rw [hU], by rw [hU]; exact wk_subC hP hC, va_K.moved hW.alike hK, (hD.sub isC hnC hC).weaken (fun _ _ _ _ => trivial), hX U hU hW⟩) hrv hn hst hW hdg hf
theorem hc_T {Qc : (Nat → Prop) → Array Value → State → Outcome → State → Prop} (As rest : List Value) (isC : List Nat) (Sx : CallFix p m c cc nL s args BW own) (hls : ls.size = nL) (w : WT own idx y b n r) (md : MD y k) (hM : HC l y b n r rm D ty As Y wc Qc) (hR : rm.frames + 1 ≤ R.frames ∧ 8 + (n + 11) + rm.locals ≤ R.locals) (hP : va_P D cls ws H) (hD : va_D A0 ws) (hC : isC.map (fun i => ws[i]?) = wc.map some) (hnC : va_nd isC = true) (hK : va_K D cls ty s) (hXb : ∀ (A : Nat → Prop) (a : Array Value) (U : State) (g : JFrame) (mk : MethodId), Y A U → Y A (U.calling g mk a)) (hX : ∀ U : State, U.heap = H → s.WarmedH U.vm → Y (va_A wc H.size) U)
    (hn : As.length = k) (hst : st0 = As.reverse ++ rest) (hW : (rest.map fun v => v.category).sum ≤ 8) (hdg : decode cc pc = .ok (.invokestatic idx, 3)) (hf : cells + rm.cells ≤ R.cells ∧ slots + rm.slots ≤ R.slots) :
    va_Run p l e R s m args below meth c H locs cells slots rm.cells rm.slots (F0 m pc ls st0) rest (Qc (va_A wc H.size) As.toArray) (va_A wc H.size) :=
  wk_rT As rest Sx hls w md (hM H.size) ⟨rfl, rfl⟩ hR (hc_bl hXb) (fun U hU hW => ⟨by rw [hU], by rw [hU]; exact wk_subC hP hC, va_K.moved hW.alike hK, (hD.sub isC hnC hC).weaken (fun _ _ _ _ => trivial), hX U hU hW⟩) hn hst hW hdg hf
theorem hc_I {Qc : (Nat → Prop) → Array Value → State → Outcome → State → Prop} (As rest : List Value) (isC : List Nat) (Sx : CallFix p m c cc nL s args BW own) (hls : ls.size = nL) (w : WI own idx y b n) (md : MD y k) (hi : y.name = "<init>") (hM : HC l y b n none rm D ty (.ref o :: As) Y wc Qc) (hR : rm.frames + 1 ≤ R.frames ∧ 8 + (n + 11) + rm.locals ≤ R.locals) (hP : va_P D cls ws H) (hD : va_D A0 ws) (hC : isC.map (fun i => ws[i]?) = wc.map some) (hnC : va_nd isC = true) (hK : va_K D cls ty s) (hXb : ∀ (A : Nat → Prop) (a : Array Value) (U : State) (g : JFrame) (mk : MethodId), Y A U → Y A (U.calling g mk a)) (hX : ∀ U : State, U.heap = H → s.WarmedH U.vm → Y (va_A wc H.size) U)
    (hn : As.length = k) (hst : st0 = As.reverse ++ .ref o :: rest) (hW : (rest.map fun v => v.category).sum ≤ 8) (hdg : decode cc pc = .ok (.invokespecial idx, 3)) (hf : cells + rm.cells ≤ R.cells ∧ slots + rm.slots ≤ R.slots) :
    va_Run p l e R s m args below meth c H locs cells slots rm.cells rm.slots (F0 m pc ls st0) rest (Qc (va_A wc H.size) (Value.ref o :: As).toArray) (va_A wc H.size) :=
  wk_rI As rest Sx hls w md hi (hM H.size) ⟨rfl, rfl⟩ hR (hc_bl hXb) (fun U hU hW => ⟨by rw [hU], by rw [hU]; exact wk_subC hP hC, va_K.moved hW.alike hK, (hD.sub isC hnC hC).weaken (fun _ _ _ _ => trivial), hX U hU hW⟩) hn hst hW hdg hf
theorem hc_IN {Qc : (Nat → Prop) → Array Value → State → Outcome → State → Prop} (As rest : List Value) (isC : List Nat) (Sx : CallFix p m c cc nL s args BW own) (hNN : NN s) (hls : ls.size = nL) (w : WIN own idx y b n) (md : MD y k) (hi : y.name = "<init>") (hM : HC l y b n none rm D ty (.ref o :: As) Y wc Qc) (hR : rm.frames + 1 ≤ R.frames ∧ 8 + (n + 11) + rm.locals ≤ R.locals) (hP : va_P D cls ws H) (hD : va_D A0 ws) (hC : isC.map (fun i => ws[i]?) = wc.map some) (hnC : va_nd isC = true) (hK : va_K D cls ty s) (hXb : ∀ (A : Nat → Prop) (a : Array Value) (U : State) (g : JFrame) (mk : MethodId), Y A U → Y A (U.calling g mk a)) (hX : ∀ U : State, U.heap = H → s.WarmedH U.vm → Y (va_A wc H.size) U)
    (hn : As.length = k) (hst : st0 = As.reverse ++ .ref o :: rest) (hW : (rest.map fun v => v.category).sum ≤ 8) (hdg : decode cc pc = .ok (.invokespecial idx, 3)) (hf : cells + rm.cells ≤ R.cells ∧ slots + rm.slots ≤ R.slots) :
    va_Run p l e R s m args below meth c H locs cells slots rm.cells rm.slots (F0 m pc ls st0) rest (Qc (va_A wc H.size) (Value.ref o :: As).toArray) (va_A wc H.size) :=
  wk_rIN As rest Sx hNN hls w md hi (hM H.size) ⟨rfl, rfl⟩ hR (hc_bl hXb) (fun U hU hW => ⟨by rw [hU], by rw [hU]; exact wk_subC hP hC, va_K.moved hW.alike hK, (hD.sub isC hnC hC).weaken (fun _ _ _ _ => trivial), hX U hU hW⟩) hn hst hW hdg hf
/-- behind such a call: what it left, beside the rest -/
theorem hk_i {S : Type} {post : Int32 → S → Prop} {W1 : S → va_W} {a : Array Value} {rest : List Value} {mc ms c1 s1 : Nat} (isC isR : List Nat) (hr : va_Run p l e R s m args below meth c H locs cells slots mc ms (F0 m pc ls st0) rest (QI D post W1 (va_A wc H.size) a) (va_A wc H.size)) (hS : va_S A0 H0 H locs) (hA : ∀ q : Nat, H0.size ≤ q → A0 q) (hP : va_P D cls ws H) (hD : va_D A0 ws) (hC : isC.map (fun i => ws[i]?) = wc.map some) (hRr : isR.map (fun i => ws[i]?) = wr.map some) (hn : va_nd isR = true) (hdis : ∀ i ∈ isR, i ∉ isC) (h1 : cells + mc = c1) (h2 : slots + ms = s1)
    (kk : ∀ (v : Int32) (u : S) (H1 : Heap) (locs1 : List Loc), post v u → va_P D cls (wr ++ W1 u) H1 → va_D A0 (wr ++ W1 u) → va_S A0 H0 H1 locs1 → W p l e R s m args below meth c H1 locs1 c1 s1 Q (F0 m (pc + 3) ls (.int v :: rest))) : W p l e R s m args below meth c H locs cells slots Q (F0 m pc ls st0) := by
  subst h1; subst h2
  have hFc := va_free hD hS hA isC hC
  refine va_calli hr hS (fun q _ h => hFc q h) hFc (fun v u t H1 locs1 ht hvm hw hB hz hk hS1 => ?_)
  obtain ⟨hP1, hD1⟩ := hB
  rw [ht] at hP1
  obtain ⟨hP2, hD2⟩ := va_join hP hD isC isR hC hRr hn hdis hk hFc hP1 hD1
  exact kk v u H1 locs1 hw hP2 hD2 hS1
theorem hk_l {S : Type} {post : Int64 → S → Prop} {W1 : S → va_W} {a : Array Value} {rest : List Value} {mc ms c1 s1 : Nat} (isC isR : List Nat) (hr : va_Run p l e R s m args below meth c H locs cells slots mc ms (F0 m pc ls st0) rest (QL D post W1 (va_A wc H.size) a) (va_A wc H.size)) (hS : va_S A0 H0 H locs) (hA : ∀ q : Nat, H0.size ≤ q → A0 q) (hP : va_P D cls ws H) (hD : va_D A0 ws) (hC : isC.map (fun i => ws[i]?) = wc.map some) (hRr : isR.map (fun i => ws[i]?) = wr.map some) (hn : va_nd isR = true) (hdis : ∀ i ∈ isR, i ∉ isC) (h1 : cells + mc = c1) (h2 : slots + ms = s1)
    (kk : ∀ (v : Int64) (u : S) (H1 : Heap) (locs1 : List Loc), post v u → va_P D cls (wr ++ W1 u) H1 → va_D A0 (wr ++ W1 u) → va_S A0 H0 H1 locs1 → W p l e R s m args below meth c H1 locs1 c1 s1 Q (F0 m (pc + 3) ls (.long v :: rest))) : W p l e R s m args below meth c H locs cells slots Q (F0 m pc ls st0) := by
  subst h1; subst h2
  have hFc := va_free hD hS hA isC hC
  refine va_calll hr hS (fun q _ h => hFc q h) hFc (fun v u t H1 locs1 ht hvm hw hB hz hk hS1 => ?_)
  obtain ⟨hP1, hD1⟩ := hB
  rw [ht] at hP1
  obtain ⟨hP2, hD2⟩ := va_join hP hD isC isR hC hRr hn hdis hk hFc hP1 hD1
  exact kk v u H1 locs1 hw hP2 hD2 hS1
theorem hk_v {S : Type} {post : S → Prop} {W1 : S → va_W} {a : Array Value} {rest : List Value} {mc ms c1 s1 : Nat} (isC isR : List Nat) (hr : va_Run p l e R s m args below meth c H locs cells slots mc ms (F0 m pc ls st0) rest (QV D post W1 (va_A wc H.size) a) (va_A wc H.size)) (hS : va_S A0 H0 H locs) (hA : ∀ q : Nat, H0.size ≤ q → A0 q) (hP : va_P D cls ws H) (hD : va_D A0 ws) (hC : isC.map (fun i => ws[i]?) = wc.map some) (hRr : isR.map (fun i => ws[i]?) = wr.map some) (hn : va_nd isR = true) (hdis : ∀ i ∈ isR, i ∉ isC) (h1 : cells + mc = c1) (h2 : slots + ms = s1)
    (kk : ∀ (u : S) (H1 : Heap) (locs1 : List Loc), post u → va_P D cls (wr ++ W1 u) H1 → va_D A0 (wr ++ W1 u) → va_S A0 H0 H1 locs1 → W p l e R s m args below meth c H1 locs1 c1 s1 Q (F0 m (pc + 3) ls rest)) : W p l e R s m args below meth c H locs cells slots Q (F0 m pc ls st0) := by
  subst h1; subst h2
  have hFc := va_free hD hS hA isC hC
  refine va_callv hr hS (fun q _ h => hFc q h) hFc (fun u t H1 locs1 ht hvm hw hB hz hk hS1 => ?_)
  obtain ⟨hP1, hD1⟩ := hB
  rw [ht] at hP1
  obtain ⟨hP2, hD2⟩ := va_join hP hD isC isR hC hRr hn hdis hk hFc hP1 hD1
  exact kk u H1 locs1 hw hP2 hD2 hS1
/-- loops: a measure that falls -/
theorem pl1 (head nL : Nat) {α : Type} (lvf : α → List (Nat × Value)) (I : α → Prop) (μ : α → Nat) (step : ∀ (x : α) (ls : Array Slot), I x → lv_has ls nL (lvf x) → (∀ (x' : α) (ls' : Array Slot), I x' → μ x' < μ x → lv_has ls' nL (lvf x') → W p l e R s m args below meth c H locs cells slots Q (F0 m head ls' [])) → W p l e R s m args below meth c H locs cells slots Q (F0 m head ls [])) (x : α) (h : I x) (hl : lv_has ls nL (lvf x)) : W p l e R s m args below meth c H locs cells slots Q (F0 m head ls []) := by
  have key : ∀ (n : Nat) (x : α) (ls : Array Slot), μ x < n → I x → lv_has ls nL (lvf x) → W p l e R s m args below meth c H locs cells slots Q (F0 m head ls []) := by
    intro n
    induction n with
    | zero => intro x ls h; exact absurd h (Nat.not_lt_zero _)
    | succ n ih => intro x ls h hI hl; exact step x ls hI hl (fun x' ls' hI' hm hl' => ih x' ls' (Nat.lt_of_lt_of_le hm (Nat.le_of_lt_succ h)) hI' hl')
  exact key _ x ls (Nat.lt_succ_self _) h hl
theorem gl1 (head nL : Nat) {α : Type} (wsf : α → va_W) (lvf : α → List (Nat × Value)) (I : α → Prop) (μ : α → Nat) (step : ∀ (x : α) (H : Heap) (locs : List Loc) (ls : Array Slot), I x → lv_has ls nL (lvf x) → va_P D cls (wsf x) H → va_D A0 (wsf x) → va_S A0 H0 H locs → (∀ (x' : α) (H' : Heap) (locs' : List Loc) (ls' : Array Slot), I x' → μ x' < μ x → lv_has ls' nL (lvf x') → va_P D cls (wsf x') H' → va_D A0 (wsf x') → va_S A0 H0 H' locs' → W p l e R s m args below meth c H' locs' cells slots Q (F0 m head ls' [])) → W p l e R s m args below meth c H locs cells slots Q (F0 m head ls [])) (x : α) (h : I x) (hl : lv_has ls nL (lvf x)) (hP : va_P D cls (wsf x) H) (hD : va_D A0 (wsf x)) (hS : va_S A0 H0 H locs) : W p l e R s m args below meth c H locs cells slots Q (F0 m head ls []) := by
  have key : ∀ (n : Nat) (x : α) (H : Heap) (locs : List Loc) (ls : Array Slot), μ x < n → I x → lv_has ls nL (lvf x) → va_P D cls (wsf x) H → va_D A0 (wsf x) → va_S A0 H0 H locs → W p l e R s m args below meth c H locs cells slots Q (F0 m head ls []) := by
    intro n
    induction n with
    | zero => intro x H locs ls h; exact absurd h (Nat.not_lt_zero _)
    | succ n ih => intro x H locs ls h hI hl hP hD hS; exact step x H locs ls hI hl hP hD hS (fun x' H' locs' ls' hI' hm hl' hP' hD' hS' => ih x' H' locs' ls' (Nat.lt_of_lt_of_le hm (Nat.le_of_lt_succ h)) hI' hl' hP' hD' hS')
  exact key _ x H locs ls (Nat.lt_succ_self _) h hl hP hD hS
/-- fields and elements, with the world behind them named -/
def EF (C : String) (T : u_T) (N : Nat) (t : Nat → FieldType) : Prop := (∀ w ∈ u_ws C T N, w ∈ BW) ∧ (∀ k, k < N → parseFieldDescriptor (T k).2.2.1 = some (t k)) ∧ (∀ a, a < N → ∀ b, b < N → a ≠ b → (T a).2.1 ≠ (T b).2.1)
theorem wk_get {C : String} {T : u_T} {N ci a : Nat} {t : Nat → FieldType} {rest : List Value} (Sx : CallFix p m c cc nL s args BW own) (ef : EF C T N t) (hK : va_K D cls ty s) (hP : va_P D cls ws H) (q0 : Nat) {fs : List Value} (he : ws[q0]? = some (a, .inr (ci, fs))) (hc : cls[ci]? = some (C, T, N)) (k : Nat) (hk : k < N) (hlink : Cond.fieldLink own idx (T k).1 (T k).2.1 (T k).2.2.1 ∈ BW) {v : Value} (hv : fs[k]? = some v) (hdg : decode cc pc = .ok (.getfield idx, 3)) (kk : W p l e R s m args below meth c H locs cells slots Q (F0 m (pc + 3) ls (v :: rest))) : W p l e R s m args below meth c H locs cells slots Q (F0 m pc ls (.ref a :: rest)) :=
  va_get Sx.1 Sx.2.1 Sx.2.2.2.2 ef.1 Sx.2.2.2.1 hK hP q0 he hc k hk (Sx.2.2.2.2 _ hlink) (fun _ h => h) hv hdg kk
theorem wk_put {C : String} {T : u_T} {N ci a : Nat} {t : Nat → FieldType} {rest : List Value} {ws' : va_W} (Sx : CallFix p m c cc nL s args BW own) (ef : EF C T N t) (hK : va_K D cls ty s) (hP : va_P D cls ws H) (hD : va_D A0 ws) (hS : va_S A0 H0 H locs) (q0 : Nat) {fs : List Value} (he : ws[q0]? = some (a, .inr (ci, fs))) (hc : cls[ci]? = some (C, T, N)) (k : Nat) (hk : k < N) (hlink : Cond.fieldLink own idx (T k).1 (T k).2.1 (T k).2.2.1 ∈ BW) (hfin : (T k).2.2.2 = false) {v : Value} (hn : narrow (t k) v = v) (hfit : fits (t k) v = true) (hl : k < fs.length) (hdg : decode cc pc = .ok (.putfield idx, 3)) (hw : ws.set q0 (a, .inr (ci, fs.set k v)) = ws')
    (kk : ∀ (H1 : Heap) (locs1 : List Loc), va_P D cls ws' H1 → va_D A0 ws' → va_S A0 H0 H1 locs1 → W p l e R s m args below meth c H1 locs1 cells slots Q (F0 m (pc + 3) ls rest)) : W p l e R s m args below meth c H locs cells slots Q (F0 m pc ls (v :: .ref a :: rest)) := by
  subst hw
  exact va_put Sx.1 Sx.2.1 Sx.2.2.2.2 ef.1 t ef.2.1 ef.2.2 Sx.2.2.2.1 hK hP hD hS q0 he hc k hk (Sx.2.2.2.2 _ hlink) (fun _ h => h) hfin (ef.2.1 k hk) hn hfit hl hdg kk
theorem wk_putF {C : String} {T : u_T} {N ci a : Nat} {t : Nat → FieldType} {rest : List Value} {ws' : va_W} (Sx : CallFix p m c cc nL s args BW own) (ef : EF C T N t) (hK : va_K D cls ty s) (hP : va_P D cls ws H) (hD : va_D A0 ws) (hS : va_S A0 H0 H locs) (q0 : Nat) {fs : List Value} (he : ws[q0]? = some (a, .inr (ci, fs))) (hc : cls[ci]? = some (C, T, N)) (k : Nat) (hk : k < N) (hlink : Cond.fieldLink own idx (T k).1 (T k).2.1 (T k).2.2.1 ∈ BW) (hfin : (T k).2.2.2 = true) (hin : meth.name = "<init>") (hdecl : (T k).1 = own) {v : Value} (hn : narrow (t k) v = v) (hfit : fits (t k) v = true) (hl : k < fs.length) (hdg : decode cc pc = .ok (.putfield idx, 3)) (hw : ws.set q0 (a, .inr (ci, fs.set k v)) = ws')
    (kk : ∀ (H1 : Heap) (locs1 : List Loc), va_P D cls ws' H1 → va_D A0 ws' → va_S A0 H0 H1 locs1 → W p l e R s m args below meth c H1 locs1 cells slots Q (F0 m (pc + 3) ls rest)) : W p l e R s m args below meth c H locs cells slots Q (F0 m pc ls (v :: .ref a :: rest)) := by
  subst hw
  exact va_putF Sx.1 Sx.2.1 Sx.2.2.2.2 ef.1 t ef.2.1 ef.2.2 Sx.2.2.2.1 hK hP hD hS q0 he hc k hk (Sx.2.2.2.2 _ hlink) (fun _ h => h) hfin hin hdecl (ef.2.1 k hk) hn hfit hl hdg kk
theorem wk_new {C : String} {T : u_T} {N ci : Nat} {t : Nat → FieldType} {rest : List Value} {fs : List Value} {c1 s1 : Nat} (Sx : CallFix p m c cc nL s args BW own) (ef : EF C T N t) (hK : va_K D cls ty s) (hP : va_P D cls ws H) (hD : va_D A0 ws) (hS : va_S A0 H0 H locs) (hA : ∀ q : Nat, H0.size ≤ q → A0 q) (hc : cls[ci]? = some (C, T, N)) (hcl : Cond.classLink own idx C ∈ BW) (hinst : Cond.instantiable C N ∈ BW) (hini : Cond.initialized C ∈ BW) (hfs : ∀ j, j < N → defaultValue (t j) = vp_V fs j) (hcells : cells + 1 ≤ R.cells) (hslots : slots + N ≤ R.slots) (h1 : cells + 1 = c1) (h2 : slots + N = s1) (hdg : decode cc pc = .ok (.new idx, 3))
    (kk : ∀ (q : Nat) (H1 : Heap), va_P D cls (ws ++ [(q, .inr (ci, fs))]) H1 → va_D A0 (ws ++ [(q, .inr (ci, fs))]) → va_S A0 H0 H1 locs → W p l e R s m args below meth c H1 locs c1 s1 Q (F0 m (pc + 3) ls (.ref q :: rest))) : W p l e R s m args below meth c H locs cells slots Q (F0 m pc ls rest) := by
  subst h1; subst h2
  exact va_new Sx.1 Sx.2.1 Sx.2.2.2.2 ef.1 t ef.2.1 Sx.2.2.2.1 (Sx.2.2.2.2 _ hcl) (Sx.2.2.2.2 _ hinst) (Sx.2.2.2.2 _ hini) hK hP hD hS hA hc hfs hcells hslots hdg kk
theorem wk_newa {at_ : ArrayType} {ft : FieldType} {rest : List Value} {c1 s1 : Nat} {cI : ClassId} (Sx : CallFix p m c cc nL s args BW own) (harr : Cond.arrayClass (newarray.typeOf at_) ∈ BW) (hty : newarray.typeOf at_ = ft) (hK : va_K D cls ty s) (t0 : Nat) (ht : ty[t0]? = some (cI, ft)) (hprim : ∀ c1 : ClassId, va_RA s c1 ft → s.vm.findClass ("[" ++ ft.toString) = some c1) (hP : va_P D cls ws H) (hD : va_D A0 ws) (hS : va_S A0 H0 H locs) (hA : ∀ q : Nat, H0.size ≤ q → A0 q) {n' : Int32} (N' : Nat) {a0 : vp_A} (ha : ∀ cA : ClassId, vp_cell cA a0 = arrV cA N' (fun _ => defaultValue ft)) (hn : ¬ n' < 0) (hN : n'.toNatClampNeg = N') (hbytes : N' * componentBytes ft ≤ 536870912) (hcells : cells + 1 ≤ R.cells) (hslots : slots + N' ≤ R.slots) (h1 : cells + 1 = c1) (h2 : slots + N' = s1) (hdg : decode cc pc = .ok (.newarray at_, 2))
    (kk : ∀ (q : Nat) (H1 : Heap), va_P D cls (ws ++ [(q, .inl (cI, a0))]) H1 → va_D A0 (ws ++ [(q, .inl (cI, a0))]) → va_S A0 H0 H1 locs → W p l e R s m args below meth c H1 locs c1 s1 Q (F0 m (pc + 2) ls (.ref q :: rest))) : W p l e R s m args below meth c H locs cells slots Q (F0 m pc ls (.int n' :: rest)) := by
  subst h1; subst h2
  refine va_newa Sx.1 Sx.2.1 (atype := at_) (Sx.2.2.2.2 _ harr) hty hK hP hD hS hA ha hn hN hbytes hcells hslots hdg (fun q cA H1 hK1 hP1 hD1 hS1 => ?_)
  have e1 := hprim cA ((hK1.2 ty.length (cA, ft) (by rw [List.getElem?_append_right (Nat.le_refl _), Nat.sub_self]; rfl)).2)
  have e2 := hprim cI ((hK.2 t0 (cI, ft) ht).2)
  have e3 : cA = cI := Option.some.inj (e1.symm.trans e2)
  subst e3
  exact kk q H1 hP1 hD1 hS1
theorem wk_iast {a : Nat} {cA : ClassId} {n' : Nat} {f : Nat → Int32} {rest : List Value} {ws' : va_W} (Sx : CallFix p m c cc nL s args BW own) (hK : va_K D cls ty s) (hP : va_P D cls ws H) (hD : va_D A0 ws) (hS : va_S A0 H0 H locs) (q0 t0 : Nat) (ha : ws[q0]? = some (a, .inl (cA, n', .inl f))) (ht : ty[t0]? = some (cA, .int)) {i x : Int32} (hin : vp_in i n') (hdg : decode cc pc = .ok (.iastore, 1)) (hw : ws.set q0 (a, .inl (cA, n', .inl (upd f i.toNatClampNeg x))) = ws')
    (kk : ∀ (H1 : Heap) (locs1 : List Loc), va_P D cls ws' H1 → va_D A0 ws' → va_S A0 H0 H1 locs1 → W p l e R s m args below meth c H1 locs1 cells slots Q (F0 m (pc + 1) ls rest)) : W p l e R s m args below meth c H locs cells slots Q (F0 m pc ls (.int x :: .int i :: .ref a :: rest)) := by
  subst hw
  exact va_iast Sx.1 Sx.2.1 hK hP hD hS q0 t0 ha ht hin hdg kk
theorem wk_bast {a : Nat} {cA : ClassId} {n' : Nat} {f : Nat → Int32} {rest : List Value} {ws' : va_W} (Sx : CallFix p m c cc nL s args BW own) (hK : va_K D cls ty s) (hP : va_P D cls ws H) (hD : va_D A0 ws) (hS : va_S A0 H0 H locs) (q0 t0 : Nat) (ha : ws[q0]? = some (a, .inl (cA, n', .inl f))) (ht : ty[t0]? = some (cA, .byte)) {i x : Int32} (hin : vp_in i n') (hdg : decode cc pc = .ok (.bastore, 1)) (hw : ws.set q0 (a, .inl (cA, n', .inl (upd f i.toNatClampNeg (vp_nar .byte x)))) = ws')
    (kk : ∀ (H1 : Heap) (locs1 : List Loc), va_P D cls ws' H1 → va_D A0 ws' → va_S A0 H0 H1 locs1 → W p l e R s m args below meth c H1 locs1 cells slots Q (F0 m (pc + 1) ls rest)) : W p l e R s m args below meth c H locs cells slots Q (F0 m pc ls (.int x :: .int i :: .ref a :: rest)) := by
  subst hw
  exact va_bast Sx.1 Sx.2.1 hK hP hD hS q0 t0 ha ht hin hdg kk
theorem wk_last {a : Nat} {cA : ClassId} {n' : Nat} {f : Nat → Int64} {rest : List Value} {ws' : va_W} (Sx : CallFix p m c cc nL s args BW own) (hK : va_K D cls ty s) (hP : va_P D cls ws H) (hD : va_D A0 ws) (hS : va_S A0 H0 H locs) (q0 t0 : Nat) (ha : ws[q0]? = some (a, .inl (cA, n', .inr (.inl f)))) (ht : ty[t0]? = some (cA, .long)) {i : Int32} {x : Int64} (hin : vp_in i n') (hdg : decode cc pc = .ok (.lastore, 1)) (hw : ws.set q0 (a, .inl (cA, n', .inr (.inl (vp_updL f i.toNatClampNeg x)))) = ws')
    (kk : ∀ (H1 : Heap) (locs1 : List Loc), va_P D cls ws' H1 → va_D A0 ws' → va_S A0 H0 H1 locs1 → W p l e R s m args below meth c H1 locs1 cells slots Q (F0 m (pc + 1) ls rest)) : W p l e R s m args below meth c H locs cells slots Q (F0 m pc ls (.long x :: .int i :: .ref a :: rest)) := by
  subst hw
  exact va_last Sx.1 Sx.2.1 hK hP hD hS q0 t0 ha ht hin hdg kk
end WK2

theorem ef_0 : EF "WhiteElephants$Buyers" ET0 6 EY0 := ⟨bw_ps _ [237, 239, 241, 243, 245, 247] (by decide +kernel) (by decide +kernel), by decide +kernel, by decide +kernel⟩
theorem nd_0 : ∀ j, j < 6 → defaultValue (EY0 j) = vp_V [.null, .null, .null, .null, .null, .int 0] j := by
  intro j hj
  rcases (show j = 0 ∨ j = 1 ∨ j = 2 ∨ j = 3 ∨ j = 4 ∨ j = 5 by omega) with rfl | rfl | rfl | rfl | rfl | rfl <;> rfl
theorem ef_1 : EF "WhiteElephants$Hall" ET1 14 EY1 := ⟨bw_ps _ [347, 349, 351, 353, 355, 357, 359, 361, 363, 365, 367, 369, 371, 373] (by decide +kernel) (by decide +kernel), by decide +kernel, by decide +kernel⟩
theorem nd_1 : ∀ j, j < 14 → defaultValue (EY1 j) = vp_V [.null, .null, .null, .null, .null, .null, .null, .int 0, .int 0, .int 0, .int 0, .int 0, .null, .null] j := by
  intro j hj
  rcases (show j = 0 ∨ j = 1 ∨ j = 2 ∨ j = 3 ∨ j = 4 ∨ j = 5 ∨ j = 6 ∨ j = 7 ∨ j = 8 ∨ j = 9 ∨ j = 10 ∨ j = 11 ∨ j = 12 ∨ j = 13 by omega) with rfl | rfl | rfl | rfl | rfl | rfl | rfl | rfl | rfl | rfl | rfl | rfl | rfl | rfl <;> rfl
theorem ef_2 : EF "WhiteElephants$Ladies" ET2 4 EY2 := ⟨bw_ps _ [186, 188, 190, 192] (by decide +kernel) (by decide +kernel), by decide +kernel, by decide +kernel⟩
theorem nd_2 : ∀ j, j < 4 → defaultValue (EY2 j) = vp_V [.null, .null, .null, .int 0] j := by
  intro j hj
  rcases (show j = 0 ∨ j = 1 ∨ j = 2 ∨ j = 3 by omega) with rfl | rfl | rfl | rfl <;> rfl
theorem ef_3 : EF "WhiteElephants$Laws" ET3 3 EY3 := ⟨bw_ps _ [206, 208, 210] (by decide +kernel) (by decide +kernel), by decide +kernel, by decide +kernel⟩
theorem nd_3 : ∀ j, j < 3 → defaultValue (EY3 j) = vp_V [.null, .null, .int 0] j := by
  intro j hj
  rcases (show j = 0 ∨ j = 1 ∨ j = 2 by omega) with rfl | rfl | rfl <;> rfl
theorem ef_4 : EF "WhiteElephants$Picks" ET4 2 EY4 := ⟨bw_ps _ [418, 420] (by decide +kernel) (by decide +kernel), by decide +kernel, by decide +kernel⟩
theorem nd_4 : ∀ j, j < 2 → defaultValue (EY4 j) = vp_V [.null, .null] j := by
  intro j hj
  rcases (show j = 0 ∨ j = 1 by omega) with rfl | rfl <;> rfl
theorem ef_5 : EF "WhiteElephants$Sale" ET5 9 EY5 := ⟨bw_ps _ [391, 393, 395, 397, 399, 401, 403, 405, 407] (by decide +kernel) (by decide +kernel), by decide +kernel, by decide +kernel⟩
theorem nd_5 : ∀ j, j < 9 → defaultValue (EY5 j) = vp_V [.int 0, .int 0, .null, .int 0, .null, .null, .null, .null, .null] j := by
  intro j hj
  rcases (show j = 0 ∨ j = 1 ∨ j = 2 ∨ j = 3 ∨ j = 4 ∨ j = 5 ∨ j = 6 ∨ j = 7 ∨ j = 8 by omega) with rfl | rfl | rfl | rfl | rfl | rfl | rfl | rfl | rfl <;> rfl
theorem ef_6 : EF "WhiteElephants$Secrets" ET6 9 EY6 := ⟨bw_ps _ [299, 301, 303, 305, 307, 309, 311, 313, 315] (by decide +kernel) (by decide +kernel), by decide +kernel, by decide +kernel⟩
theorem nd_6 : ∀ j, j < 9 → defaultValue (EY6 j) = vp_V [.null, .null, .int 0, .null, .null, .null, .null, .int 0, .null] j := by
  intro j hj
  rcases (show j = 0 ∨ j = 1 ∨ j = 2 ∨ j = 3 ∨ j = 4 ∨ j = 5 ∨ j = 6 ∨ j = 7 ∨ j = 8 by omega) with rfl | rfl | rfl | rfl | rfl | rfl | rfl | rfl | rfl <;> rfl
theorem ef_7 : EF "WhiteElephants$Shelf" ET7 3 EY7 := ⟨bw_ps _ [434, 436, 438] (by decide +kernel) (by decide +kernel), by decide +kernel, by decide +kernel⟩
theorem nd_7 : ∀ j, j < 3 → defaultValue (EY7 j) = vp_V [.null, .int 0, .int 0] j := by
  intro j hj
  rcases (show j = 0 ∨ j = 1 ∨ j = 2 by omega) with rfl | rfl | rfl <;> rfl
theorem ef_8 : EF "WhiteElephants$Sightings" ET8 8 EY8 := ⟨bw_ps _ [265, 267, 269, 271, 273, 275, 277, 279] (by decide +kernel) (by decide +kernel), by decide +kernel, by decide +kernel⟩
theorem nd_8 : ∀ j, j < 8 → defaultValue (EY8 j) = vp_V [.null, .null, .null, .null, .int 0, .null, .null, .null] j := by
  intro j hj
  rcases (show j = 0 ∨ j = 1 ∨ j = 2 ∨ j = 3 ∨ j = 4 ∨ j = 5 ∨ j = 6 ∨ j = 7 by omega) with rfl | rfl | rfl | rfl | rfl | rfl | rfl | rfl <;> rfl
theorem ef_9 : EF "WhiteElephants$Tape" ET9 4 EY9 := ⟨bw_ps _ [103, 105, 107, 109] (by decide +kernel) (by decide +kernel), by decide +kernel, by decide +kernel⟩
theorem nd_9 : ∀ j, j < 4 → defaultValue (EY9 j) = vp_V [.null, .int 0, .int 0, .int 0] j := by
  intro j hj
  rcases (show j = 0 ∨ j = 1 ∨ j = 2 ∨ j = 3 by omega) with rfl | rfl | rfl | rfl <;> rfl
theorem ef_10 : EF "WhiteElephants$Things" ET10 8 EY10 := ⟨bw_ps _ [153, 155, 157, 159, 161, 163, 165, 167] (by decide +kernel) (by decide +kernel), by decide +kernel, by decide +kernel⟩
theorem nd_10 : ∀ j, j < 8 → defaultValue (EY10 j) = vp_V [.null, .null, .null, .null, .null, .null, .int 0, .null] j := by
  intro j hj
  rcases (show j = 0 ∨ j = 1 ∨ j = 2 ∨ j = 3 ∨ j = 4 ∨ j = 5 ∨ j = 6 ∨ j = 7 by omega) with rfl | rfl | rfl | rfl | rfl | rfl | rfl | rfl <;> rfl
theorem ef_11 : EF "WhiteElephants" ET11 8 EY11 := ⟨bw_ps _ [450, 452, 454, 456, 458, 460, 462, 464] (by decide +kernel) (by decide +kernel), by decide +kernel, by decide +kernel⟩
theorem nd_11 : ∀ j, j < 8 → defaultValue (EY11 j) = vp_V [.null, .null, .null, .null, .null, .null, .null, .int 0] j := by
  intro j hj
  rcases (show j = 0 ∨ j = 1 ∨ j = 2 ∨ j = 3 ∨ j = 4 ∨ j = 5 ∨ j = 6 ∨ j = 7 by omega) with rfl | rfl | rfl | rfl | rfl | rfl | rfl | rfl <;> rfl
theorem ef_12 : EF "WhiteElephantsModel" ET12 51 EY12 := ⟨bw_ps _ [1212, 1214, 1216, 1218, 1220, 1222, 1224, 1226, 1228, 1230, 1232, 1234, 1236, 1238, 1240, 1242, 1244, 1246, 1248, 1250, 1252, 1254, 1256, 1258, 1260, 1262, 1264, 1266, 1268, 1270, 1272, 1274, 1276, 1278, 1280, 1282, 1284, 1286, 1288, 1290, 1292, 1294, 1296, 1298, 1300, 1302, 1304, 1306, 1308, 1310, 1312] (by decide +kernel) (by decide +kernel), by decide +kernel, by decide +kernel⟩
theorem nd_12 : ∀ j, j < 51 → defaultValue (EY12 j) = vp_V [.null, .null, .null, .int 0, .null, .null, .null, .null, .null, .null, .int 0, .null, .null, .null, .int 0, .null, .int 0, .null, .int 0, .null, .null, .null, .null, .null, .int 0, .null, .int 0, .null, .null, .null, .null, .int 0, .null, .null, .null, .null, .null, .int 0, .null, .null, .null, .null, .null, .null, .null, .null, .null, .null, .null, .null, .null] j := by
  intro j hj
  rcases (show j = 0 ∨ j = 1 ∨ j = 2 ∨ j = 3 ∨ j = 4 ∨ j = 5 ∨ j = 6 ∨ j = 7 ∨ j = 8 ∨ j = 9 ∨ j = 10 ∨ j = 11 ∨ j = 12 ∨ j = 13 ∨ j = 14 ∨ j = 15 ∨ j = 16 ∨ j = 17 ∨ j = 18 ∨ j = 19 ∨ j = 20 ∨ j = 21 ∨ j = 22 ∨ j = 23 ∨ j = 24 ∨ j = 25 ∨ j = 26 ∨ j = 27 ∨ j = 28 ∨ j = 29 ∨ j = 30 ∨ j = 31 ∨ j = 32 ∨ j = 33 ∨ j = 34 ∨ j = 35 ∨ j = 36 ∨ j = 37 ∨ j = 38 ∨ j = 39 ∨ j = 40 ∨ j = 41 ∨ j = 42 ∨ j = 43 ∨ j = 44 ∨ j = 45 ∨ j = 46 ∨ j = 47 ∨ j = 48 ∨ j = 49 ∨ j = 50 by omega) with rfl | rfl | rfl | rfl | rfl | rfl | rfl | rfl | rfl | rfl | rfl | rfl | rfl | rfl | rfl | rfl | rfl | rfl | rfl | rfl | rfl | rfl | rfl | rfl | rfl | rfl | rfl | rfl | rfl | rfl | rfl | rfl | rfl | rfl | rfl | rfl | rfl | rfl | rfl | rfl | rfl | rfl | rfl | rfl | rfl | rfl | rfl | rfl | rfl | rfl | rfl <;> rfl
theorem ws_X_55 : WT "WhiteElephants" 55 my_X11_isShelf mb_X11_isShelf 1 ((some .boolean)) := ⟨kk_411, kk_412, kk_1, kk_413⟩
theorem ws_X_59 : WT "WhiteElephants" 59 my_X11_within mb_X11_within 3 ((some .boolean)) := ⟨kk_414, kk_415, kk_1, kk_416⟩
theorem ws_X_63 : WV "WhiteElephants" 63 my_X11_refuse mb_X11_refuse 3 ((some .int)) := ⟨kk_417, kk_419, (bw_at 0 (by decide +kernel) rfl), kk_1, kk_420⟩
theorem ws_X_67 : WV "WhiteElephants" 67 my_X7_takeRow mb_X7_takeRow 3 ((none : Option Jvm.ClassFile.FieldType)) := ⟨kk_421, kk_422, kk_423, kk_12, kk_424⟩
theorem ws_X_71 : WV "WhiteElephants" 71 my_X11_refusalOfRow mb_X11_refusalOfRow 2 ((some .int)) := ⟨kk_432, kk_434, (bw_at 1 (by decide +kernel) rfl), kk_1, kk_435⟩
theorem ws_X_82 : WV "WhiteElephants" 82 my_X7_hasThing mb_X7_hasThing 1 ((some .boolean)) := ⟨kk_436, kk_437, kk_438, kk_12, kk_439⟩
theorem ws_X_86 : WV "WhiteElephants" 86 my_X7_hasRow mb_X7_hasRow 1 ((some .boolean)) := ⟨kk_461, kk_449, kk_450, kk_12, kk_451⟩
theorem ws_X_92 : WV "WhiteElephants" 92 my_X7_isEmpty mb_X7_isEmpty 1 ((some .boolean)) := ⟨kk_440, kk_441, kk_442, kk_12, kk_443⟩
theorem ws_X_109 : WV "WhiteElephants" 109 my_X7_at mb_X7_at 2 ((some .long)) := ⟨kk_473, kk_474, kk_475, kk_12, kk_476⟩
theorem ws_X_117 : WV "WhiteElephants" 117 my_X10_has mb_X10_has 2 ((some .boolean)) := ⟨kk_485, kk_486, kk_487, kk_4, kk_488⟩
theorem ws_X_122 : WT "WhiteElephants" 122 my_X11_isKind mb_X11_isKind 1 ((some .boolean)) := ⟨kk_494, kk_495, kk_1, kk_496⟩
theorem ws_X_135 : WV "WhiteElephants" 135 my_X10_add mb_X10_add 4 ((some .int)) := ⟨kk_542, kk_543, kk_544, kk_4, kk_545⟩
theorem ws_X_165 : WT "WhiteElephants" 165 my_X11_isKinds mb_X11_isKinds 1 ((some .boolean)) := ⟨kk_565, kk_566, kk_1, kk_567⟩
theorem ws_X_175 : WV "WhiteElephants" 175 my_X2_add mb_X2_add 3 ((some .int)) := ⟨kk_568, kk_569, kk_570, kk_5, kk_571⟩
theorem ws_X_177 : WV "WhiteElephants" 177 my_X2_has mb_X2_has 2 ((some .boolean)) := ⟨kk_576, kk_577, kk_578, kk_5, kk_579⟩
theorem ws_X_182 : WV "WhiteElephants" 182 my_X3_has mb_X3_has 2 ((some .boolean)) := ⟨kk_581, kk_582, kk_583, kk_6, kk_584⟩
theorem ws_X_216 : WT "WhiteElephants" 216 my_X11_isHour mb_X11_isHour 1 ((some .boolean)) := ⟨kk_754, kk_755, kk_1, kk_756⟩
theorem ws_X_226 : WV "WhiteElephants" 226 my_X0_add mb_X0_add 5 ((some .int)) := ⟨kk_757, kk_758, kk_759, kk_7, kk_760⟩
theorem ws_X_229 : WV "WhiteElephants" 229 my_X0_has mb_X0_has 2 ((some .boolean)) := ⟨kk_765, kk_766, kk_767, kk_7, kk_768⟩
theorem ws_X_265 : WV "WhiteElephants" 265 my_X5_wholeDay mb_X5_wholeDay 6 ((some .int)) := ⟨kk_813, kk_814, kk_815, kk_10, kk_816⟩
theorem ws_X_276 : WV "WhiteElephants" 276 my_X10_worthLeft mb_X10_worthLeft 4 ((some .int)) := ⟨kk_845, kk_846, kk_847, kk_4, kk_848⟩
theorem ws_X_296 : WV "WhiteElephants" 296 my_X10_countLeft mb_X10_countLeft 3 ((some .int)) := ⟨kk_873, kk_874, kk_875, kk_4, kk_876⟩
theorem ws_X_299 : WV "WhiteElephants" 299 my_X4_bargains mb_X4_bargains 4 ((some .int)) := ⟨kk_885, kk_886, kk_887, kk_11, kk_888⟩
theorem ws_X_309 : WV "WhiteElephants" 309 my_X1_planTables mb_X1_planTables 4 ((none : Option Jvm.ClassFile.FieldType)) := ⟨kk_903, kk_904, kk_905, kk_3, kk_906⟩
theorem ws_X_318 : WT "WhiteElephants" 318 my_X11_isPersonOrNone mb_X11_isPersonOrNone 1 ((some .boolean)) := ⟨kk_925, kk_926, kk_1, kk_927⟩
theorem ws_X_328 : WV "WhiteElephants" 328 my_X8_add mb_X8_add 5 ((some .int)) := ⟨kk_931, kk_932, kk_933, kk_8, kk_934⟩
theorem ws_X_329 : WV "WhiteElephants" 329 my_X8_has mb_X8_has 2 ((some .boolean)) := ⟨kk_939, kk_940, kk_941, kk_8, kk_942⟩
theorem ws_X_333 : WV "WhiteElephants" 333 my_X8_fewestVases mb_X8_fewestVases 3 ((some .int)) := ⟨kk_952, kk_953, kk_954, kk_8, kk_955⟩
theorem ws_X_336 : WV "WhiteElephants" 336 my_X8_longestRow mb_X8_longestRow 4 ((some .int)) := ⟨kk_967, kk_968, kk_969, kk_8, kk_970⟩
theorem ws_X_339 : WT "WhiteElephants" 339 my_X11_isPerson mb_X11_isPerson 1 ((some .boolean)) := ⟨kk_928, kk_929, kk_1, kk_930⟩
theorem ws_X_359 : WV "WhiteElephants" 359 my_X4_fewestPaid mb_X4_fewestPaid 5 ((some .int)) := ⟨kk_1018, kk_1019, kk_1020, kk_11, kk_1021⟩
theorem ws_X_372 : WV "WhiteElephants" 372 my_X11_shelvesInUse mb_X11_shelvesInUse 3 ((some .int)) := ⟨kk_1091, kk_1093, (bw_at 22 (by decide +kernel) rfl), kk_1, kk_1094⟩
theorem ws_Buyers_31 : WTN "WhiteElephants$Buyers" 31 my_X11_within mb_X11_within 3 ((some .boolean)) := ⟨by decide +kernel, kk_415, kk_1, kk_416⟩
theorem ws_Hall_134 : WT "WhiteElephants$Hall" 134 my_J6_bitCount_0f7a4 mb_J6_bitCount_0f7a4 1 ((some .int)) := ⟨kk_908, kk_508, kk_16, kk_509⟩
theorem ws_Hall_139 : WV "WhiteElephants$Hall" 139 my_X1_bestLady mb_X1_bestLady 7 ((some .int)) := ⟨kk_909, kk_911, (bw_at 14 (by decide +kernel) rfl), kk_3, kk_912⟩
theorem ws_Ladies_25 : WTN "WhiteElephants$Ladies" 25 my_X11_within mb_X11_within 3 ((some .boolean)) := ⟨by decide +kernel, kk_415, kk_1, kk_416⟩
theorem ws_Laws_28 : WTN "WhiteElephants$Laws" 28 my_X11_within mb_X11_within 3 ((some .boolean)) := ⟨by decide +kernel, kk_415, kk_1, kk_416⟩
theorem ws_Sale_70 : WT "WhiteElephants$Sale" 70 my_X5_stage mb_X5_stage 3 ((some .int)) := ⟨kk_802, kk_779, kk_10, kk_780⟩
theorem ws_Sale_104 : WV "WhiteElephants$Sale" 104 my_X5_open mb_X5_open 6 ((none : Option Jvm.ClassFile.FieldType)) := ⟨kk_817, kk_789, kk_790, kk_10, kk_791⟩
theorem ws_Sale_108 : WV "WhiteElephants$Sale" 108 my_X5_playHour mb_X5_playHour 7 ((some .int)) := ⟨kk_818, kk_819, kk_820, kk_10, kk_821⟩
theorem ws_Shelf_22 : WTN "WhiteElephants$Shelf" 22 my_X11_within mb_X11_within 3 ((some .boolean)) := ⟨by decide +kernel, kk_415, kk_1, kk_416⟩
theorem ws_Shelf_26 : WT "WhiteElephants$Shelf" 26 my_J7_fill_d0a16 mb_J7_fill_d0a16 5 ((none : Option Jvm.ClassFile.FieldType)) := ⟨kk_425, kk_426, kk_14, kk_427⟩
theorem ws_Shelf_32 : WV "WhiteElephants$Shelf" 32 my_X7_hasRow mb_X7_hasRow 1 ((some .boolean)) := ⟨kk_448, kk_449, kk_450, kk_12, kk_451⟩
theorem ws_Sightings_37 : WTN "WhiteElephants$Sightings" 37 my_X11_within mb_X11_within 3 ((some .boolean)) := ⟨by decide +kernel, kk_415, kk_1, kk_416⟩
theorem ws_Sightings_41 : WT "WhiteElephants$Sightings" 41 my_J7_fill_53178 mb_J7_fill_53178 4 ((none : Option Jvm.ClassFile.FieldType)) := ⟨kk_956, kk_957, kk_14, kk_958⟩
theorem ws_Things_37 : WTN "WhiteElephants$Things" 37 my_X11_within mb_X11_within 3 ((some .boolean)) := ⟨by decide +kernel, kk_415, kk_1, kk_416⟩
abbrev fThings (q : Nat → Nat) : List Value := [.ref (q 1), .ref (q 2), .ref (q 3), .ref (q 4), .ref (q 5), .ref (q 6), .int 0, .ref (q 7)]
abbrev fLadies (q : Nat → Nat) : List Value := [.ref (q 1), .ref (q 2), .ref (q 3), .int 0]
abbrev fLaws (q : Nat → Nat) : List Value := [.ref (q 1), .ref (q 2), .int 0]
abbrev fBuyers (q : Nat → Nat) : List Value := [.ref (q 1), .ref (q 2), .ref (q 3), .ref (q 4), .ref (q 5), .int 0]
abbrev fSightings (q : Nat → Nat) : List Value := [.ref (q 1), .ref (q 2), .ref (q 3), .ref (q 4), .int 0, .ref (q 5), .ref (q 6), .ref (q 7)]
abbrev fSecrets (q : Nat → Nat) : List Value := [.ref (q 1), .ref (q 2), .int 0, .ref (q 3), .ref (q 4), .ref (q 5), .ref (q 6), .int 0, .ref (q 7)]
abbrev fHall (q : Nat → Nat) : List Value := [.ref (q 1), .ref (q 9), .ref (q 13), .ref (q 16), .ref (q 22), .ref (q 30), .ref (q 38), .int 0, .int 12, .int 12, .int 0, .int 0, .ref (q 39), .ref (q 40)]
abbrev fTape (q : Nat → Nat) : List Value := [.ref (q 1), .int 0, .int 0, .int 0]
abbrev fShelf (q : Nat → Nat) : List Value := [.ref (q 1), .int (-1), .int 0]
abbrev fSale (q : Nat → Nat) : List Value := [.int 12, .int 12, .ref (q 1), .int 0, .ref (q 2), .ref (q 3), .ref (q 4), .ref (q 5), .ref (q 6)]
abbrev fPicks (q : Nat → Nat) : List Value := [.ref (q 1), .ref (q 2)]
abbrev fX (q : Nat → Nat) : List Value := [.ref (q 1), .ref (q 2), .ref (q 3), .ref (q 5), .ref (q 46), .ref (q 87), .ref (q 94), .int 0]
abbrev fM (q : Nat → Nat) : List Value := [.ref (q 0), .ref (q 1), .ref (q 2), .int 0, .ref (q 4), .ref (q 5), .ref (q 6), .ref (q 7), .ref (q 8), .ref (q 9), .int 0, .ref (q 11), .ref (q 12), .ref (q 13), .int 0, .ref (q 15), .int 0, .ref (q 17), .int 0, .ref (q 19), .ref (q 20), .ref (q 21), .ref (q 22), .ref (q 23), .int 0, .ref (q 25), .int 0, .ref (q 27), .ref (q 28), .ref (q 29), .ref (q 30), .int 0, .ref (q 32), .ref (q 33), .ref (q 34), .ref (q 35), .ref (q 36), .int 0, .ref (q 38), .ref (q 39), .ref (q 40), .ref (q 41), .ref (q 42), .ref (q 43), .ref (q 44), .ref (q 45), .ref (q 46), .ref (q 47), .ref (q 48), .ref (q 49), .null]
abbrev shv (q : Nat → Nat) : Nat → Option Nat := (va_up (va_up (va_up (va_up (va_up (va_up (va_up (va_up (fun _ => none) 0 (some (q 97))) 1 (some (q 99))) 2 (some (q 101))) 3 (some (q 103))) 4 (some (q 105))) 5 (some (q 107))) 6 (some (q 109))) 7 (some (q 111)))
abbrev hold0 : Nat → Int32 := (upd (upd (upd (upd (upd (upd (upd (upd (fun _ => 0) 0 (-1)) 1 (-1)) 2 (-1)) 3 (-1)) 4 (-1)) 5 (-1)) 6 (-1)) 7 (-1))
abbrev hours0 : Nat → Int32 := upd (upd (fun _ => 0) 0 12) 1 12
theorem hold0_at : ∀ j, j < 8 → hold0 j = -1 := by
  intro j hj
  rcases (show j = 0 ∨ j = 1 ∨ j = 2 ∨ j = 3 ∨ j = 4 ∨ j = 5 ∨ j = 6 ∨ j = 7 by omega) with rfl | rfl | rfl | rfl | rfl | rfl | rfl | rfl <;> rfl
theorem shv_at (q : Nat → Nat) : ∀ j, j < 8 → shv q j = some (q (97 + 2 * j)) := by
  intro j hj
  rcases (show j = 0 ∨ j = 1 ∨ j = 2 ∨ j = 3 ∨ j = 4 ∨ j = 5 ∨ j = 6 ∨ j = 7 by omega) with rfl | rfl | rfl | rfl | rfl | rfl | rfl | rfl <;> rfl
theorem p_nil {D : va_G} {cl : List vw_C} {H : Heap} : va_P D cl [] H := fun k q h => by simp at h
theorem d_nil {A : Nat → Prop} : va_D A [] := ⟨fun i j p q h => by simp at h, fun k q h => by simp at h⟩
theorem hours0_lo {i : Int32} (h : 0 ≤ i.toInt ∧ i.toInt ≤ 1) : hours0 i.toNatClampNeg = 12 := by
  have e := nc_at h.1
  rcases (show i.toNatClampNeg = 0 ∨ i.toNatClampNeg = 1 by omega) with k | k <;> rw [k] <;> rfl
theorem hours0_hi {i : Int32} (h : 2 ≤ i.toInt) : hours0 i.toNatClampNeg = 0 := by
  have e := nc_at (show 0 ≤ i.toInt by omega)
  simp [hours0, upd, show ¬ i.toNatClampNeg = 0 by omega, show ¬ i.toNatClampNeg = 1 by omega]
theorem inv_read {f : Nat → Int32} {lo X : Int} {v : Int32} (h : ∀ j : Nat, lo ≤ (j : Int) → (j : Int) < X → f j = v) (i : Int32) (h1 : lo ≤ i.toInt ∧ 0 ≤ i.toInt) (h2 : i.toInt < X) : f i.toNatClampNeg = v := by
  have e := nc_at h1.2
  exact h _ (by omega) (by omega)
theorem inv_upd {f : Nat → Int32} {lo X Y : Int} {v : Int32} (h : ∀ j : Nat, lo ≤ (j : Int) → (j : Int) < X → f j = v) (i : Int32) (h1 : 0 ≤ i.toInt ∧ i.toInt = X) (h2 : Y = X + 1) : ∀ j : Nat, lo ≤ (j : Int) → (j : Int) < Y → upd f i.toNatClampNeg v j = v := by
  intro j k1 k2
  rw [upd_at h1.2 (by omega)]
  by_cases c : (j : Int) = X
  · rw [if_pos c]
  · rw [if_neg c]; exact h j k1 (by omega)
abbrev wShelves (cy : Nat → ClassId) (q : Nat → Nat) : va_W := [(q 97, .inr (7, fShelf (fun k => q (97 + k)))), (q 98, .inl (cy 2, 40, .inr (.inl (fun _ => 0)))), (q 99, .inr (7, fShelf (fun k => q (99 + k)))), (q 100, .inl (cy 2, 40, .inr (.inl (fun _ => 0)))), (q 101, .inr (7, fShelf (fun k => q (101 + k)))), (q 102, .inl (cy 2, 40, .inr (.inl (fun _ => 0)))), (q 103, .inr (7, fShelf (fun k => q (103 + k)))), (q 104, .inl (cy 2, 40, .inr (.inl (fun _ => 0)))), (q 105, .inr (7, fShelf (fun k => q (105 + k)))), (q 106, .inl (cy 2, 40, .inr (.inl (fun _ => 0)))), (q 107, .inr (7, fShelf (fun k => q (107 + k)))), (q 108, .inl (cy 2, 40, .inr (.inl (fun _ => 0)))), (q 109, .inr (7, fShelf (fun k => q (109 + k)))), (q 110, .inl (cy 2, 40, .inr (.inl (fun _ => 0)))), (q 111, .inr (7, fShelf (fun k => q (111 + k)))), (q 112, .inl (cy 2, 40, .inr (.inl (fun _ => 0))))]
abbrev wShelf (cy : Nat → ClassId) (q : Nat → Nat) : va_W := [(q 0, .inr (7, fShelf q)), (q 1, .inl (cy 2, 40, .inr (.inl (fun _ => 0))))]
theorem sh_p {D : va_G} {cl : List vw_C} {H : Heap} {cy : Nat → ClassId} {q : Nat → Nat} (h : va_P D cl (wShelves cy q) H) : ∀ j, j < 8 → va_P D cl (wShelf cy (fun k => q (97 + 2 * j + k))) H := by
  intro j hj
  rcases (show j = 0 ∨ j = 1 ∨ j = 2 ∨ j = 3 ∨ j = 4 ∨ j = 5 ∨ j = 6 ∨ j = 7 by omega) with rfl | rfl | rfl | rfl | rfl | rfl | rfl | rfl
  · exact h.sub [0, 1] rfl
  · exact h.sub [2, 3] rfl
  · exact h.sub [4, 5] rfl
  · exact h.sub [6, 7] rfl
  · exact h.sub [8, 9] rfl
  · exact h.sub [10, 11] rfl
  · exact h.sub [12, 13] rfl
  · exact h.sub [14, 15] rfl
theorem sh_d {A : Nat → Prop} {cy : Nat → ClassId} {q : Nat → Nat} (h : va_D A (wShelves cy q)) : ∀ j, j < 8 → va_D A (wShelf cy (fun k => q (97 + 2 * j + k))) := by
  intro j hj
  rcases (show j = 0 ∨ j = 1 ∨ j = 2 ∨ j = 3 ∨ j = 4 ∨ j = 5 ∨ j = 6 ∨ j = 7 by omega) with rfl | rfl | rfl | rfl | rfl | rfl | rfl | rfl
  · exact h.sub [0, 1] (by decide) rfl
  · exact h.sub [2, 3] (by decide) rfl
  · exact h.sub [4, 5] (by decide) rfl
  · exact h.sub [6, 7] (by decide) rfl
  · exact h.sub [8, 9] (by decide) rfl
  · exact h.sub [10, 11] (by decide) rfl
  · exact h.sub [12, 13] (by decide) rfl
  · exact h.sub [14, 15] (by decide) rfl
end
section
set_option maxHeartbeats 4000000 in
set_option maxRecDepth 100000 in
theorem c_within (l : Launch) (D : va_G) (cy : Nat → ClassId) (v : Int32) (a : Int32) (b : Int32) : PC l my_X11_within mb_X11_within 3 ((some .boolean)) (rmD 1 0 0) D (TY cy) [.int v, .int a, .int b] NS [] (vp_Si (fun r => if2 (a.toInt ≤ v.toInt ∧ v.toInt ≤ b.toInt) 1 0 r)) := by
  refine pc_intro (by decide) (Nat.le_of_ble_eq_true rfl) (fun p e s m below meth c ls Sx hr hlocks hl hP hK hX => ?_)
  have hx := Sx.1
  have hb := Sx.2.1
  have hl : lv_has ls 3 [(0, .int v), (1, .int a), (2, .int b)] := hl
  refine lv_iload_n hx hb dd_X11_within_0 rfl (lv_at hl 0 rfl) ?_
  refine lv_iload_n hx hb dd_X11_within_1 rfl (lv_at hl 1 rfl) ?_
  refine lv_icmp_lt (tgt := 14) hx hb dd_X11_within_2 (by decide) (fun c1 => ?_) (fun c1 => ?_)
  · have fc1 := ci_lt (a := v.toInt) (b := a.toInt) rfl rfl c1
    refine lv_iconst (v := 0) hx hb dd_X11_within_14 (by decide) ?_
    exact pc_ret Sx hr hlocks rfl dd_X11_within_15 (Or.inr ⟨by omega, rfl⟩)
  · have fc1 := ci_nlt (a := v.toInt) (b := a.toInt) rfl rfl c1
    refine lv_iload_n hx hb dd_X11_within_5 rfl (lv_at hl 0 rfl) ?_
    refine lv_iload_n hx hb dd_X11_within_6 rfl (lv_at hl 2 rfl) ?_
    refine lv_icmp_gt (tgt := 14) hx hb dd_X11_within_7 (by decide) (fun c2 => ?_) (fun c2 => ?_)
    · have fc2 := ci_lt (a := b.toInt) (b := v.toInt) rfl rfl c2
      refine lv_iconst (v := 0) hx hb dd_X11_within_14 (by decide) ?_
      exact pc_ret Sx hr hlocks rfl dd_X11_within_15 (Or.inr ⟨by omega, rfl⟩)
    · have fc2 := ci_nlt (a := b.toInt) (b := v.toInt) rfl rfl c2
      refine lv_iconst (v := 1) hx hb dd_X11_within_10 (by decide) ?_
      refine lv_goto (tgt := 15) hx hb dd_X11_within_11 (by decide) ?_
      exact pc_ret Sx hr hlocks rfl dd_X11_within_15 (Or.inl ⟨by omega, rfl⟩)
set_option maxHeartbeats 4000000 in
set_option maxRecDepth 100000 in
theorem c_isShelf (l : Launch) (D : va_G) (cy : Nat → ClassId) (v : Int32) : PC l my_X11_isShelf mb_X11_isShelf 1 ((some .boolean)) (rmD 2 0 0) D (TY cy) [.int v] NS [] (vp_Si (fun r => if2 (0 ≤ v.toInt ∧ v.toInt ≤ 7) 1 0 r)) := by
  refine pc_intro (by decide) (Nat.le_of_ble_eq_true rfl) (fun p e s m below meth c ls Sx hr hlocks hl hP hK hX => ?_)
  have hx := Sx.1
  have hb := Sx.2.1
  have hl : lv_has ls 1 [(0, .int v)] := hl
  refine lv_iload_n hx hb dd_X11_isShelf_0 rfl (lv_at hl 0 rfl) ?_
  refine lv_iconst (v := 0) hx hb dd_X11_isShelf_1 (by decide) ?_
  refine lv_bipush (v := 7) hx hb dd_X11_isShelf_2 (by decide) ?_
  refine pk_i (pc_T [.int v, .int 0, .int 7] [] Sx hl.1 ws_X_59 md_X11_within (c_within l D cy v 0 7) ⟨rfl, rfl⟩ ⟨Nat.le_of_ble_eq_true rfl, Nat.le_of_ble_eq_true rfl⟩ p_nil hK ns_b (ns_w hX) rfl rfl (Nat.le_of_ble_eq_true rfl) dd_X11_isShelf_4 ⟨Nat.le_of_ble_eq_true rfl, Nat.le_of_ble_eq_true rfl⟩) (fun r1 hw2 => ?_)
  rcases hw2 with ⟨hw2, ehw2⟩ | ⟨hw2, ehw2⟩
  · have hl3 : Int32.toInt 0 = 0 := rfl
    have hl4 : Int32.toInt 7 = 7 := rfl
    subst ehw2
    exact pc_ret Sx hr hlocks rfl dd_X11_isShelf_7 (Or.inl ⟨by omega, rfl⟩)
  · have hl5 : Int32.toInt 0 = 0 := rfl
    have hl6 : Int32.toInt 7 = 7 := rfl
    subst ehw2
    exact pc_ret Sx hr hlocks rfl dd_X11_isShelf_7 (Or.inr ⟨by omega, rfl⟩)
set_option maxHeartbeats 4000000 in
set_option maxRecDepth 100000 in
theorem c_isKind (l : Launch) (D : va_G) (cy : Nat → ClassId) (v : Int32) : PC l my_X11_isKind mb_X11_isKind 1 ((some .boolean)) (rmD 2 0 0) D (TY cy) [.int v] NS [] (vp_Si (fun r => if2 (0 ≤ v.toInt ∧ v.toInt ≤ 5) 1 0 r)) := by
  refine pc_intro (by decide) (Nat.le_of_ble_eq_true rfl) (fun p e s m below meth c ls Sx hr hlocks hl hP hK hX => ?_)
  have hx := Sx.1
  have hb := Sx.2.1
  have hl : lv_has ls 1 [(0, .int v)] := hl
  refine lv_iload_n hx hb dd_X11_isKind_0 rfl (lv_at hl 0 rfl) ?_
  refine lv_iconst (v := 0) hx hb dd_X11_isKind_1 (by decide) ?_
  refine lv_iconst (v := 5) hx hb dd_X11_isKind_2 (by decide) ?_
  refine pk_i (pc_T [.int v, .int 0, .int 5] [] Sx hl.1 ws_X_59 md_X11_within (c_within l D cy v 0 5) ⟨rfl, rfl⟩ ⟨Nat.le_of_ble_eq_true rfl, Nat.le_of_ble_eq_true rfl⟩ p_nil hK ns_b (ns_w hX) rfl rfl (Nat.le_of_ble_eq_true rfl) dd_X11_isKind_3 ⟨Nat.le_of_ble_eq_true rfl, Nat.le_of_ble_eq_true rfl⟩) (fun r1 hw2 => ?_)
  rcases hw2 with ⟨hw2, ehw2⟩ | ⟨hw2, ehw2⟩
  · have hl3 : Int32.toInt 0 = 0 := rfl
    have hl4 : Int32.toInt 5 = 5 := rfl
    subst ehw2
    exact pc_ret Sx hr hlocks rfl dd_X11_isKind_6 (Or.inl ⟨by omega, rfl⟩)
  · have hl5 : Int32.toInt 0 = 0 := rfl
    have hl6 : Int32.toInt 5 = 5 := rfl
    subst ehw2
    exact pc_ret Sx hr hlocks rfl dd_X11_isKind_6 (Or.inr ⟨by omega, rfl⟩)
set_option maxHeartbeats 4000000 in
set_option maxRecDepth 100000 in
theorem c_isKinds (l : Launch) (D : va_G) (cy : Nat → ClassId) (v : Int32) : PC l my_X11_isKinds mb_X11_isKinds 1 ((some .boolean)) (rmD 2 0 0) D (TY cy) [.int v] NS [] (vp_Si (fun r => if2 (0 ≤ v.toInt ∧ v.toInt ≤ 63) 1 0 r)) := by
  refine pc_intro (by decide) (Nat.le_of_ble_eq_true rfl) (fun p e s m below meth c ls Sx hr hlocks hl hP hK hX => ?_)
  have hx := Sx.1
  have hb := Sx.2.1
  have hl : lv_has ls 1 [(0, .int v)] := hl
  refine lv_iload_n hx hb dd_X11_isKinds_0 rfl (lv_at hl 0 rfl) ?_
  refine lv_iconst (v := 0) hx hb dd_X11_isKinds_1 (by decide) ?_
  refine lv_bipush (v := 63) hx hb dd_X11_isKinds_2 (by decide) ?_
  refine pk_i (pc_T [.int v, .int 0, .int 63] [] Sx hl.1 ws_X_59 md_X11_within (c_within l D cy v 0 63) ⟨rfl, rfl⟩ ⟨Nat.le_of_ble_eq_true rfl, Nat.le_of_ble_eq_true rfl⟩ p_nil hK ns_b (ns_w hX) rfl rfl (Nat.le_of_ble_eq_true rfl) dd_X11_isKinds_4 ⟨Nat.le_of_ble_eq_true rfl, Nat.le_of_ble_eq_true rfl⟩) (fun r1 hw2 => ?_)
  rcases hw2 with ⟨hw2, ehw2⟩ | ⟨hw2, ehw2⟩
  · have hl3 : Int32.toInt 0 = 0 := rfl
    have hl4 : Int32.toInt 63 = 63 := rfl
    subst ehw2
    exact pc_ret Sx hr hlocks rfl dd_X11_isKinds_7 (Or.inl ⟨by omega, rfl⟩)
  · have hl5 : Int32.toInt 0 = 0 := rfl
    have hl6 : Int32.toInt 63 = 63 := rfl
    subst ehw2
    exact pc_ret Sx hr hlocks rfl dd_X11_isKinds_7 (Or.inr ⟨by omega, rfl⟩)
set_option maxHeartbeats 4000000 in
set_option maxRecDepth 100000 in
theorem c_isHour (l : Launch) (D : va_G) (cy : Nat → ClassId) (v : Int32) : PC l my_X11_isHour mb_X11_isHour 1 ((some .boolean)) (rmD 2 0 0) D (TY cy) [.int v] NS [] (vp_Si (fun r => if2 (0 ≤ v.toInt ∧ v.toInt ≤ 11) 1 0 r)) := by
  refine pc_intro (by decide) (Nat.le_of_ble_eq_true rfl) (fun p e s m below meth c ls Sx hr hlocks hl hP hK hX => ?_)
  have hx := Sx.1
  have hb := Sx.2.1
  have hl : lv_has ls 1 [(0, .int v)] := hl
  refine lv_iload_n hx hb dd_X11_isHour_0 rfl (lv_at hl 0 rfl) ?_
  refine lv_iconst (v := 0) hx hb dd_X11_isHour_1 (by decide) ?_
  refine lv_bipush (v := 11) hx hb dd_X11_isHour_2 (by decide) ?_
  refine pk_i (pc_T [.int v, .int 0, .int 11] [] Sx hl.1 ws_X_59 md_X11_within (c_within l D cy v 0 11) ⟨rfl, rfl⟩ ⟨Nat.le_of_ble_eq_true rfl, Nat.le_of_ble_eq_true rfl⟩ p_nil hK ns_b (ns_w hX) rfl rfl (Nat.le_of_ble_eq_true rfl) dd_X11_isHour_4 ⟨Nat.le_of_ble_eq_true rfl, Nat.le_of_ble_eq_true rfl⟩) (fun r1 hw2 => ?_)
  rcases hw2 with ⟨hw2, ehw2⟩ | ⟨hw2, ehw2⟩
  · have hl3 : Int32.toInt 0 = 0 := rfl
    have hl4 : Int32.toInt 11 = 11 := rfl
    subst ehw2
    exact pc_ret Sx hr hlocks rfl dd_X11_isHour_7 (Or.inl ⟨by omega, rfl⟩)
  · have hl5 : Int32.toInt 0 = 0 := rfl
    have hl6 : Int32.toInt 11 = 11 := rfl
    subst ehw2
    exact pc_ret Sx hr hlocks rfl dd_X11_isHour_7 (Or.inr ⟨by omega, rfl⟩)
set_option maxHeartbeats 4000000 in
set_option maxRecDepth 100000 in
theorem c_isPerson (l : Launch) (D : va_G) (cy : Nat → ClassId) (v : Int32) : PC l my_X11_isPerson mb_X11_isPerson 1 ((some .boolean)) (rmD 2 0 0) D (TY cy) [.int v] NS [] (vp_Si (fun r => if2 (0 ≤ v.toInt ∧ v.toInt ≤ 15) 1 0 r)) := by
  refine pc_intro (by decide) (Nat.le_of_ble_eq_true rfl) (fun p e s m below meth c ls Sx hr hlocks hl hP hK hX => ?_)
  have hx := Sx.1
  have hb := Sx.2.1
  have hl : lv_has ls 1 [(0, .int v)] := hl
  refine lv_iload_n hx hb dd_X11_isPerson_0 rfl (lv_at hl 0 rfl) ?_
  refine lv_iconst (v := 0) hx hb dd_X11_isPerson_1 (by decide) ?_
  refine lv_bipush (v := 15) hx hb dd_X11_isPerson_2 (by decide) ?_
  refine pk_i (pc_T [.int v, .int 0, .int 15] [] Sx hl.1 ws_X_59 md_X11_within (c_within l D cy v 0 15) ⟨rfl, rfl⟩ ⟨Nat.le_of_ble_eq_true rfl, Nat.le_of_ble_eq_true rfl⟩ p_nil hK ns_b (ns_w hX) rfl rfl (Nat.le_of_ble_eq_true rfl) dd_X11_isPerson_4 ⟨Nat.le_of_ble_eq_true rfl, Nat.le_of_ble_eq_true rfl⟩) (fun r1 hw2 => ?_)
  rcases hw2 with ⟨hw2, ehw2⟩ | ⟨hw2, ehw2⟩
  · have hl3 : Int32.toInt 0 = 0 := rfl
    have hl4 : Int32.toInt 15 = 15 := rfl
    subst ehw2
    exact pc_ret Sx hr hlocks rfl dd_X11_isPerson_7 (Or.inl ⟨by omega, rfl⟩)
  · have hl5 : Int32.toInt 0 = 0 := rfl
    have hl6 : Int32.toInt 15 = 15 := rfl
    subst ehw2
    exact pc_ret Sx hr hlocks rfl dd_X11_isPerson_7 (Or.inr ⟨by omega, rfl⟩)
set_option maxHeartbeats 4000000 in
set_option maxRecDepth 100000 in
theorem c_isPersonOrNone (l : Launch) (D : va_G) (cy : Nat → ClassId) (v : Int32) : PC l my_X11_isPersonOrNone mb_X11_isPersonOrNone 1 ((some .boolean)) (rmD 3 0 0) D (TY cy) [.int v] NS [] (vp_Si (fun r => if2 ((-1) ≤ v.toInt ∧ v.toInt ≤ 15) 1 0 r)) := by
  refine pc_intro (by decide) (Nat.le_of_ble_eq_true rfl) (fun p e s m below meth c ls Sx hr hlocks hl hP hK hX => ?_)
  have hx := Sx.1
  have hb := Sx.2.1
  have hl : lv_has ls 1 [(0, .int v)] := hl
  refine lv_iload_n hx hb dd_X11_isPersonOrNone_0 rfl (lv_at hl 0 rfl) ?_
  refine lv_iconst (v := (-1)) hx hb dd_X11_isPersonOrNone_1 (by decide) ?_
  refine lv_icmp_eq (tgt := 12) hx hb dd_X11_isPersonOrNone_2 (by decide) (fun c1 => ?_) (fun c1 => ?_)
  · have fc1 := ci_eq (a := v.toInt) (b := (-1)) rfl rfl c1
    refine lv_iconst (v := 1) hx hb dd_X11_isPersonOrNone_12 (by decide) ?_
    refine lv_goto (tgt := 17) hx hb dd_X11_isPersonOrNone_13 (by decide) ?_
    exact pc_ret Sx hr hlocks rfl dd_X11_isPersonOrNone_17 (Or.inl ⟨by omega, rfl⟩)
  · have fc1 := ci_ne (a := v.toInt) (b := (-1)) rfl rfl c1
    refine lv_iload_n hx hb dd_X11_isPersonOrNone_5 rfl (lv_at hl 0 rfl) ?_
    refine pk_i (pc_T [.int v] [] Sx hl.1 ws_X_339 md_X11_isPerson (c_isPerson l D cy v) ⟨rfl, rfl⟩ ⟨Nat.le_of_ble_eq_true rfl, Nat.le_of_ble_eq_true rfl⟩ p_nil hK ns_b (ns_w hX) rfl rfl (Nat.le_of_ble_eq_true rfl) dd_X11_isPersonOrNone_6 ⟨Nat.le_of_ble_eq_true rfl, Nat.le_of_ble_eq_true rfl⟩) (fun r2 hw3 => ?_)
    rcases hw3 with ⟨hw3, ehw3⟩ | ⟨hw3, ehw3⟩
    · subst ehw3
      refine lv_if_eq (tgt := 16) hx hb dd_X11_isPersonOrNone_9 (by decide) (fun c => absurd c (by decide)) (fun _ => ?_)
      refine lv_iconst (v := 1) hx hb dd_X11_isPersonOrNone_12 (by decide) ?_
      refine lv_goto (tgt := 17) hx hb dd_X11_isPersonOrNone_13 (by decide) ?_
      exact pc_ret Sx hr hlocks rfl dd_X11_isPersonOrNone_17 (Or.inl ⟨by omega, rfl⟩)
    · subst ehw3
      refine lv_if_eq (tgt := 16) hx hb dd_X11_isPersonOrNone_9 (by decide) (fun _ => ?_) (fun c => absurd c (by decide))
      refine lv_iconst (v := 0) hx hb dd_X11_isPersonOrNone_16 (by decide) ?_
      exact pc_ret Sx hr hlocks rfl dd_X11_isPersonOrNone_17 (Or.inr ⟨by omega, rfl⟩)
set_option maxHeartbeats 4000000 in
set_option maxRecDepth 100000 in
theorem c_Shelf_isEmpty (l : Launch) (D : va_G) (cy : Nat → ClassId) (q : Nat → Nat) : PC l my_X7_isEmpty mb_X7_isEmpty 1 ((some .boolean)) (rmD 1 0 0) D (TY cy) [.ref (q 0)] NS [(q 0, .inr (7, fShelf q))] (vp_Si (fun r => r = 1)) := by
  refine pc_intro (by decide) (Nat.le_of_ble_eq_true rfl) (fun p e s m below meth c ls Sx hr hlocks hl hP hK hX => ?_)
  have hx := Sx.1
  have hb := Sx.2.1
  have hl : lv_has ls 1 [(0, .ref (q 0))] := hl
  refine lv_aload_n hx hb dd_X7_isEmpty_0 rfl (lv_at hl 0 rfl) ?_
  refine wk_get (v := .int (-1)) Sx ef_7 hK hP 0 rfl rfl 1 (by decide) kk_370 rfl dd_X7_isEmpty_1 ?_
  refine lv_iconst (v := (-1)) hx hb dd_X7_isEmpty_4 (by decide) ?_
  refine lv_icmp_ne (tgt := 12) hx hb dd_X7_isEmpty_5 (by decide) (fun c => absurd c (by decide)) (fun _ => ?_)
  refine lv_iconst (v := 1) hx hb dd_X7_isEmpty_8 (by decide) ?_
  refine lv_goto (tgt := 13) hx hb dd_X7_isEmpty_9 (by decide) ?_
  exact pc_ret Sx hr hlocks rfl dd_X7_isEmpty_13 rfl
set_option maxHeartbeats 4000000 in
set_option maxRecDepth 100000 in
theorem c_Shelf_hasThing (l : Launch) (D : va_G) (cy : Nat → ClassId) (q : Nat → Nat) : PC l my_X7_hasThing mb_X7_hasThing 1 ((some .boolean)) (rmD 1 0 0) D (TY cy) [.ref (q 0)] NS [(q 0, .inr (7, fShelf q))] (vp_Si (fun r => r = 0)) := by
  refine pc_intro (by decide) (Nat.le_of_ble_eq_true rfl) (fun p e s m below meth c ls Sx hr hlocks hl hP hK hX => ?_)
  have hx := Sx.1
  have hb := Sx.2.1
  have hl : lv_has ls 1 [(0, .ref (q 0))] := hl
  refine lv_aload_n hx hb dd_X7_hasThing_0 rfl (lv_at hl 0 rfl) ?_
  refine wk_get (v := .int (-1)) Sx ef_7 hK hP 0 rfl rfl 1 (by decide) kk_370 rfl dd_X7_hasThing_1 ?_
  refine lv_bipush (v := 10) hx hb dd_X7_hasThing_4 (by decide) ?_
  refine lv_icmp_lt (tgt := 13) hx hb dd_X7_hasThing_6 (by decide) (fun _ => ?_) (fun c => absurd c (by decide))
  refine lv_iconst (v := 0) hx hb dd_X7_hasThing_13 (by decide) ?_
  exact pc_ret Sx hr hlocks rfl dd_X7_hasThing_14 rfl
set_option maxHeartbeats 4000000 in
set_option maxRecDepth 100000 in
theorem c_Shelf_hasRow (l : Launch) (D : va_G) (cy : Nat → ClassId) (q : Nat → Nat) : PC l my_X7_hasRow mb_X7_hasRow 1 ((some .boolean)) (rmD 2 0 0) D (TY cy) [.ref (q 0)] NS [(q 0, .inr (7, fShelf q))] (vp_Si (fun r => r = 0)) := by
  refine pc_intro (by decide) (Nat.le_of_ble_eq_true rfl) (fun p e s m below meth c ls Sx hr hlocks hl hP hK hX => ?_)
  have hx := Sx.1
  have hb := Sx.2.1
  have hl : lv_has ls 1 [(0, .ref (q 0))] := hl
  refine lv_aload_n hx hb dd_X7_hasRow_0 rfl (lv_at hl 0 rfl) ?_
  refine wk_get (v := .int (-1)) Sx ef_7 hK hP 0 rfl rfl 1 (by decide) kk_370 rfl dd_X7_hasRow_1 ?_
  refine lv_iconst (v := 0) hx hb dd_X7_hasRow_4 (by decide) ?_
  refine lv_iconst (v := 4) hx hb dd_X7_hasRow_5 (by decide) ?_
  refine pk_i (pc_TN [.int (-1), .int 0, .int 4] [] Sx hX hl.1 ws_Shelf_22 md_X11_within (c_within l D cy (-1) 0 4) ⟨rfl, rfl⟩ ⟨Nat.le_of_ble_eq_true rfl, Nat.le_of_ble_eq_true rfl⟩ p_nil hK ns_b (ns_w hX) rfl rfl (Nat.le_of_ble_eq_true rfl) dd_X7_hasRow_6 ⟨Nat.le_of_ble_eq_true rfl, Nat.le_of_ble_eq_true rfl⟩) (fun r1 hw2 => ?_)
  rcases hw2 with ⟨hw2, ehw2⟩ | ⟨hw2, ehw2⟩
  · have hl3 : Int32.toInt (-1) = (-1) := rfl
    have hl4 : Int32.toInt 0 = 0 := rfl
    have hl5 : Int32.toInt 4 = 4 := rfl
    exfalso; omega
  · have hl6 : Int32.toInt (-1) = (-1) := rfl
    have hl7 : Int32.toInt 0 = 0 := rfl
    have hl8 : Int32.toInt 4 = 4 := rfl
    subst ehw2
    exact pc_ret Sx hr hlocks rfl dd_X7_hasRow_9 rfl
set_option maxHeartbeats 4000000 in
set_option maxRecDepth 100000 in
theorem c_Shelf_at (l : Launch) (D : va_G) (cy : Nat → ClassId) (q : Nat → Nat) (ix : Int32) : PC l my_X7_at mb_X7_at 2 ((some .long)) (rmD 3 0 0) D (TY cy) [.ref (q 0), .int ix] NS [(q 0, .inr (7, fShelf q))] (vp_Sl (fun r => r = 0)) := by
  refine pc_intro (by decide) (Nat.le_of_ble_eq_true rfl) (fun p e s m below meth c ls Sx hr hlocks hl hP hK hX => ?_)
  have hx := Sx.1
  have hb := Sx.2.1
  have hl : lv_has ls 2 [(0, .ref (q 0)), (1, .int ix)] := hl
  refine lv_aload_n hx hb dd_X7_at_0 rfl (lv_at hl 0 rfl) ?_
  refine pk_i (pc_V [] [] Sx hl.1 ws_Shelf_32 md_X7_hasRow (c_Shelf_hasRow l D cy q) ⟨rfl, rfl⟩ ⟨Nat.le_of_ble_eq_true rfl, Nat.le_of_ble_eq_true rfl⟩ (hP.sub [0] rfl) hK ns_b (ns_w hX) (va_recv hK hP (ci := 7) (q0 := 0) rfl rfl) rfl rfl (Nat.le_of_ble_eq_true rfl) dd_X7_at_1 ⟨Nat.le_of_ble_eq_true rfl, Nat.le_of_ble_eq_true rfl⟩) (fun r1 hw2 => ?_)
  subst hw2
  refine lv_if_eq (tgt := 30) hx hb dd_X7_at_4 (by decide) (fun _ => ?_) (fun c => absurd c (by decide))
  refine lv_lconst (v := 0) hx hb dd_X7_at_30 rfl ?_
  exact pc_lret Sx hr hlocks dd_X7_at_31 rfl
set_option maxHeartbeats 4000000 in
set_option maxRecDepth 100000 in
theorem c_Things_has (l : Launch) (D : va_G) (cy : Nat → ClassId) (q : Nat → Nat) (v : Int32) : PC l my_X10_has mb_X10_has 2 ((some .boolean)) (rmD 2 0 0) D (TY cy) [.ref (q 0), .int v] NS [(q 0, .inr (10, fThings q))] (vp_Si (fun r => r = 0)) := by
  refine pc_intro (by decide) (Nat.le_of_ble_eq_true rfl) (fun p e s m below meth c ls Sx hr hlocks hl hP hK hX => ?_)
  have hx := Sx.1
  have hb := Sx.2.1
  have hl : lv_has ls 2 [(0, .ref (q 0)), (1, .int v)] := hl
  refine lv_iload_n hx hb dd_X10_has_0 rfl (lv_at hl 1 rfl) ?_
  refine lv_iconst (v := 0) hx hb dd_X10_has_1 (by decide) ?_
  refine lv_aload_n hx hb dd_X10_has_2 rfl (lv_at hl 0 rfl) ?_
  refine wk_get (v := .int 0) Sx ef_10 hK hP 0 rfl rfl 6 (by decide) kk_86 rfl dd_X10_has_3 ?_
  refine lv_iconst (v := 1) hx hb dd_X10_has_6 (by decide) ?_
  refine lv_isub hx hb dd_X10_has_7 ?_
  refine wk_int (v := (-1)) (by decide) ?_
  refine pk_i (pc_TN [.int v, .int 0, .int (-1)] [] Sx hX hl.1 ws_Things_37 md_X11_within (c_within l D cy v 0 (-1)) ⟨rfl, rfl⟩ ⟨Nat.le_of_ble_eq_true rfl, Nat.le_of_ble_eq_true rfl⟩ p_nil hK ns_b (ns_w hX) rfl rfl (Nat.le_of_ble_eq_true rfl) dd_X10_has_8 ⟨Nat.le_of_ble_eq_true rfl, Nat.le_of_ble_eq_true rfl⟩) (fun r1 hw2 => ?_)
  rcases hw2 with ⟨hw2, ehw2⟩ | ⟨hw2, ehw2⟩
  · have hl3 : Int32.toInt (-1) = (-1) := rfl
    have hl4 : Int32.toInt 0 = 0 := rfl
    exfalso; omega
  · have hl5 : Int32.toInt (-1) = (-1) := rfl
    have hl6 : Int32.toInt 0 = 0 := rfl
    subst ehw2
    exact pc_ret Sx hr hlocks rfl dd_X10_has_11 rfl
set_option maxHeartbeats 4000000 in
set_option maxRecDepth 100000 in
theorem c_Ladies_has (l : Launch) (D : va_G) (cy : Nat → ClassId) (q : Nat → Nat) (v : Int32) : PC l my_X2_has mb_X2_has 2 ((some .boolean)) (rmD 2 0 0) D (TY cy) [.ref (q 0), .int v] NS [(q 0, .inr (2, fLadies q))] (vp_Si (fun r => r = 0)) := by
  refine pc_intro (by decide) (Nat.le_of_ble_eq_true rfl) (fun p e s m below meth c ls Sx hr hlocks hl hP hK hX => ?_)
  have hx := Sx.1
  have hb := Sx.2.1
  have hl : lv_has ls 2 [(0, .ref (q 0)), (1, .int v)] := hl
  refine lv_iload_n hx hb dd_X2_has_0 rfl (lv_at hl 1 rfl) ?_
  refine lv_iconst (v := 0) hx hb dd_X2_has_1 (by decide) ?_
  refine lv_aload_n hx hb dd_X2_has_2 rfl (lv_at hl 0 rfl) ?_
  refine wk_get (v := .int 0) Sx ef_2 hK hP 0 rfl rfl 3 (by decide) kk_123 rfl dd_X2_has_3 ?_
  refine lv_iconst (v := 1) hx hb dd_X2_has_6 (by decide) ?_
  refine lv_isub hx hb dd_X2_has_7 ?_
  refine wk_int (v := (-1)) (by decide) ?_
  refine pk_i (pc_TN [.int v, .int 0, .int (-1)] [] Sx hX hl.1 ws_Ladies_25 md_X11_within (c_within l D cy v 0 (-1)) ⟨rfl, rfl⟩ ⟨Nat.le_of_ble_eq_true rfl, Nat.le_of_ble_eq_true rfl⟩ p_nil hK ns_b (ns_w hX) rfl rfl (Nat.le_of_ble_eq_true rfl) dd_X2_has_8 ⟨Nat.le_of_ble_eq_true rfl, Nat.le_of_ble_eq_true rfl⟩) (fun r1 hw2 => ?_)
  rcases hw2 with ⟨hw2, ehw2⟩ | ⟨hw2, ehw2⟩
  · have hl3 : Int32.toInt (-1) = (-1) := rfl
    have hl4 : Int32.toInt 0 = 0 := rfl
    exfalso; omega
  · have hl5 : Int32.toInt (-1) = (-1) := rfl
    have hl6 : Int32.toInt 0 = 0 := rfl
    subst ehw2
    exact pc_ret Sx hr hlocks rfl dd_X2_has_11 rfl
set_option maxHeartbeats 4000000 in
set_option maxRecDepth 100000 in
theorem c_Laws_has (l : Launch) (D : va_G) (cy : Nat → ClassId) (q : Nat → Nat) (v : Int32) : PC l my_X3_has mb_X3_has 2 ((some .boolean)) (rmD 2 0 0) D (TY cy) [.ref (q 0), .int v] NS [(q 0, .inr (3, fLaws q))] (vp_Si (fun r => r = 0)) := by
  refine pc_intro (by decide) (Nat.le_of_ble_eq_true rfl) (fun p e s m below meth c ls Sx hr hlocks hl hP hK hX => ?_)
  have hx := Sx.1
  have hb := Sx.2.1
  have hl : lv_has ls 2 [(0, .ref (q 0)), (1, .int v)] := hl
  refine lv_iload_n hx hb dd_X3_has_0 rfl (lv_at hl 1 rfl) ?_
  refine lv_iconst (v := 0) hx hb dd_X3_has_1 (by decide) ?_
  refine lv_aload_n hx hb dd_X3_has_2 rfl (lv_at hl 0 rfl) ?_
  refine wk_get (v := .int 0) Sx ef_3 hK hP 0 rfl rfl 2 (by decide) kk_144 rfl dd_X3_has_3 ?_
  refine lv_iconst (v := 1) hx hb dd_X3_has_6 (by decide) ?_
  refine lv_isub hx hb dd_X3_has_7 ?_
  refine wk_int (v := (-1)) (by decide) ?_
  refine pk_i (pc_TN [.int v, .int 0, .int (-1)] [] Sx hX hl.1 ws_Laws_28 md_X11_within (c_within l D cy v 0 (-1)) ⟨rfl, rfl⟩ ⟨Nat.le_of_ble_eq_true rfl, Nat.le_of_ble_eq_true rfl⟩ p_nil hK ns_b (ns_w hX) rfl rfl (Nat.le_of_ble_eq_true rfl) dd_X3_has_8 ⟨Nat.le_of_ble_eq_true rfl, Nat.le_of_ble_eq_true rfl⟩) (fun r1 hw2 => ?_)
  rcases hw2 with ⟨hw2, ehw2⟩ | ⟨hw2, ehw2⟩
  · have hl3 : Int32.toInt (-1) = (-1) := rfl
    have hl4 : Int32.toInt 0 = 0 := rfl
    exfalso; omega
  · have hl5 : Int32.toInt (-1) = (-1) := rfl
    have hl6 : Int32.toInt 0 = 0 := rfl
    subst ehw2
    exact pc_ret Sx hr hlocks rfl dd_X3_has_11 rfl
set_option maxHeartbeats 4000000 in
set_option maxRecDepth 100000 in
theorem c_Buyers_has (l : Launch) (D : va_G) (cy : Nat → ClassId) (q : Nat → Nat) (v : Int32) : PC l my_X0_has mb_X0_has 2 ((some .boolean)) (rmD 2 0 0) D (TY cy) [.ref (q 0), .int v] NS [(q 0, .inr (0, fBuyers q))] (vp_Si (fun r => r = 0)) := by
  refine pc_intro (by decide) (Nat.le_of_ble_eq_true rfl) (fun p e s m below meth c ls Sx hr hlocks hl hP hK hX => ?_)
  have hx := Sx.1
  have hb := Sx.2.1
  have hl : lv_has ls 2 [(0, .ref (q 0)), (1, .int v)] := hl
  refine lv_iload_n hx hb dd_X0_has_0 rfl (lv_at hl 1 rfl) ?_
  refine lv_iconst (v := 0) hx hb dd_X0_has_1 (by decide) ?_
  refine lv_aload_n hx hb dd_X0_has_2 rfl (lv_at hl 0 rfl) ?_
  refine wk_get (v := .int 0) Sx ef_0 hK hP 0 rfl rfl 5 (by decide) kk_174 rfl dd_X0_has_3 ?_
  refine lv_iconst (v := 1) hx hb dd_X0_has_6 (by decide) ?_
  refine lv_isub hx hb dd_X0_has_7 ?_
  refine wk_int (v := (-1)) (by decide) ?_
  refine pk_i (pc_TN [.int v, .int 0, .int (-1)] [] Sx hX hl.1 ws_Buyers_31 md_X11_within (c_within l D cy v 0 (-1)) ⟨rfl, rfl⟩ ⟨Nat.le_of_ble_eq_true rfl, Nat.le_of_ble_eq_true rfl⟩ p_nil hK ns_b (ns_w hX) rfl rfl (Nat.le_of_ble_eq_true rfl) dd_X0_has_8 ⟨Nat.le_of_ble_eq_true rfl, Nat.le_of_ble_eq_true rfl⟩) (fun r1 hw2 => ?_)
  rcases hw2 with ⟨hw2, ehw2⟩ | ⟨hw2, ehw2⟩
  · have hl3 : Int32.toInt (-1) = (-1) := rfl
    have hl4 : Int32.toInt 0 = 0 := rfl
    exfalso; omega
  · have hl5 : Int32.toInt (-1) = (-1) := rfl
    have hl6 : Int32.toInt 0 = 0 := rfl
    subst ehw2
    exact pc_ret Sx hr hlocks rfl dd_X0_has_11 rfl
set_option maxHeartbeats 4000000 in
set_option maxRecDepth 100000 in
theorem c_Sightings_has (l : Launch) (D : va_G) (cy : Nat → ClassId) (q : Nat → Nat) (v : Int32) : PC l my_X8_has mb_X8_has 2 ((some .boolean)) (rmD 2 0 0) D (TY cy) [.ref (q 0), .int v] NS [(q 0, .inr (8, fSightings q))] (vp_Si (fun r => r = 0)) := by
  refine pc_intro (by decide) (Nat.le_of_ble_eq_true rfl) (fun p e s m below meth c ls Sx hr hlocks hl hP hK hX => ?_)
  have hx := Sx.1
  have hb := Sx.2.1
  have hl : lv_has ls 2 [(0, .ref (q 0)), (1, .int v)] := hl
  refine lv_iload_n hx hb dd_X8_has_0 rfl (lv_at hl 1 rfl) ?_
  refine lv_iconst (v := 0) hx hb dd_X8_has_1 (by decide) ?_
  refine lv_aload_n hx hb dd_X8_has_2 rfl (lv_at hl 0 rfl) ?_
  refine wk_get (v := .int 0) Sx ef_8 hK hP 0 rfl rfl 4 (by decide) kk_200 rfl dd_X8_has_3 ?_
  refine lv_iconst (v := 1) hx hb dd_X8_has_6 (by decide) ?_
  refine lv_isub hx hb dd_X8_has_7 ?_
  refine wk_int (v := (-1)) (by decide) ?_
  refine pk_i (pc_TN [.int v, .int 0, .int (-1)] [] Sx hX hl.1 ws_Sightings_37 md_X11_within (c_within l D cy v 0 (-1)) ⟨rfl, rfl⟩ ⟨Nat.le_of_ble_eq_true rfl, Nat.le_of_ble_eq_true rfl⟩ p_nil hK ns_b (ns_w hX) rfl rfl (Nat.le_of_ble_eq_true rfl) dd_X8_has_8 ⟨Nat.le_of_ble_eq_true rfl, Nat.le_of_ble_eq_true rfl⟩) (fun r1 hw2 => ?_)
  rcases hw2 with ⟨hw2, ehw2⟩ | ⟨hw2, ehw2⟩
  · have hl3 : Int32.toInt (-1) = (-1) := rfl
    have hl4 : Int32.toInt 0 = 0 := rfl
    exfalso; omega
  · have hl5 : Int32.toInt (-1) = (-1) := rfl
    have hl6 : Int32.toInt 0 = 0 := rfl
    subst ehw2
    exact pc_ret Sx hr hlocks rfl dd_X8_has_11 rfl
set_option maxHeartbeats 4000000 in
set_option maxRecDepth 100000 in
theorem c_fill_i20 (l : Launch) (D : va_G) (cy : Nat → ClassId) (a : Nat) (v : Int32) (f : Nat → Int32) : HC l my_J7_fill_53178 mb_J7_fill_53178 4 ((none : Option Jvm.ClassFile.FieldType)) (rmD 1 0 0) D (TY cy) [.ref a, .int v] NX [(a, .inl (cy 0, 20, .inl (f)))] (QV (S := Unit) D (fun _ => True) (fun _ => [])) := by
  refine hc_intro (by decide) (Nat.le_of_ble_eq_true rfl) (fun p e s m below meth c A ls Sx hr hlocks hin hl hP hD hK hS hA hX => ?_)
  have hx := Sx.1
  have hb := Sx.2.1
  have hl : lv_has ls 4 [(0, .ref a), (1, .int v)] := hl
  have hP : va_P D cls [(a, .inl (cy 0, 20, .inl (f)))] s.heap := hP
  have hD : va_D A [(a, .inl (cy 0, 20, .inl (f)))] := hD
  refine lv_iconst (v := 0) hx hb dd_J7_fill_53178_0 (by decide) ?_
  refine lv_istore_n (lv' := [(2, .int 0), (0, .ref a), (1, .int v)]) hx hb dd_J7_fill_53178_1 rfl hl (by decide) rfl (fun ls hl => ?_)
  refine lv_aload_n hx hb dd_J7_fill_53178_2 rfl (lv_at hl 1 rfl) ?_
  refine va_alen (v := 20) hx hb hK hP 0 0 rfl rfl rfl dd_J7_fill_53178_3 ?_
  refine lv_istore_n (lv' := [(3, .int 20), (2, .int 0), (0, .ref a), (1, .int v)]) hx hb dd_J7_fill_53178_4 rfl hl (by decide) rfl (fun ls hl => ?_)
  have hlz3 : Int32.toInt 0 = 0 := rfl
  have hI6 : 0 ≤ (0 : Int32).toInt ∧ (0 : Int32).toInt ≤ 20 := ⟨by omega, by omega⟩
  refine gl1 5 4 (fun (u : Int32 × (Nat → Int32)) => [(a, .inl (cy 0, 20, .inl (u.2)))]) (fun (u : Int32 × (Nat → Int32)) => [(3, .int 20), (2, .int u.1), (0, .ref a), (1, .int v)]) (fun (u : Int32 × (Nat → Int32)) => 0 ≤ u.1.toInt ∧ u.1.toInt ≤ 20) (fun (u : Int32 × (Nat → Int32)) => (20 - u.1.toInt).toNat) (fun u H locs ls hI5 hl hP hD hS ih4 => ?_) (0, f) hI6 (lv_sub hl [0, 1, 2, 3] rfl) hP hD hS
  obtain ⟨i2, f1⟩ := u
  have hl : lv_has ls 4 [(3, .int 20), (2, .int i2), (0, .ref a), (1, .int v)] := hl
  have hP : va_P D cls [(a, .inl (cy 0, 20, .inl (f1)))] H := hP
  have hD : va_D A [(a, .inl (cy 0, 20, .inl (f1)))] := hD
  have hI5 : 0 ≤ i2.toInt ∧ i2.toInt ≤ 20 := hI5
  obtain ⟨iv7, iv8⟩ := hI5
  refine lv_iload_n hx hb dd_J7_fill_53178_5 rfl (lv_at hl 1 rfl) ?_
  refine lv_iload_n hx hb dd_J7_fill_53178_6 rfl (lv_at hl 0 rfl) ?_
  refine lv_icmp_ge (tgt := 20) hx hb dd_J7_fill_53178_7 (by decide) (fun c9 => ?_) (fun c9 => ?_)
  · have fc9 := ci_le (a := 20) (b := i2.toInt) rfl rfl c9
    exact hc_vret Sx hr hlocks dd_J7_fill_53178_20 hS () trivial p_nil d_nil
  · have fc9 := ci_nle (a := 20) (b := i2.toInt) rfl rfl c9
    refine lv_aload_n hx hb dd_J7_fill_53178_10 rfl (lv_at hl 2 rfl) ?_
    refine lv_iload_n hx hb dd_J7_fill_53178_11 rfl (lv_at hl 1 rfl) ?_
    refine lv_iload_n hx hb dd_J7_fill_53178_12 rfl (lv_at hl 3 rfl) ?_
    refine wk_iast (ws' := [(a, .inl (cy 0, 20, .inl (upd f1 i2.toNatClampNeg v)))]) Sx hK hP hD hS 0 0 rfl rfl (vi_of (by omega)) dd_J7_fill_53178_13 rfl (fun H locs hP hD hS => ?_)
    obtain ⟨z10, ez10⟩ : ∃ y : Int32, y = i2 + Int32.ofInt 1 := ⟨_, rfl⟩
    have fz10 : z10.toInt = i2.toInt + 1 := by rw [ez10]; exact ti_add rfl (show (Int32.ofInt 1).toInt = 1 by decide) (by omega) (by omega)
    refine lv_iinc (v := z10) (lv' := [(2, .int z10), (3, .int 20), (0, .ref a), (1, .int v)]) hx hb dd_J7_fill_53178_14 hl (k := 1) rfl ez10.symm (by decide) rfl (fun ls hl => ?_)
    refine lv_goto (tgt := 5) hx hb dd_J7_fill_53178_17 (by decide) ?_
    have hI11 : 0 ≤ z10.toInt ∧ z10.toInt ≤ 20 := ⟨by omega, by omega⟩
    have hm12 : (20 - z10.toInt).toNat < (20 - i2.toInt).toNat := by omega
    exact ih4 (z10, (upd f1 i2.toNatClampNeg v)) H locs ls hI11 hm12 (lv_sub hl [1, 0, 2, 3] rfl) hP hD hS
set_option maxHeartbeats 4000000 in
set_option maxRecDepth 100000 in
theorem c_fill_l40 (l : Launch) (D : va_G) (cy : Nat → ClassId) (a : Nat) (v : Int64) (f : Nat → Int64) : HC l my_J7_fill_d0a16 mb_J7_fill_d0a16 5 ((none : Option Jvm.ClassFile.FieldType)) (rmD 1 0 0) D (TY cy) [.ref a, .long v] NX [(a, .inl (cy 2, 40, .inr (.inl (f))))] (QV (S := Unit) D (fun _ => True) (fun _ => [])) := by
  refine hc_intro (by decide) (Nat.le_of_ble_eq_true rfl) (fun p e s m below meth c A ls Sx hr hlocks hin hl hP hD hK hS hA hX => ?_)
  have hx := Sx.1
  have hb := Sx.2.1
  have hl : lv_has ls 5 [(0, .ref a), (1, .long v)] := hl
  have hP : va_P D cls [(a, .inl (cy 2, 40, .inr (.inl (f))))] s.heap := hP
  have hD : va_D A [(a, .inl (cy 2, 40, .inr (.inl (f))))] := hD
  refine lv_iconst (v := 0) hx hb dd_J7_fill_d0a16_0 (by decide) ?_
  refine lv_istore_n (lv' := [(3, .int 0), (0, .ref a), (1, .long v)]) hx hb dd_J7_fill_d0a16_1 rfl hl (by decide) rfl (fun ls hl => ?_)
  refine lv_aload_n hx hb dd_J7_fill_d0a16_2 rfl (lv_at hl 1 rfl) ?_
  refine va_alen (v := 40) hx hb hK hP 0 2 rfl rfl rfl dd_J7_fill_d0a16_3 ?_
  refine lv_istore (lv' := [(4, .int 40), (3, .int 0), (0, .ref a), (1, .long v)]) hx hb dd_J7_fill_d0a16_4 hl (by decide) rfl (fun ls hl => ?_)
  have hlz3 : Int32.toInt 0 = 0 := rfl
  have hI6 : 0 ≤ (0 : Int32).toInt ∧ (0 : Int32).toInt ≤ 40 := ⟨by omega, by omega⟩
  refine gl1 6 5 (fun (u : Int32 × (Nat → Int64)) => [(a, .inl (cy 2, 40, .inr (.inl (u.2))))]) (fun (u : Int32 × (Nat → Int64)) => [(4, .int 40), (3, .int u.1), (0, .ref a), (1, .long v)]) (fun (u : Int32 × (Nat → Int64)) => 0 ≤ u.1.toInt ∧ u.1.toInt ≤ 40) (fun (u : Int32 × (Nat → Int64)) => (40 - u.1.toInt).toNat) (fun u H locs ls hI5 hl hP hD hS ih4 => ?_) (0, f) hI6 (lv_sub hl [0, 1, 2, 3] rfl) hP hD hS
  obtain ⟨i2, f1⟩ := u
  have hl : lv_has ls 5 [(4, .int 40), (3, .int i2), (0, .ref a), (1, .long v)] := hl
  have hP : va_P D cls [(a, .inl (cy 2, 40, .inr (.inl (f1))))] H := hP
  have hD : va_D A [(a, .inl (cy 2, 40, .inr (.inl (f1))))] := hD
  have hI5 : 0 ≤ i2.toInt ∧ i2.toInt ≤ 40 := hI5
  obtain ⟨iv7, iv8⟩ := hI5
  refine lv_iload_n hx hb dd_J7_fill_d0a16_6 rfl (lv_at hl 1 rfl) ?_
  refine lv_iload hx hb dd_J7_fill_d0a16_7 (lv_at hl 0 rfl) ?_
  refine lv_icmp_ge (tgt := 22) hx hb dd_J7_fill_d0a16_9 (by decide) (fun c9 => ?_) (fun c9 => ?_)
  · have fc9 := ci_le (a := 40) (b := i2.toInt) rfl rfl c9
    exact hc_vret Sx hr hlocks dd_J7_fill_d0a16_22 hS () trivial p_nil d_nil
  · have fc9 := ci_nle (a := 40) (b := i2.toInt) rfl rfl c9
    refine lv_aload_n hx hb dd_J7_fill_d0a16_12 rfl (lv_at hl 2 rfl) ?_
    refine lv_iload_n hx hb dd_J7_fill_d0a16_13 rfl (lv_at hl 1 rfl) ?_
    refine lv_lload_n hx hb dd_J7_fill_d0a16_14 rfl (lv_at hl 3 rfl) ?_
    refine wk_last (ws' := [(a, .inl (cy 2, 40, .inr (.inl (vp_updL f1 i2.toNatClampNeg v))))]) Sx hK hP hD hS 0 2 rfl rfl (vi_of (by omega)) dd_J7_fill_d0a16_15 rfl (fun H locs hP hD hS => ?_)
    obtain ⟨z10, ez10⟩ : ∃ y : Int32, y = i2 + Int32.ofInt 1 := ⟨_, rfl⟩
    have fz10 : z10.toInt = i2.toInt + 1 := by rw [ez10]; exact ti_add rfl (show (Int32.ofInt 1).toInt = 1 by decide) (by omega) (by omega)
    refine lv_iinc (v := z10) (lv' := [(3, .int z10), (4, .int 40), (0, .ref a), (1, .long v)]) hx hb dd_J7_fill_d0a16_16 hl (k := 1) rfl ez10.symm (by decide) rfl (fun ls hl => ?_)
    refine lv_goto (tgt := 6) hx hb dd_J7_fill_d0a16_19 (by decide) ?_
    have hI11 : 0 ≤ z10.toInt ∧ z10.toInt ≤ 40 := ⟨by omega, by omega⟩
    have hm12 : (40 - z10.toInt).toNat < (40 - i2.toInt).toNat := by omega
    exact ih4 (z10, (vp_updL f1 i2.toNatClampNeg v)) H locs ls hI11 hm12 (lv_sub hl [1, 0, 2, 3] rfl) hP hD hS
set_option maxHeartbeats 4000000 in
set_option maxRecDepth 100000 in
theorem c_bitCount0 (l : Launch) (D : va_G) (cy : Nat → ClassId) : PC l my_J6_bitCount_0f7a4 mb_J6_bitCount_0f7a4 1 ((some .int)) (rmD 1 0 0) D (TY cy) [.int 0] NS [] (vp_Si (fun r => r = 0)) := by
  refine pc_intro (by decide) (Nat.le_of_ble_eq_true rfl) (fun p e s m below meth c ls Sx hr hlocks hl hP hK hX => ?_)
  have hx := Sx.1
  have hb := Sx.2.1
  have hl : lv_has ls 1 [(0, .int 0)] := hl
  refine lv_iload_n hx hb dd_J6_bitCount_0f7a4_0 rfl (lv_at hl 0 rfl) ?_
  refine lv_iload_n hx hb dd_J6_bitCount_0f7a4_1 rfl (lv_at hl 0 rfl) ?_
  refine lv_iconst (v := 1) hx hb dd_J6_bitCount_0f7a4_2 (by decide) ?_
  refine lv_iushr (v := 0) hx hb dd_J6_bitCount_0f7a4_3 (by decide) ?_
  refine lv_ldcw (v := 1431655765) hx hb (own := "java/lang/Integer") (index := 265) Sx.2.2.2.1 (Sx.2.2.2.2 _ kk_510) dd_J6_bitCount_0f7a4_4 ?_
  refine lv_iand hx hb dd_J6_bitCount_0f7a4_7 ?_
  refine wk_int (v := 0) (by decide) ?_
  refine lv_isub hx hb dd_J6_bitCount_0f7a4_8 ?_
  refine wk_int (v := 0) (by decide) ?_
  refine lv_istore_n (lv' := [(0, .int 0)]) hx hb dd_J6_bitCount_0f7a4_9 rfl hl (by decide) rfl (fun ls hl => ?_)
  refine lv_iload_n hx hb dd_J6_bitCount_0f7a4_10 rfl (lv_at hl 0 rfl) ?_
  refine lv_ldcw (v := 858993459) hx hb (own := "java/lang/Integer") (index := 266) Sx.2.2.2.1 (Sx.2.2.2.2 _ kk_511) dd_J6_bitCount_0f7a4_11 ?_
  refine lv_iand hx hb dd_J6_bitCount_0f7a4_14 ?_
  refine wk_int (v := 0) (by decide) ?_
  refine lv_iload_n hx hb dd_J6_bitCount_0f7a4_15 rfl (lv_at hl 0 rfl) ?_
  refine lv_iconst (v := 2) hx hb dd_J6_bitCount_0f7a4_16 (by decide) ?_
  refine lv_iushr (v := 0) hx hb dd_J6_bitCount_0f7a4_17 (by decide) ?_
  refine lv_ldcw (v := 858993459) hx hb (own := "java/lang/Integer") (index := 266) Sx.2.2.2.1 (Sx.2.2.2.2 _ kk_511) dd_J6_bitCount_0f7a4_18 ?_
  refine lv_iand hx hb dd_J6_bitCount_0f7a4_21 ?_
  refine wk_int (v := 0) (by decide) ?_
  refine lv_iadd hx hb dd_J6_bitCount_0f7a4_22 ?_
  refine wk_int (v := 0) (by decide) ?_
  refine lv_istore_n (lv' := [(0, .int 0)]) hx hb dd_J6_bitCount_0f7a4_23 rfl hl (by decide) rfl (fun ls hl => ?_)
  refine lv_iload_n hx hb dd_J6_bitCount_0f7a4_24 rfl (lv_at hl 0 rfl) ?_
  refine lv_iload_n hx hb dd_J6_bitCount_0f7a4_25 rfl (lv_at hl 0 rfl) ?_
  refine lv_iconst (v := 4) hx hb dd_J6_bitCount_0f7a4_26 (by decide) ?_
  refine lv_iushr (v := 0) hx hb dd_J6_bitCount_0f7a4_27 (by decide) ?_
  refine lv_iadd hx hb dd_J6_bitCount_0f7a4_28 ?_
  refine wk_int (v := 0) (by decide) ?_
  refine lv_ldcw (v := 252645135) hx hb (own := "java/lang/Integer") (index := 267) Sx.2.2.2.1 (Sx.2.2.2.2 _ kk_512) dd_J6_bitCount_0f7a4_29 ?_
  refine lv_iand hx hb dd_J6_bitCount_0f7a4_32 ?_
  refine wk_int (v := 0) (by decide) ?_
  refine lv_istore_n (lv' := [(0, .int 0)]) hx hb dd_J6_bitCount_0f7a4_33 rfl hl (by decide) rfl (fun ls hl => ?_)
  refine lv_iload_n hx hb dd_J6_bitCount_0f7a4_34 rfl (lv_at hl 0 rfl) ?_
  refine lv_iload_n hx hb dd_J6_bitCount_0f7a4_35 rfl (lv_at hl 0 rfl) ?_
  refine lv_bipush (v := 8) hx hb dd_J6_bitCount_0f7a4_36 (by decide) ?_
  refine lv_iushr (v := 0) hx hb dd_J6_bitCount_0f7a4_38 (by decide) ?_
  refine lv_iadd hx hb dd_J6_bitCount_0f7a4_39 ?_
  refine wk_int (v := 0) (by decide) ?_
  refine lv_istore_n (lv' := [(0, .int 0)]) hx hb dd_J6_bitCount_0f7a4_40 rfl hl (by decide) rfl (fun ls hl => ?_)
  refine lv_iload_n hx hb dd_J6_bitCount_0f7a4_41 rfl (lv_at hl 0 rfl) ?_
  refine lv_iload_n hx hb dd_J6_bitCount_0f7a4_42 rfl (lv_at hl 0 rfl) ?_
  refine lv_bipush (v := 16) hx hb dd_J6_bitCount_0f7a4_43 (by decide) ?_
  refine lv_iushr (v := 0) hx hb dd_J6_bitCount_0f7a4_45 (by decide) ?_
  refine lv_iadd hx hb dd_J6_bitCount_0f7a4_46 ?_
  refine wk_int (v := 0) (by decide) ?_
  refine lv_istore_n (lv' := [(0, .int 0)]) hx hb dd_J6_bitCount_0f7a4_47 rfl hl (by decide) rfl (fun ls hl => ?_)
  refine lv_iload_n hx hb dd_J6_bitCount_0f7a4_48 rfl (lv_at hl 0 rfl) ?_
  refine lv_bipush (v := 63) hx hb dd_J6_bitCount_0f7a4_49 (by decide) ?_
  refine lv_iand hx hb dd_J6_bitCount_0f7a4_51 ?_
  refine wk_int (v := 0) (by decide) ?_
  exact pc_ret Sx hr hlocks rfl dd_J6_bitCount_0f7a4_52 rfl
set_option maxHeartbeats 4000000 in
set_option maxRecDepth 100000 in
theorem c_Shelf_takeRow (l : Launch) (D : va_G) (cy : Nat → ClassId) (q : Nat → Nat) (so : Int32) (nn : Int32) : HC l my_X7_takeRow mb_X7_takeRow 3 ((none : Option Jvm.ClassFile.FieldType)) (rmD 2 0 0) D (TY cy) [.ref (q 0), .int so, .int nn] NX [(q 0, .inr (7, fShelf q)), (q 1, .inl (cy 2, 40, .inr (.inl (fun _ => 0))))] (QV (S := Unit) D (fun _ => True) (fun _ => [])) := by
  refine hc_intro (by decide) (Nat.le_of_ble_eq_true rfl) (fun p e s m below meth c A ls Sx hr hlocks hin hl hP hD hK hS hA hX => ?_)
  have hx := Sx.1
  have hb := Sx.2.1
  have hl : lv_has ls 3 [(0, .ref (q 0)), (1, .int so), (2, .int nn)] := hl
  have hP : va_P D cls [(q 0, .inr (7, fShelf q)), (q 1, .inl (cy 2, 40, .inr (.inl (fun _ => 0))))] s.heap := hP
  have hD : va_D A [(q 0, .inr (7, fShelf q)), (q 1, .inl (cy 2, 40, .inr (.inl (fun _ => 0))))] := hD
  refine lv_aload_n hx hb dd_X7_takeRow_0 rfl (lv_at hl 0 rfl) ?_
  refine lv_iload_n hx hb dd_X7_takeRow_1 rfl (lv_at hl 1 rfl) ?_
  refine wk_put (ws' := [(q 0, .inr (7, (fShelf q).set 1 (.int so))), (q 1, .inl (cy 2, 40, .inr (.inl (fun _ => 0))))]) Sx ef_7 hK hP hD hS 0 rfl rfl 1 (by decide) kk_370 rfl rfl rfl (Nat.le_of_ble_eq_true rfl) dd_X7_takeRow_2 rfl (fun H locs hP hD hS => ?_)
  refine lv_aload_n hx hb dd_X7_takeRow_5 rfl (lv_at hl 0 rfl) ?_
  refine lv_iload_n hx hb dd_X7_takeRow_6 rfl (lv_at hl 2 rfl) ?_
  refine wk_put (ws' := [(q 0, .inr (7, ((fShelf q).set 1 (.int so)).set 2 (.int nn))), (q 1, .inl (cy 2, 40, .inr (.inl (fun _ => 0))))]) Sx ef_7 hK hP hD hS 0 rfl rfl 2 (by decide) kk_372 rfl rfl rfl (Nat.le_of_ble_eq_true rfl) dd_X7_takeRow_7 rfl (fun H locs hP hD hS => ?_)
  refine lv_aload_n hx hb dd_X7_takeRow_10 rfl (lv_at hl 0 rfl) ?_
  refine wk_get (v := .ref (q 1)) Sx ef_7 hK hP 0 rfl rfl 0 (by decide) kk_368 rfl dd_X7_takeRow_11 ?_
  refine lv_lconst (v := 0) hx hb dd_X7_takeRow_14 rfl ?_
  refine hk_v (wr := [(q 0, .inr (7, ((fShelf q).set 1 (.int so)).set 2 (.int nn)))]) (c1 := 0) (s1 := 0) [1] [0] (hc_T [.ref (q 1), .long 0] [] [1] Sx hl.1 ws_Shelf_26 md_J7_fill_d0a16 (c_fill_l40 l D cy (q 1) 0 (fun _ => 0)) ⟨Nat.le_of_ble_eq_true rfl, Nat.le_of_ble_eq_true rfl⟩ hP hD rfl (by decide) hK nx_b (nx_w hX) rfl rfl (Nat.le_of_ble_eq_true rfl) dd_X7_takeRow_15 ⟨Nat.le_of_ble_eq_true rfl, Nat.le_of_ble_eq_true rfl⟩) hS hA hP hD rfl rfl (by decide) (by decide) rfl rfl (fun u2 H locs hw3 hP hD hS => ?_)
  have hP : va_P D cls [(q 0, .inr (7, ((fShelf q).set 1 (.int so)).set 2 (.int nn)))] H := hP
  have hD : va_D A [(q 0, .inr (7, ((fShelf q).set 1 (.int so)).set 2 (.int nn)))] := hD
  exact hc_vret Sx hr hlocks dd_X7_takeRow_18 hS () trivial p_nil d_nil
set_option maxHeartbeats 4000000 in
set_option maxRecDepth 100000 in
theorem c_Things_add (l : Launch) (D : va_G) (cy : Nat → ClassId) (q : Nat → Nat) (va : Int32) (vb : Int32) (vc : Int32) : HC l my_X10_add mb_X10_add 4 ((some .int)) (rmD 1 0 0) D (TY cy) [.ref (q 0), .int va, .int vb, .int vc] NX [(q 0, .inr (10, fThings q)), (q 1, .inl (cy 0, 30, .inl (fun _ => 0))), (q 2, .inl (cy 0, 30, .inl (fun _ => 0))), (q 3, .inl (cy 0, 30, .inl (fun _ => 0))), (q 4, .inl (cy 0, 30, .inl (fun _ => 0))), (q 5, .inl (cy 0, 30, .inl (fun _ => 0))), (q 6, .inl (cy 0, 30, .inl (fun _ => 0))), (q 7, .inl (cy 0, 30, .inl (fun _ => 0)))] (QI (S := Unit) D (fun r _ => r = 0) (fun _ => [])) := by
  refine hc_intro (by decide) (Nat.le_of_ble_eq_true rfl) (fun p e s m below meth c A ls Sx hr hlocks hin hl hP hD hK hS hA hX => ?_)
  have hx := Sx.1
  have hb := Sx.2.1
  have hl : lv_has ls 4 [(0, .ref (q 0)), (1, .int va), (2, .int vb), (3, .int vc)] := hl
  have hP : va_P D cls [(q 0, .inr (10, fThings q)), (q 1, .inl (cy 0, 30, .inl (fun _ => 0))), (q 2, .inl (cy 0, 30, .inl (fun _ => 0))), (q 3, .inl (cy 0, 30, .inl (fun _ => 0))), (q 4, .inl (cy 0, 30, .inl (fun _ => 0))), (q 5, .inl (cy 0, 30, .inl (fun _ => 0))), (q 6, .inl (cy 0, 30, .inl (fun _ => 0))), (q 7, .inl (cy 0, 30, .inl (fun _ => 0)))] s.heap := hP
  have hD : va_D A [(q 0, .inr (10, fThings q)), (q 1, .inl (cy 0, 30, .inl (fun _ => 0))), (q 2, .inl (cy 0, 30, .inl (fun _ => 0))), (q 3, .inl (cy 0, 30, .inl (fun _ => 0))), (q 4, .inl (cy 0, 30, .inl (fun _ => 0))), (q 5, .inl (cy 0, 30, .inl (fun _ => 0))), (q 6, .inl (cy 0, 30, .inl (fun _ => 0))), (q 7, .inl (cy 0, 30, .inl (fun _ => 0)))] := hD
  refine lv_aload_n hx hb dd_X10_add_0 rfl (lv_at hl 0 rfl) ?_
  refine wk_get (v := .ref (q 1)) Sx ef_10 hK hP 0 rfl rfl 0 (by decide) kk_66 rfl dd_X10_add_1 ?_
  refine lv_aload_n hx hb dd_X10_add_4 rfl (lv_at hl 0 rfl) ?_
  refine wk_get (v := .int 0) Sx ef_10 hK hP 0 rfl rfl 6 (by decide) kk_86 rfl dd_X10_add_5 ?_
  refine lv_iload_n hx hb dd_X10_add_8 rfl (lv_at hl 1 rfl) ?_
  refine wk_iast (ws' := [(q 0, .inr (10, fThings q)), (q 1, .inl (cy 0, 30, .inl (upd (fun _ => 0) (0 : Int32).toNatClampNeg va))), (q 2, .inl (cy 0, 30, .inl (fun _ => 0))), (q 3, .inl (cy 0, 30, .inl (fun _ => 0))), (q 4, .inl (cy 0, 30, .inl (fun _ => 0))), (q 5, .inl (cy 0, 30, .inl (fun _ => 0))), (q 6, .inl (cy 0, 30, .inl (fun _ => 0))), (q 7, .inl (cy 0, 30, .inl (fun _ => 0)))]) Sx hK hP hD hS 1 0 rfl rfl (vi_of (by decide)) dd_X10_add_9 rfl (fun H locs hP hD hS => ?_)
  refine lv_aload_n hx hb dd_X10_add_10 rfl (lv_at hl 0 rfl) ?_
  refine wk_get (v := .ref (q 2)) Sx ef_10 hK hP 0 rfl rfl 1 (by decide) kk_70 rfl dd_X10_add_11 ?_
  refine lv_aload_n hx hb dd_X10_add_14 rfl (lv_at hl 0 rfl) ?_
  refine wk_get (v := .int 0) Sx ef_10 hK hP 0 rfl rfl 6 (by decide) kk_86 rfl dd_X10_add_15 ?_
  refine lv_iload_n hx hb dd_X10_add_18 rfl (lv_at hl 2 rfl) ?_
  refine wk_iast (ws' := [(q 0, .inr (10, fThings q)), (q 1, .inl (cy 0, 30, .inl (upd (fun _ => 0) (0 : Int32).toNatClampNeg va))), (q 2, .inl (cy 0, 30, .inl (upd (fun _ => 0) (0 : Int32).toNatClampNeg vb))), (q 3, .inl (cy 0, 30, .inl (fun _ => 0))), (q 4, .inl (cy 0, 30, .inl (fun _ => 0))), (q 5, .inl (cy 0, 30, .inl (fun _ => 0))), (q 6, .inl (cy 0, 30, .inl (fun _ => 0))), (q 7, .inl (cy 0, 30, .inl (fun _ => 0)))]) Sx hK hP hD hS 2 0 rfl rfl (vi_of (by decide)) dd_X10_add_19 rfl (fun H locs hP hD hS => ?_)
  refine lv_aload_n hx hb dd_X10_add_20 rfl (lv_at hl 0 rfl) ?_
  refine wk_get (v := .ref (q 3)) Sx ef_10 hK hP 0 rfl rfl 2 (by decide) kk_72 rfl dd_X10_add_21 ?_
  refine lv_aload_n hx hb dd_X10_add_24 rfl (lv_at hl 0 rfl) ?_
  refine wk_get (v := .int 0) Sx ef_10 hK hP 0 rfl rfl 6 (by decide) kk_86 rfl dd_X10_add_25 ?_
  refine lv_iload_n hx hb dd_X10_add_28 rfl (lv_at hl 3 rfl) ?_
  refine wk_iast (ws' := [(q 0, .inr (10, fThings q)), (q 1, .inl (cy 0, 30, .inl (upd (fun _ => 0) (0 : Int32).toNatClampNeg va))), (q 2, .inl (cy 0, 30, .inl (upd (fun _ => 0) (0 : Int32).toNatClampNeg vb))), (q 3, .inl (cy 0, 30, .inl (upd (fun _ => 0) (0 : Int32).toNatClampNeg vc))), (q 4, .inl (cy 0, 30, .inl (fun _ => 0))), (q 5, .inl (cy 0, 30, .inl (fun _ => 0))), (q 6, .inl (cy 0, 30, .inl (fun _ => 0))), (q 7, .inl (cy 0, 30, .inl (fun _ => 0)))]) Sx hK hP hD hS 3 0 rfl rfl (vi_of (by decide)) dd_X10_add_29 rfl (fun H locs hP hD hS => ?_)
  refine lv_aload_n hx hb dd_X10_add_30 rfl (lv_at hl 0 rfl) ?_
  refine wk_get (v := .ref (q 4)) Sx ef_10 hK hP 0 rfl rfl 3 (by decide) kk_74 rfl dd_X10_add_31 ?_
  refine lv_aload_n hx hb dd_X10_add_34 rfl (lv_at hl 0 rfl) ?_
  refine wk_get (v := .int 0) Sx ef_10 hK hP 0 rfl rfl 6 (by decide) kk_86 rfl dd_X10_add_35 ?_
  refine lv_iconst (v := (-1)) hx hb dd_X10_add_38 (by decide) ?_
  refine wk_iast (ws' := [(q 0, .inr (10, fThings q)), (q 1, .inl (cy 0, 30, .inl (upd (fun _ => 0) (0 : Int32).toNatClampNeg va))), (q 2, .inl (cy 0, 30, .inl (upd (fun _ => 0) (0 : Int32).toNatClampNeg vb))), (q 3, .inl (cy 0, 30, .inl (upd (fun _ => 0) (0 : Int32).toNatClampNeg vc))), (q 4, .inl (cy 0, 30, .inl (upd (fun _ => 0) (0 : Int32).toNatClampNeg (-1)))), (q 5, .inl (cy 0, 30, .inl (fun _ => 0))), (q 6, .inl (cy 0, 30, .inl (fun _ => 0))), (q 7, .inl (cy 0, 30, .inl (fun _ => 0)))]) Sx hK hP hD hS 4 0 rfl rfl (vi_of (by decide)) dd_X10_add_39 rfl (fun H locs hP hD hS => ?_)
  refine lv_aload_n hx hb dd_X10_add_40 rfl (lv_at hl 0 rfl) ?_
  refine wk_get (v := .ref (q 5)) Sx ef_10 hK hP 0 rfl rfl 4 (by decide) kk_79 rfl dd_X10_add_41 ?_
  refine lv_aload_n hx hb dd_X10_add_44 rfl (lv_at hl 0 rfl) ?_
  refine wk_get (v := .int 0) Sx ef_10 hK hP 0 rfl rfl 6 (by decide) kk_86 rfl dd_X10_add_45 ?_
  refine lv_iconst (v := (-1)) hx hb dd_X10_add_48 (by decide) ?_
  refine wk_iast (ws' := [(q 0, .inr (10, fThings q)), (q 1, .inl (cy 0, 30, .inl (upd (fun _ => 0) (0 : Int32).toNatClampNeg va))), (q 2, .inl (cy 0, 30, .inl (upd (fun _ => 0) (0 : Int32).toNatClampNeg vb))), (q 3, .inl (cy 0, 30, .inl (upd (fun _ => 0) (0 : Int32).toNatClampNeg vc))), (q 4, .inl (cy 0, 30, .inl (upd (fun _ => 0) (0 : Int32).toNatClampNeg (-1)))), (q 5, .inl (cy 0, 30, .inl (upd (fun _ => 0) (0 : Int32).toNatClampNeg (-1)))), (q 6, .inl (cy 0, 30, .inl (fun _ => 0))), (q 7, .inl (cy 0, 30, .inl (fun _ => 0)))]) Sx hK hP hD hS 5 0 rfl rfl (vi_of (by decide)) dd_X10_add_49 rfl (fun H locs hP hD hS => ?_)
  refine lv_aload_n hx hb dd_X10_add_50 rfl (lv_at hl 0 rfl) ?_
  refine wk_get (v := .ref (q 6)) Sx ef_10 hK hP 0 rfl rfl 5 (by decide) kk_82 rfl dd_X10_add_51 ?_
  refine lv_aload_n hx hb dd_X10_add_54 rfl (lv_at hl 0 rfl) ?_
  refine wk_get (v := .int 0) Sx ef_10 hK hP 0 rfl rfl 6 (by decide) kk_86 rfl dd_X10_add_55 ?_
  refine lv_iconst (v := (-1)) hx hb dd_X10_add_58 (by decide) ?_
  refine wk_iast (ws' := [(q 0, .inr (10, fThings q)), (q 1, .inl (cy 0, 30, .inl (upd (fun _ => 0) (0 : Int32).toNatClampNeg va))), (q 2, .inl (cy 0, 30, .inl (upd (fun _ => 0) (0 : Int32).toNatClampNeg vb))), (q 3, .inl (cy 0, 30, .inl (upd (fun _ => 0) (0 : Int32).toNatClampNeg vc))), (q 4, .inl (cy 0, 30, .inl (upd (fun _ => 0) (0 : Int32).toNatClampNeg (-1)))), (q 5, .inl (cy 0, 30, .inl (upd (fun _ => 0) (0 : Int32).toNatClampNeg (-1)))), (q 6, .inl (cy 0, 30, .inl (upd (fun _ => 0) (0 : Int32).toNatClampNeg (-1)))), (q 7, .inl (cy 0, 30, .inl (fun _ => 0)))]) Sx hK hP hD hS 6 0 rfl rfl (vi_of (by decide)) dd_X10_add_59 rfl (fun H locs hP hD hS => ?_)
  refine lv_aload_n hx hb dd_X10_add_60 rfl (lv_at hl 0 rfl) ?_
  refine lv_dup hx hb dd_X10_add_61 rfl ?_
  refine wk_get (v := .int 0) Sx ef_10 hK hP 0 rfl rfl 6 (by decide) kk_86 rfl dd_X10_add_62 ?_
  refine lv_iconst (v := 1) hx hb dd_X10_add_65 (by decide) ?_
  refine lv_iadd hx hb dd_X10_add_66 ?_
  refine wk_int (v := 1) (by decide) ?_
  refine wk_put (ws' := [(q 0, .inr (10, (fThings q).set 6 (.int 1))), (q 1, .inl (cy 0, 30, .inl (upd (fun _ => 0) (0 : Int32).toNatClampNeg va))), (q 2, .inl (cy 0, 30, .inl (upd (fun _ => 0) (0 : Int32).toNatClampNeg vb))), (q 3, .inl (cy 0, 30, .inl (upd (fun _ => 0) (0 : Int32).toNatClampNeg vc))), (q 4, .inl (cy 0, 30, .inl (upd (fun _ => 0) (0 : Int32).toNatClampNeg (-1)))), (q 5, .inl (cy 0, 30, .inl (upd (fun _ => 0) (0 : Int32).toNatClampNeg (-1)))), (q 6, .inl (cy 0, 30, .inl (upd (fun _ => 0) (0 : Int32).toNatClampNeg (-1)))), (q 7, .inl (cy 0, 30, .inl (fun _ => 0)))]) Sx ef_10 hK hP hD hS 0 rfl rfl 6 (by decide) kk_86 rfl rfl rfl (Nat.le_of_ble_eq_true rfl) dd_X10_add_67 rfl (fun H locs hP hD hS => ?_)
  refine lv_aload_n hx hb dd_X10_add_70 rfl (lv_at hl 0 rfl) ?_
  refine wk_get (v := .int 1) Sx ef_10 hK hP 0 rfl rfl 6 (by decide) kk_86 rfl dd_X10_add_71 ?_
  refine lv_iconst (v := 1) hx hb dd_X10_add_74 (by decide) ?_
  refine lv_isub hx hb dd_X10_add_75 ?_
  refine wk_int (v := 0) (by decide) ?_
  exact hc_ret Sx hr hlocks dd_X10_add_76 hS () rfl p_nil d_nil
set_option maxHeartbeats 4000000 in
set_option maxRecDepth 100000 in
theorem c_Ladies_add (l : Launch) (D : va_G) (cy : Nat → ClassId) (q : Nat → Nat) (va : Int32) (vb : Int32) : HC l my_X2_add mb_X2_add 3 ((some .int)) (rmD 1 0 0) D (TY cy) [.ref (q 0), .int va, .int vb] NX [(q 0, .inr (2, fLadies q)), (q 1, .inl (cy 0, 5, .inl (fun _ => 0))), (q 2, .inl (cy 0, 5, .inl (fun _ => 0))), (q 3, .inl (cy 0, 5, .inl (fun _ => 0)))] (QI (S := Unit) D (fun r _ => r = 0) (fun _ => [])) := by
  refine hc_intro (by decide) (Nat.le_of_ble_eq_true rfl) (fun p e s m below meth c A ls Sx hr hlocks hin hl hP hD hK hS hA hX => ?_)
  have hx := Sx.1
  have hb := Sx.2.1
  have hl : lv_has ls 3 [(0, .ref (q 0)), (1, .int va), (2, .int vb)] := hl
  have hP : va_P D cls [(q 0, .inr (2, fLadies q)), (q 1, .inl (cy 0, 5, .inl (fun _ => 0))), (q 2, .inl (cy 0, 5, .inl (fun _ => 0))), (q 3, .inl (cy 0, 5, .inl (fun _ => 0)))] s.heap := hP
  have hD : va_D A [(q 0, .inr (2, fLadies q)), (q 1, .inl (cy 0, 5, .inl (fun _ => 0))), (q 2, .inl (cy 0, 5, .inl (fun _ => 0))), (q 3, .inl (cy 0, 5, .inl (fun _ => 0)))] := hD
  refine lv_aload_n hx hb dd_X2_add_0 rfl (lv_at hl 0 rfl) ?_
  refine wk_get (v := .ref (q 1)) Sx ef_2 hK hP 0 rfl rfl 0 (by decide) kk_116 rfl dd_X2_add_1 ?_
  refine lv_aload_n hx hb dd_X2_add_4 rfl (lv_at hl 0 rfl) ?_
  refine wk_get (v := .int 0) Sx ef_2 hK hP 0 rfl rfl 3 (by decide) kk_123 rfl dd_X2_add_5 ?_
  refine lv_iload_n hx hb dd_X2_add_8 rfl (lv_at hl 1 rfl) ?_
  refine wk_iast (ws' := [(q 0, .inr (2, fLadies q)), (q 1, .inl (cy 0, 5, .inl (upd (fun _ => 0) (0 : Int32).toNatClampNeg va))), (q 2, .inl (cy 0, 5, .inl (fun _ => 0))), (q 3, .inl (cy 0, 5, .inl (fun _ => 0)))]) Sx hK hP hD hS 1 0 rfl rfl (vi_of (by decide)) dd_X2_add_9 rfl (fun H locs hP hD hS => ?_)
  refine lv_aload_n hx hb dd_X2_add_10 rfl (lv_at hl 0 rfl) ?_
  refine wk_get (v := .ref (q 2)) Sx ef_2 hK hP 0 rfl rfl 1 (by decide) kk_118 rfl dd_X2_add_11 ?_
  refine lv_aload_n hx hb dd_X2_add_14 rfl (lv_at hl 0 rfl) ?_
  refine wk_get (v := .int 0) Sx ef_2 hK hP 0 rfl rfl 3 (by decide) kk_123 rfl dd_X2_add_15 ?_
  refine lv_iload_n hx hb dd_X2_add_18 rfl (lv_at hl 2 rfl) ?_
  refine wk_iast (ws' := [(q 0, .inr (2, fLadies q)), (q 1, .inl (cy 0, 5, .inl (upd (fun _ => 0) (0 : Int32).toNatClampNeg va))), (q 2, .inl (cy 0, 5, .inl (upd (fun _ => 0) (0 : Int32).toNatClampNeg vb))), (q 3, .inl (cy 0, 5, .inl (fun _ => 0)))]) Sx hK hP hD hS 2 0 rfl rfl (vi_of (by decide)) dd_X2_add_19 rfl (fun H locs hP hD hS => ?_)
  refine lv_aload_n hx hb dd_X2_add_20 rfl (lv_at hl 0 rfl) ?_
  refine wk_get (v := .ref (q 3)) Sx ef_2 hK hP 0 rfl rfl 2 (by decide) kk_120 rfl dd_X2_add_21 ?_
  refine lv_aload_n hx hb dd_X2_add_24 rfl (lv_at hl 0 rfl) ?_
  refine wk_get (v := .int 0) Sx ef_2 hK hP 0 rfl rfl 3 (by decide) kk_123 rfl dd_X2_add_25 ?_
  refine lv_iconst (v := (-1)) hx hb dd_X2_add_28 (by decide) ?_
  refine wk_iast (ws' := [(q 0, .inr (2, fLadies q)), (q 1, .inl (cy 0, 5, .inl (upd (fun _ => 0) (0 : Int32).toNatClampNeg va))), (q 2, .inl (cy 0, 5, .inl (upd (fun _ => 0) (0 : Int32).toNatClampNeg vb))), (q 3, .inl (cy 0, 5, .inl (upd (fun _ => 0) (0 : Int32).toNatClampNeg (-1))))]) Sx hK hP hD hS 3 0 rfl rfl (vi_of (by decide)) dd_X2_add_29 rfl (fun H locs hP hD hS => ?_)
  refine lv_aload_n hx hb dd_X2_add_30 rfl (lv_at hl 0 rfl) ?_
  refine lv_dup hx hb dd_X2_add_31 rfl ?_
  refine wk_get (v := .int 0) Sx ef_2 hK hP 0 rfl rfl 3 (by decide) kk_123 rfl dd_X2_add_32 ?_
  refine lv_iconst (v := 1) hx hb dd_X2_add_35 (by decide) ?_
  refine lv_iadd hx hb dd_X2_add_36 ?_
  refine wk_int (v := 1) (by decide) ?_
  refine wk_put (ws' := [(q 0, .inr (2, (fLadies q).set 3 (.int 1))), (q 1, .inl (cy 0, 5, .inl (upd (fun _ => 0) (0 : Int32).toNatClampNeg va))), (q 2, .inl (cy 0, 5, .inl (upd (fun _ => 0) (0 : Int32).toNatClampNeg vb))), (q 3, .inl (cy 0, 5, .inl (upd (fun _ => 0) (0 : Int32).toNatClampNeg (-1))))]) Sx ef_2 hK hP hD hS 0 rfl rfl 3 (by decide) kk_123 rfl rfl rfl (Nat.le_of_ble_eq_true rfl) dd_X2_add_37 rfl (fun H locs hP hD hS => ?_)
  refine lv_aload_n hx hb dd_X2_add_40 rfl (lv_at hl 0 rfl) ?_
  refine wk_get (v := .int 1) Sx ef_2 hK hP 0 rfl rfl 3 (by decide) kk_123 rfl dd_X2_add_41 ?_
  refine lv_iconst (v := 1) hx hb dd_X2_add_44 (by decide) ?_
  refine lv_isub hx hb dd_X2_add_45 ?_
  refine wk_int (v := 0) (by decide) ?_
  exact hc_ret Sx hr hlocks dd_X2_add_46 hS () rfl p_nil d_nil
set_option maxHeartbeats 4000000 in
set_option maxRecDepth 100000 in
theorem c_Buyers_add (l : Launch) (D : va_G) (cy : Nat → ClassId) (q : Nat → Nat) (va : Int32) (vb : Int32) (vc : Int32) (vd : Int32) : HC l my_X0_add mb_X0_add 5 ((some .int)) (rmD 1 0 0) D (TY cy) [.ref (q 0), .int va, .int vb, .int vc, .int vd] NX [(q 0, .inr (0, fBuyers q)), (q 1, .inl (cy 0, 12, .inl (fun _ => 0))), (q 2, .inl (cy 0, 12, .inl (fun _ => 0))), (q 3, .inl (cy 0, 12, .inl (fun _ => 0))), (q 4, .inl (cy 0, 12, .inl (fun _ => 0))), (q 5, .inl (cy 0, 12, .inl (fun _ => 0)))] (QI (S := Unit) D (fun r _ => r = 0) (fun _ => [])) := by
  refine hc_intro (by decide) (Nat.le_of_ble_eq_true rfl) (fun p e s m below meth c A ls Sx hr hlocks hin hl hP hD hK hS hA hX => ?_)
  have hx := Sx.1
  have hb := Sx.2.1
  have hl : lv_has ls 5 [(0, .ref (q 0)), (1, .int va), (2, .int vb), (3, .int vc), (4, .int vd)] := hl
  have hP : va_P D cls [(q 0, .inr (0, fBuyers q)), (q 1, .inl (cy 0, 12, .inl (fun _ => 0))), (q 2, .inl (cy 0, 12, .inl (fun _ => 0))), (q 3, .inl (cy 0, 12, .inl (fun _ => 0))), (q 4, .inl (cy 0, 12, .inl (fun _ => 0))), (q 5, .inl (cy 0, 12, .inl (fun _ => 0)))] s.heap := hP
  have hD : va_D A [(q 0, .inr (0, fBuyers q)), (q 1, .inl (cy 0, 12, .inl (fun _ => 0))), (q 2, .inl (cy 0, 12, .inl (fun _ => 0))), (q 3, .inl (cy 0, 12, .inl (fun _ => 0))), (q 4, .inl (cy 0, 12, .inl (fun _ => 0))), (q 5, .inl (cy 0, 12, .inl (fun _ => 0)))] := hD
  refine lv_aload_n hx hb dd_X0_add_0 rfl (lv_at hl 0 rfl) ?_
  refine wk_get (v := .ref (q 1)) Sx ef_0 hK hP 0 rfl rfl 0 (by decide) kk_159 rfl dd_X0_add_1 ?_
  refine lv_aload_n hx hb dd_X0_add_4 rfl (lv_at hl 0 rfl) ?_
  refine wk_get (v := .int 0) Sx ef_0 hK hP 0 rfl rfl 5 (by decide) kk_174 rfl dd_X0_add_5 ?_
  refine lv_iload_n hx hb dd_X0_add_8 rfl (lv_at hl 1 rfl) ?_
  refine wk_iast (ws' := [(q 0, .inr (0, fBuyers q)), (q 1, .inl (cy 0, 12, .inl (upd (fun _ => 0) (0 : Int32).toNatClampNeg va))), (q 2, .inl (cy 0, 12, .inl (fun _ => 0))), (q 3, .inl (cy 0, 12, .inl (fun _ => 0))), (q 4, .inl (cy 0, 12, .inl (fun _ => 0))), (q 5, .inl (cy 0, 12, .inl (fun _ => 0)))]) Sx hK hP hD hS 1 0 rfl rfl (vi_of (by decide)) dd_X0_add_9 rfl (fun H locs hP hD hS => ?_)
  refine lv_aload_n hx hb dd_X0_add_10 rfl (lv_at hl 0 rfl) ?_
  refine wk_get (v := .ref (q 2)) Sx ef_0 hK hP 0 rfl rfl 1 (by decide) kk_162 rfl dd_X0_add_11 ?_
  refine lv_aload_n hx hb dd_X0_add_14 rfl (lv_at hl 0 rfl) ?_
  refine wk_get (v := .int 0) Sx ef_0 hK hP 0 rfl rfl 5 (by decide) kk_174 rfl dd_X0_add_15 ?_
  refine lv_iload_n hx hb dd_X0_add_18 rfl (lv_at hl 2 rfl) ?_
  refine wk_iast (ws' := [(q 0, .inr (0, fBuyers q)), (q 1, .inl (cy 0, 12, .inl (upd (fun _ => 0) (0 : Int32).toNatClampNeg va))), (q 2, .inl (cy 0, 12, .inl (upd (fun _ => 0) (0 : Int32).toNatClampNeg vb))), (q 3, .inl (cy 0, 12, .inl (fun _ => 0))), (q 4, .inl (cy 0, 12, .inl (fun _ => 0))), (q 5, .inl (cy 0, 12, .inl (fun _ => 0)))]) Sx hK hP hD hS 2 0 rfl rfl (vi_of (by decide)) dd_X0_add_19 rfl (fun H locs hP hD hS => ?_)
  refine lv_aload_n hx hb dd_X0_add_20 rfl (lv_at hl 0 rfl) ?_
  refine wk_get (v := .ref (q 3)) Sx ef_0 hK hP 0 rfl rfl 2 (by decide) kk_165 rfl dd_X0_add_21 ?_
  refine lv_aload_n hx hb dd_X0_add_24 rfl (lv_at hl 0 rfl) ?_
  refine wk_get (v := .int 0) Sx ef_0 hK hP 0 rfl rfl 5 (by decide) kk_174 rfl dd_X0_add_25 ?_
  refine lv_iload_n hx hb dd_X0_add_28 rfl (lv_at hl 3 rfl) ?_
  refine wk_iast (ws' := [(q 0, .inr (0, fBuyers q)), (q 1, .inl (cy 0, 12, .inl (upd (fun _ => 0) (0 : Int32).toNatClampNeg va))), (q 2, .inl (cy 0, 12, .inl (upd (fun _ => 0) (0 : Int32).toNatClampNeg vb))), (q 3, .inl (cy 0, 12, .inl (upd (fun _ => 0) (0 : Int32).toNatClampNeg vc))), (q 4, .inl (cy 0, 12, .inl (fun _ => 0))), (q 5, .inl (cy 0, 12, .inl (fun _ => 0)))]) Sx hK hP hD hS 3 0 rfl rfl (vi_of (by decide)) dd_X0_add_29 rfl (fun H locs hP hD hS => ?_)
  refine lv_aload_n hx hb dd_X0_add_30 rfl (lv_at hl 0 rfl) ?_
  refine wk_get (v := .ref (q 4)) Sx ef_0 hK hP 0 rfl rfl 3 (by decide) kk_168 rfl dd_X0_add_31 ?_
  refine lv_aload_n hx hb dd_X0_add_34 rfl (lv_at hl 0 rfl) ?_
  refine wk_get (v := .int 0) Sx ef_0 hK hP 0 rfl rfl 5 (by decide) kk_174 rfl dd_X0_add_35 ?_
  refine lv_iload hx hb dd_X0_add_38 (lv_at hl 4 rfl) ?_
  refine wk_iast (ws' := [(q 0, .inr (0, fBuyers q)), (q 1, .inl (cy 0, 12, .inl (upd (fun _ => 0) (0 : Int32).toNatClampNeg va))), (q 2, .inl (cy 0, 12, .inl (upd (fun _ => 0) (0 : Int32).toNatClampNeg vb))), (q 3, .inl (cy 0, 12, .inl (upd (fun _ => 0) (0 : Int32).toNatClampNeg vc))), (q 4, .inl (cy 0, 12, .inl (upd (fun _ => 0) (0 : Int32).toNatClampNeg vd))), (q 5, .inl (cy 0, 12, .inl (fun _ => 0)))]) Sx hK hP hD hS 4 0 rfl rfl (vi_of (by decide)) dd_X0_add_40 rfl (fun H locs hP hD hS => ?_)
  refine lv_aload_n hx hb dd_X0_add_41 rfl (lv_at hl 0 rfl) ?_
  refine wk_get (v := .ref (q 5)) Sx ef_0 hK hP 0 rfl rfl 4 (by decide) kk_171 rfl dd_X0_add_42 ?_
  refine lv_aload_n hx hb dd_X0_add_45 rfl (lv_at hl 0 rfl) ?_
  refine wk_get (v := .int 0) Sx ef_0 hK hP 0 rfl rfl 5 (by decide) kk_174 rfl dd_X0_add_46 ?_
  refine lv_iconst (v := 0) hx hb dd_X0_add_49 (by decide) ?_
  refine wk_iast (ws' := [(q 0, .inr (0, fBuyers q)), (q 1, .inl (cy 0, 12, .inl (upd (fun _ => 0) (0 : Int32).toNatClampNeg va))), (q 2, .inl (cy 0, 12, .inl (upd (fun _ => 0) (0 : Int32).toNatClampNeg vb))), (q 3, .inl (cy 0, 12, .inl (upd (fun _ => 0) (0 : Int32).toNatClampNeg vc))), (q 4, .inl (cy 0, 12, .inl (upd (fun _ => 0) (0 : Int32).toNatClampNeg vd))), (q 5, .inl (cy 0, 12, .inl (fun _ => 0)))]) Sx hK hP hD hS 5 0 rfl rfl (vi_of (by decide)) dd_X0_add_50 (by rw [upd_c]; rfl) (fun H locs hP hD hS => ?_)
  refine lv_aload_n hx hb dd_X0_add_51 rfl (lv_at hl 0 rfl) ?_
  refine lv_dup hx hb dd_X0_add_52 rfl ?_
  refine wk_get (v := .int 0) Sx ef_0 hK hP 0 rfl rfl 5 (by decide) kk_174 rfl dd_X0_add_53 ?_
  refine lv_iconst (v := 1) hx hb dd_X0_add_56 (by decide) ?_
  refine lv_iadd hx hb dd_X0_add_57 ?_
  refine wk_int (v := 1) (by decide) ?_
  refine wk_put (ws' := [(q 0, .inr (0, (fBuyers q).set 5 (.int 1))), (q 1, .inl (cy 0, 12, .inl (upd (fun _ => 0) (0 : Int32).toNatClampNeg va))), (q 2, .inl (cy 0, 12, .inl (upd (fun _ => 0) (0 : Int32).toNatClampNeg vb))), (q 3, .inl (cy 0, 12, .inl (upd (fun _ => 0) (0 : Int32).toNatClampNeg vc))), (q 4, .inl (cy 0, 12, .inl (upd (fun _ => 0) (0 : Int32).toNatClampNeg vd))), (q 5, .inl (cy 0, 12, .inl (fun _ => 0)))]) Sx ef_0 hK hP hD hS 0 rfl rfl 5 (by decide) kk_174 rfl rfl rfl (Nat.le_of_ble_eq_true rfl) dd_X0_add_58 rfl (fun H locs hP hD hS => ?_)
  refine lv_aload_n hx hb dd_X0_add_61 rfl (lv_at hl 0 rfl) ?_
  refine wk_get (v := .int 1) Sx ef_0 hK hP 0 rfl rfl 5 (by decide) kk_174 rfl dd_X0_add_62 ?_
  refine lv_iconst (v := 1) hx hb dd_X0_add_65 (by decide) ?_
  refine lv_isub hx hb dd_X0_add_66 ?_
  refine wk_int (v := 0) (by decide) ?_
  exact hc_ret Sx hr hlocks dd_X0_add_67 hS () rfl p_nil d_nil
set_option maxHeartbeats 4000000 in
set_option maxRecDepth 100000 in
theorem c_Sightings_add (l : Launch) (D : va_G) (cy : Nat → ClassId) (q : Nat → Nat) (va : Int32) (vb : Int32) (vc : Int32) (vd : Int32) : HC l my_X8_add mb_X8_add 5 ((some .int)) (rmD 1 0 0) D (TY cy) [.ref (q 0), .int va, .int vb, .int vc, .int vd] NX [(q 0, .inr (8, fSightings q)), (q 1, .inl (cy 0, 20, .inl (fun _ => 0))), (q 2, .inl (cy 0, 20, .inl (fun _ => 0))), (q 3, .inl (cy 0, 20, .inl (fun _ => 0))), (q 4, .inl (cy 0, 20, .inl (fun _ => 0))), (q 5, .inl (cy 0, 20, .inl (fun _ => 0))), (q 6, .inl (cy 0, 20, .inl (fun _ => 0))), (q 7, .inl (cy 0, 20, .inl (fun _ => 0)))] (QI (S := Unit) D (fun r _ => r = 0) (fun _ => [])) := by
  refine hc_intro (by decide) (Nat.le_of_ble_eq_true rfl) (fun p e s m below meth c A ls Sx hr hlocks hin hl hP hD hK hS hA hX => ?_)
  have hx := Sx.1
  have hb := Sx.2.1
  have hl : lv_has ls 5 [(0, .ref (q 0)), (1, .int va), (2, .int vb), (3, .int vc), (4, .int vd)] := hl
  have hP : va_P D cls [(q 0, .inr (8, fSightings q)), (q 1, .inl (cy 0, 20, .inl (fun _ => 0))), (q 2, .inl (cy 0, 20, .inl (fun _ => 0))), (q 3, .inl (cy 0, 20, .inl (fun _ => 0))), (q 4, .inl (cy 0, 20, .inl (fun _ => 0))), (q 5, .inl (cy 0, 20, .inl (fun _ => 0))), (q 6, .inl (cy 0, 20, .inl (fun _ => 0))), (q 7, .inl (cy 0, 20, .inl (fun _ => 0)))] s.heap := hP
  have hD : va_D A [(q 0, .inr (8, fSightings q)), (q 1, .inl (cy 0, 20, .inl (fun _ => 0))), (q 2, .inl (cy 0, 20, .inl (fun _ => 0))), (q 3, .inl (cy 0, 20, .inl (fun _ => 0))), (q 4, .inl (cy 0, 20, .inl (fun _ => 0))), (q 5, .inl (cy 0, 20, .inl (fun _ => 0))), (q 6, .inl (cy 0, 20, .inl (fun _ => 0))), (q 7, .inl (cy 0, 20, .inl (fun _ => 0)))] := hD
  refine lv_aload_n hx hb dd_X8_add_0 rfl (lv_at hl 0 rfl) ?_
  refine wk_get (v := .ref (q 1)) Sx ef_8 hK hP 0 rfl rfl 0 (by decide) kk_196 rfl dd_X8_add_1 ?_
  refine lv_aload_n hx hb dd_X8_add_4 rfl (lv_at hl 0 rfl) ?_
  refine wk_get (v := .int 0) Sx ef_8 hK hP 0 rfl rfl 4 (by decide) kk_200 rfl dd_X8_add_5 ?_
  refine lv_iload_n hx hb dd_X8_add_8 rfl (lv_at hl 1 rfl) ?_
  refine wk_iast (ws' := [(q 0, .inr (8, fSightings q)), (q 1, .inl (cy 0, 20, .inl (upd (fun _ => 0) (0 : Int32).toNatClampNeg va))), (q 2, .inl (cy 0, 20, .inl (fun _ => 0))), (q 3, .inl (cy 0, 20, .inl (fun _ => 0))), (q 4, .inl (cy 0, 20, .inl (fun _ => 0))), (q 5, .inl (cy 0, 20, .inl (fun _ => 0))), (q 6, .inl (cy 0, 20, .inl (fun _ => 0))), (q 7, .inl (cy 0, 20, .inl (fun _ => 0)))]) Sx hK hP hD hS 1 0 rfl rfl (vi_of (by decide)) dd_X8_add_9 rfl (fun H locs hP hD hS => ?_)
  refine lv_aload_n hx hb dd_X8_add_10 rfl (lv_at hl 0 rfl) ?_
  refine wk_get (v := .ref (q 2)) Sx ef_8 hK hP 0 rfl rfl 1 (by decide) kk_197 rfl dd_X8_add_11 ?_
  refine lv_aload_n hx hb dd_X8_add_14 rfl (lv_at hl 0 rfl) ?_
  refine wk_get (v := .int 0) Sx ef_8 hK hP 0 rfl rfl 4 (by decide) kk_200 rfl dd_X8_add_15 ?_
  refine lv_iload_n hx hb dd_X8_add_18 rfl (lv_at hl 2 rfl) ?_
  refine wk_iast (ws' := [(q 0, .inr (8, fSightings q)), (q 1, .inl (cy 0, 20, .inl (upd (fun _ => 0) (0 : Int32).toNatClampNeg va))), (q 2, .inl (cy 0, 20, .inl (upd (fun _ => 0) (0 : Int32).toNatClampNeg vb))), (q 3, .inl (cy 0, 20, .inl (fun _ => 0))), (q 4, .inl (cy 0, 20, .inl (fun _ => 0))), (q 5, .inl (cy 0, 20, .inl (fun _ => 0))), (q 6, .inl (cy 0, 20, .inl (fun _ => 0))), (q 7, .inl (cy 0, 20, .inl (fun _ => 0)))]) Sx hK hP hD hS 2 0 rfl rfl (vi_of (by decide)) dd_X8_add_19 rfl (fun H locs hP hD hS => ?_)
  refine lv_aload_n hx hb dd_X8_add_20 rfl (lv_at hl 0 rfl) ?_
  refine wk_get (v := .ref (q 3)) Sx ef_8 hK hP 0 rfl rfl 2 (by decide) kk_198 rfl dd_X8_add_21 ?_
  refine lv_aload_n hx hb dd_X8_add_24 rfl (lv_at hl 0 rfl) ?_
  refine wk_get (v := .int 0) Sx ef_8 hK hP 0 rfl rfl 4 (by decide) kk_200 rfl dd_X8_add_25 ?_
  refine lv_iload_n hx hb dd_X8_add_28 rfl (lv_at hl 3 rfl) ?_
  refine wk_iast (ws' := [(q 0, .inr (8, fSightings q)), (q 1, .inl (cy 0, 20, .inl (upd (fun _ => 0) (0 : Int32).toNatClampNeg va))), (q 2, .inl (cy 0, 20, .inl (upd (fun _ => 0) (0 : Int32).toNatClampNeg vb))), (q 3, .inl (cy 0, 20, .inl (upd (fun _ => 0) (0 : Int32).toNatClampNeg vc))), (q 4, .inl (cy 0, 20, .inl (fun _ => 0))), (q 5, .inl (cy 0, 20, .inl (fun _ => 0))), (q 6, .inl (cy 0, 20, .inl (fun _ => 0))), (q 7, .inl (cy 0, 20, .inl (fun _ => 0)))]) Sx hK hP hD hS 3 0 rfl rfl (vi_of (by decide)) dd_X8_add_29 rfl (fun H locs hP hD hS => ?_)
  refine lv_aload_n hx hb dd_X8_add_30 rfl (lv_at hl 0 rfl) ?_
  refine wk_get (v := .ref (q 4)) Sx ef_8 hK hP 0 rfl rfl 3 (by decide) kk_199 rfl dd_X8_add_31 ?_
  refine lv_aload_n hx hb dd_X8_add_34 rfl (lv_at hl 0 rfl) ?_
  refine wk_get (v := .int 0) Sx ef_8 hK hP 0 rfl rfl 4 (by decide) kk_200 rfl dd_X8_add_35 ?_
  refine lv_iload hx hb dd_X8_add_38 (lv_at hl 4 rfl) ?_
  refine wk_iast (ws' := [(q 0, .inr (8, fSightings q)), (q 1, .inl (cy 0, 20, .inl (upd (fun _ => 0) (0 : Int32).toNatClampNeg va))), (q 2, .inl (cy 0, 20, .inl (upd (fun _ => 0) (0 : Int32).toNatClampNeg vb))), (q 3, .inl (cy 0, 20, .inl (upd (fun _ => 0) (0 : Int32).toNatClampNeg vc))), (q 4, .inl (cy 0, 20, .inl (upd (fun _ => 0) (0 : Int32).toNatClampNeg vd))), (q 5, .inl (cy 0, 20, .inl (fun _ => 0))), (q 6, .inl (cy 0, 20, .inl (fun _ => 0))), (q 7, .inl (cy 0, 20, .inl (fun _ => 0)))]) Sx hK hP hD hS 4 0 rfl rfl (vi_of (by decide)) dd_X8_add_40 rfl (fun H locs hP hD hS => ?_)
  refine lv_aload_n hx hb dd_X8_add_41 rfl (lv_at hl 0 rfl) ?_
  refine lv_dup hx hb dd_X8_add_42 rfl ?_
  refine wk_get (v := .int 0) Sx ef_8 hK hP 0 rfl rfl 4 (by decide) kk_200 rfl dd_X8_add_43 ?_
  refine lv_iconst (v := 1) hx hb dd_X8_add_46 (by decide) ?_
  refine lv_iadd hx hb dd_X8_add_47 ?_
  refine wk_int (v := 1) (by decide) ?_
  refine wk_put (ws' := [(q 0, .inr (8, (fSightings q).set 4 (.int 1))), (q 1, .inl (cy 0, 20, .inl (upd (fun _ => 0) (0 : Int32).toNatClampNeg va))), (q 2, .inl (cy 0, 20, .inl (upd (fun _ => 0) (0 : Int32).toNatClampNeg vb))), (q 3, .inl (cy 0, 20, .inl (upd (fun _ => 0) (0 : Int32).toNatClampNeg vc))), (q 4, .inl (cy 0, 20, .inl (upd (fun _ => 0) (0 : Int32).toNatClampNeg vd))), (q 5, .inl (cy 0, 20, .inl (fun _ => 0))), (q 6, .inl (cy 0, 20, .inl (fun _ => 0))), (q 7, .inl (cy 0, 20, .inl (fun _ => 0)))]) Sx ef_8 hK hP hD hS 0 rfl rfl 4 (by decide) kk_200 rfl rfl rfl (Nat.le_of_ble_eq_true rfl) dd_X8_add_48 rfl (fun H locs hP hD hS => ?_)
  refine lv_aload_n hx hb dd_X8_add_51 rfl (lv_at hl 0 rfl) ?_
  refine wk_get (v := .int 1) Sx ef_8 hK hP 0 rfl rfl 4 (by decide) kk_200 rfl dd_X8_add_52 ?_
  refine lv_iconst (v := 1) hx hb dd_X8_add_55 (by decide) ?_
  refine lv_isub hx hb dd_X8_add_56 ?_
  refine wk_int (v := 0) (by decide) ?_
  exact hc_ret Sx hr hlocks dd_X8_add_57 hS () rfl p_nil d_nil
set_option maxHeartbeats 4000000 in
set_option maxRecDepth 100000 in
theorem c_countLeft (l : Launch) (D : va_G) (cy : Nat → ClassId) (q : Nat → Nat) : PC l my_X10_countLeft mb_X10_countLeft 3 ((some .int)) (rmD 1 0 0) D (TY cy) [.ref (q 0)] NS [(q 0, .inr (10, fThings q))] (vp_Si (fun r => r = 0)) := by
  refine pc_intro (by decide) (Nat.le_of_ble_eq_true rfl) (fun p e s m below meth c ls Sx hr hlocks hl hP hK hX => ?_)
  have hx := Sx.1
  have hb := Sx.2.1
  have hl : lv_has ls 3 [(0, .ref (q 0))] := hl
  refine lv_iconst (v := 0) hx hb dd_X10_countLeft_0 (by decide) ?_
  refine lv_istore_n (lv' := [(1, .int 0), (0, .ref (q 0))]) hx hb dd_X10_countLeft_1 rfl hl (by decide) rfl (fun ls hl => ?_)
  refine lv_iconst (v := 0) hx hb dd_X10_countLeft_2 (by decide) ?_
  refine lv_istore_n (lv' := [(2, .int 0), (1, .int 0), (0, .ref (q 0))]) hx hb dd_X10_countLeft_3 rfl hl (by decide) rfl (fun ls hl => ?_)
  refine lv_iload_n hx hb dd_X10_countLeft_4 rfl (lv_at hl 0 rfl) ?_
  refine lv_aload_n hx hb dd_X10_countLeft_5 rfl (lv_at hl 2 rfl) ?_
  refine wk_get (v := .int 0) Sx ef_10 hK hP 0 rfl rfl 6 (by decide) kk_86 rfl dd_X10_countLeft_6 ?_
  refine lv_icmp_ge (tgt := 29) hx hb dd_X10_countLeft_9 (by decide) (fun _ => ?_) (fun c => absurd c (by decide))
  refine lv_iload_n hx hb dd_X10_countLeft_29 rfl (lv_at hl 1 rfl) ?_
  exact pc_ret Sx hr hlocks rfl dd_X10_countLeft_30 rfl
set_option maxHeartbeats 4000000 in
set_option maxRecDepth 100000 in
theorem c_worthLeft (l : Launch) (D : va_G) (cy : Nat → ClassId) (q : Nat → Nat) (ks : Int32) : PC l my_X10_worthLeft mb_X10_worthLeft 4 ((some .int)) (rmD 1 0 0) D (TY cy) [.ref (q 0), .int ks] NS [(q 0, .inr (10, fThings q))] (vp_Si (fun r => r = 0)) := by
  refine pc_intro (by decide) (Nat.le_of_ble_eq_true rfl) (fun p e s m below meth c ls Sx hr hlocks hl hP hK hX => ?_)
  have hx := Sx.1
  have hb := Sx.2.1
  have hl : lv_has ls 4 [(0, .ref (q 0)), (1, .int ks)] := hl
  refine lv_iconst (v := 0) hx hb dd_X10_worthLeft_0 (by decide) ?_
  refine lv_istore_n (lv' := [(2, .int 0), (0, .ref (q 0)), (1, .int ks)]) hx hb dd_X10_worthLeft_1 rfl hl (by decide) rfl (fun ls hl => ?_)
  refine lv_iconst (v := 0) hx hb dd_X10_worthLeft_2 (by decide) ?_
  refine lv_istore_n (lv' := [(3, .int 0), (2, .int 0), (0, .ref (q 0)), (1, .int ks)]) hx hb dd_X10_worthLeft_3 rfl hl (by decide) rfl (fun ls hl => ?_)
  refine lv_iload_n hx hb dd_X10_worthLeft_4 rfl (lv_at hl 0 rfl) ?_
  refine lv_aload_n hx hb dd_X10_worthLeft_5 rfl (lv_at hl 2 rfl) ?_
  refine wk_get (v := .int 0) Sx ef_10 hK hP 0 rfl rfl 6 (by decide) kk_86 rfl dd_X10_worthLeft_6 ?_
  refine lv_icmp_ge (tgt := 43) hx hb dd_X10_worthLeft_9 (by decide) (fun _ => ?_) (fun c => absurd c (by decide))
  refine lv_iload_n hx hb dd_X10_worthLeft_43 rfl (lv_at hl 1 rfl) ?_
  exact pc_ret Sx hr hlocks rfl dd_X10_worthLeft_44 rfl
set_option maxHeartbeats 4000000 in
set_option maxRecDepth 100000 in
theorem c_stage (l : Launch) (D : va_G) (cy : Nat → ClassId) (ho : Int32) (ha : Int32) (ba : Int32) : PC l my_X5_stage mb_X5_stage 3 ((some .int)) (rmD 1 0 0) D (TY cy) [.int ho, .int ha, .int ba] NS [] (vp_Si (fun _ => True)) := by
  refine pc_intro (by decide) (Nat.le_of_ble_eq_true rfl) (fun p e s m below meth c ls Sx hr hlocks hl hP hK hX => ?_)
  have hx := Sx.1
  have hb := Sx.2.1
  have hl : lv_has ls 3 [(0, .int ho), (1, .int ha), (2, .int ba)] := hl
  refine lv_iload_n hx hb dd_X5_stage_0 rfl (lv_at hl 0 rfl) ?_
  refine lv_iload_n hx hb dd_X5_stage_1 rfl (lv_at hl 2 rfl) ?_
  refine lv_icmp_lt (tgt := 7) hx hb dd_X5_stage_2 (by decide) (fun c1 => ?_) (fun c1 => ?_)
  · have fc1 := ci_lt (a := ho.toInt) (b := ba.toInt) rfl rfl c1
    refine lv_iload_n hx hb dd_X5_stage_7 rfl (lv_at hl 0 rfl) ?_
    refine lv_iload_n hx hb dd_X5_stage_8 rfl (lv_at hl 1 rfl) ?_
    refine lv_icmp_lt (tgt := 16) hx hb dd_X5_stage_9 (by decide) (fun c2 => ?_) (fun c2 => ?_)
    · have fc2 := ci_lt (a := ho.toInt) (b := ha.toInt) rfl rfl c2
      refine lv_iconst (v := 0) hx hb dd_X5_stage_16 (by decide) ?_
      exact pc_ret Sx hr hlocks rfl dd_X5_stage_17 trivial
    · have fc2 := ci_nlt (a := ho.toInt) (b := ha.toInt) rfl rfl c2
      refine lv_iconst (v := 1) hx hb dd_X5_stage_12 (by decide) ?_
      refine lv_goto (tgt := 17) hx hb dd_X5_stage_13 (by decide) ?_
      exact pc_ret Sx hr hlocks rfl dd_X5_stage_17 trivial
  · have fc1 := ci_nlt (a := ho.toInt) (b := ba.toInt) rfl rfl c1
    refine lv_iconst (v := 2) hx hb dd_X5_stage_5 (by decide) ?_
    exact pc_ret Sx hr hlocks rfl dd_X5_stage_6 trivial
set_option maxHeartbeats 4000000 in
set_option maxRecDepth 100000 in
theorem c_open (l : Launch) (D : va_G) (cy : Nat → ClassId) (q : Nat → Nat) (t : Nat → Nat) (fh : Int32) (fb : Int32) (h0 : Int32) (b0 : Int32) : HC l my_X5_open mb_X5_open 6 ((none : Option Jvm.ClassFile.FieldType)) (rmD 1 0 0) D (TY cy) [.ref (q 0), .ref (t 0), .int fh, .int fb] NX [(q 0, .inr (5, ((fSale q).set 0 (.int h0)).set 1 (.int b0))), (t 0, .inr (1, fHall t)), (t 1, .inr (10, fThings (fun k => t (1 + k)))), (t 16, .inr (0, fBuyers (fun k => t (16 + k))))] (QV (S := Unit) D (fun _ => True) (fun _ => [(q 0, .inr (5, ((fSale q).set 0 (.int fh)).set 1 (.int fb))), (t 0, .inr (1, fHall t)), (t 1, .inr (10, fThings (fun k => t (1 + k)))), (t 16, .inr (0, fBuyers (fun k => t (16 + k))))])) := by
  refine hc_intro (by decide) (Nat.le_of_ble_eq_true rfl) (fun p e s m below meth c A ls Sx hr hlocks hin hl hP hD hK hS hA hX => ?_)
  have hx := Sx.1
  have hb := Sx.2.1
  have hl : lv_has ls 6 [(0, .ref (q 0)), (1, .ref (t 0)), (2, .int fh), (3, .int fb)] := hl
  have hP : va_P D cls [(q 0, .inr (5, ((fSale q).set 0 (.int h0)).set 1 (.int b0))), (t 0, .inr (1, fHall t)), (t 1, .inr (10, fThings (fun k => t (1 + k)))), (t 16, .inr (0, fBuyers (fun k => t (16 + k))))] s.heap := hP
  have hD : va_D A [(q 0, .inr (5, ((fSale q).set 0 (.int h0)).set 1 (.int b0))), (t 0, .inr (1, fHall t)), (t 1, .inr (10, fThings (fun k => t (1 + k)))), (t 16, .inr (0, fBuyers (fun k => t (16 + k))))] := hD
  refine lv_aload_n hx hb dd_X5_open_0 rfl (lv_at hl 1 rfl) ?_
  refine wk_get (v := .ref (t 1)) Sx ef_1 hK hP 1 rfl rfl 0 (by decide) kk_259 rfl dd_X5_open_1 ?_
  refine lv_astore (lv' := [(4, .ref (t 1)), (0, .ref (q 0)), (1, .ref (t 0)), (2, .int fh), (3, .int fb)]) hx hb dd_X5_open_4 hl (by decide) rfl (fun ls hl => ?_)
  refine lv_aload_n hx hb dd_X5_open_6 rfl (lv_at hl 1 rfl) ?_
  refine lv_iload_n hx hb dd_X5_open_7 rfl (lv_at hl 3 rfl) ?_
  refine wk_put (ws' := [(q 0, .inr (5, ((fSale q).set 0 (.int fh)).set 1 (.int b0))), (t 0, .inr (1, fHall t)), (t 1, .inr (10, fThings (fun k => t (1 + k)))), (t 16, .inr (0, fBuyers (fun k => t (16 + k))))]) Sx ef_5 hK hP hD hS 0 rfl rfl 0 (by decide) kk_322 rfl rfl rfl (Nat.le_of_ble_eq_true rfl) dd_X5_open_8 rfl (fun H locs hP hD hS => ?_)
  refine lv_aload_n hx hb dd_X5_open_11 rfl (lv_at hl 1 rfl) ?_
  refine lv_iload_n hx hb dd_X5_open_12 rfl (lv_at hl 4 rfl) ?_
  refine wk_put (ws' := [(q 0, .inr (5, ((fSale q).set 0 (.int fh)).set 1 (.int fb))), (t 0, .inr (1, fHall t)), (t 1, .inr (10, fThings (fun k => t (1 + k)))), (t 16, .inr (0, fBuyers (fun k => t (16 + k))))]) Sx ef_5 hK hP hD hS 0 rfl rfl 1 (by decide) kk_323 rfl rfl rfl (Nat.le_of_ble_eq_true rfl) dd_X5_open_13 rfl (fun H locs hP hD hS => ?_)
  refine lv_aload_n hx hb dd_X5_open_16 rfl (lv_at hl 1 rfl) ?_
  refine lv_iconst (v := 0) hx hb dd_X5_open_17 (by decide) ?_
  refine wk_put (ws' := [(q 0, .inr (5, ((fSale q).set 0 (.int fh)).set 1 (.int fb))), (t 0, .inr (1, fHall t)), (t 1, .inr (10, fThings (fun k => t (1 + k)))), (t 16, .inr (0, fBuyers (fun k => t (16 + k))))]) Sx ef_5 hK hP hD hS 0 rfl rfl 3 (by decide) kk_325 rfl rfl rfl (Nat.le_of_ble_eq_true rfl) dd_X5_open_18 rfl (fun H locs hP hD hS => ?_)
  refine lv_iconst (v := 0) hx hb dd_X5_open_21 (by decide) ?_
  refine lv_istore (lv' := [(5, .int 0), (4, .ref (t 1)), (0, .ref (q 0)), (1, .ref (t 0)), (2, .int fh), (3, .int fb)]) hx hb dd_X5_open_22 hl (by decide) rfl (fun ls hl => ?_)
  refine lv_iload hx hb dd_X5_open_24 (lv_at hl 0 rfl) ?_
  refine lv_aload hx hb dd_X5_open_26 (lv_at hl 1 rfl) ?_
  refine wk_get (v := .int 0) Sx ef_10 hK hP 2 rfl rfl 6 (by decide) kk_88 rfl dd_X5_open_28 ?_
  refine lv_icmp_ge (tgt := 93) hx hb dd_X5_open_31 (by decide) (fun _ => ?_) (fun c => absurd c (by decide))
  refine lv_iconst (v := 0) hx hb dd_X5_open_93 (by decide) ?_
  refine lv_istore (lv' := [(5, .int 0), (4, .ref (t 1)), (0, .ref (q 0)), (1, .ref (t 0)), (2, .int fh), (3, .int fb)]) hx hb dd_X5_open_94 hl (by decide) rfl (fun ls hl => ?_)
  refine lv_iload hx hb dd_X5_open_96 (lv_at hl 0 rfl) ?_
  refine lv_aload_n hx hb dd_X5_open_98 rfl (lv_at hl 3 rfl) ?_
  refine wk_get (v := .ref (t 16)) Sx ef_1 hK hP 1 rfl rfl 3 (by decide) kk_266 rfl dd_X5_open_99 ?_
  refine wk_get (v := .int 0) Sx ef_0 hK hP 3 rfl rfl 5 (by decide) kk_175 rfl dd_X5_open_102 ?_
  refine lv_icmp_ge (tgt := 139) hx hb dd_X5_open_105 (by decide) (fun _ => ?_) (fun c => absurd c (by decide))
  exact hc_vret Sx hr hlocks dd_X5_open_139 hS () trivial hP hD
set_option maxHeartbeats 4000000 in
set_option maxRecDepth 100000 in
theorem c_playHour (l : Launch) (D : va_G) (cy : Nat → ClassId) (q : Nat → Nat) (t : Nat → Nat) (ho : Int32) (h0 : Int32) (b0 : Int32) : PC l my_X5_playHour mb_X5_playHour 7 ((some .int)) (rmD 2 0 0) D (TY cy) [.ref (q 0), .ref (t 0), .int ho] NS [(q 0, .inr (5, ((fSale q).set 0 (.int h0)).set 1 (.int b0))), (t 0, .inr (1, fHall t)), (t 1, .inr (10, fThings (fun k => t (1 + k)))), (t 16, .inr (0, fBuyers (fun k => t (16 + k))))] (vp_Si (fun r => r = 0)) := by
  refine pc_intro (by decide) (Nat.le_of_ble_eq_true rfl) (fun p e s m below meth c ls Sx hr hlocks hl hP hK hX => ?_)
  have hx := Sx.1
  have hb := Sx.2.1
  have hl : lv_has ls 7 [(0, .ref (q 0)), (1, .ref (t 0)), (2, .int ho)] := hl
  refine lv_iload_n hx hb dd_X5_playHour_0 rfl (lv_at hl 2 rfl) ?_
  refine lv_aload_n hx hb dd_X5_playHour_1 rfl (lv_at hl 0 rfl) ?_
  refine wk_get (v := .int h0) Sx ef_5 hK hP 0 rfl rfl 0 (by decide) kk_322 rfl dd_X5_playHour_2 ?_
  refine lv_aload_n hx hb dd_X5_playHour_5 rfl (lv_at hl 0 rfl) ?_
  refine wk_get (v := .int b0) Sx ef_5 hK hP 0 rfl rfl 1 (by decide) kk_323 rfl dd_X5_playHour_6 ?_
  refine pk_i (pc_T [.int ho, .int h0, .int b0] [] Sx hl.1 ws_Sale_70 md_X5_stage (c_stage l D cy ho h0 b0) ⟨rfl, rfl⟩ ⟨Nat.le_of_ble_eq_true rfl, Nat.le_of_ble_eq_true rfl⟩ p_nil hK ns_b (ns_w hX) rfl rfl (Nat.le_of_ble_eq_true rfl) dd_X5_playHour_9 ⟨Nat.le_of_ble_eq_true rfl, Nat.le_of_ble_eq_true rfl⟩) (fun r1 hw2 => ?_)
  refine lv_istore_n (lv' := [(3, .int r1), (0, .ref (q 0)), (1, .ref (t 0)), (2, .int ho)]) hx hb dd_X5_playHour_12 rfl hl (by decide) rfl (fun ls hl => ?_)
  refine lv_iconst (v := 0) hx hb dd_X5_playHour_13 (by decide) ?_
  refine lv_istore (lv' := [(4, .int 0), (3, .int r1), (0, .ref (q 0)), (1, .ref (t 0)), (2, .int ho)]) hx hb dd_X5_playHour_14 hl (by decide) rfl (fun ls hl => ?_)
  refine lv_iconst (v := 0) hx hb dd_X5_playHour_16 (by decide) ?_
  refine lv_istore (lv' := [(5, .int 0), (4, .int 0), (3, .int r1), (0, .ref (q 0)), (1, .ref (t 0)), (2, .int ho)]) hx hb dd_X5_playHour_17 hl (by decide) rfl (fun ls hl => ?_)
  refine lv_iload hx hb dd_X5_playHour_19 (lv_at hl 0 rfl) ?_
  refine lv_aload_n hx hb dd_X5_playHour_21 rfl (lv_at hl 4 rfl) ?_
  refine wk_get (v := .ref (t 16)) Sx ef_1 hK hP 1 rfl rfl 3 (by decide) kk_266 rfl dd_X5_playHour_22 ?_
  refine wk_get (v := .int 0) Sx ef_0 hK hP 3 rfl rfl 5 (by decide) kk_175 rfl dd_X5_playHour_25 ?_
  refine lv_icmp_ge (tgt := 121) hx hb dd_X5_playHour_28 (by decide) (fun _ => ?_) (fun c => absurd c (by decide))
  refine lv_iload hx hb dd_X5_playHour_121 (lv_at hl 1 rfl) ?_
  exact pc_ret Sx hr hlocks rfl dd_X5_playHour_123 rfl
set_option maxHeartbeats 4000000 in
set_option maxRecDepth 100000 in
theorem c_wholeDay (l : Launch) (D : va_G) (cy : Nat → ClassId) (q : Nat → Nat) (t : Nat → Nat) (fh : Int32) (fb : Int32) (h0 : Int32) (b0 : Int32) : HC l my_X5_wholeDay mb_X5_wholeDay 6 ((some .int)) (rmD 3 0 0) D (TY cy) [.ref (q 0), .ref (t 0), .int fh, .int fb] NX [(q 0, .inr (5, ((fSale q).set 0 (.int h0)).set 1 (.int b0))), (t 0, .inr (1, fHall t)), (t 1, .inr (10, fThings (fun k => t (1 + k)))), (t 16, .inr (0, fBuyers (fun k => t (16 + k))))] (QI (S := Unit) D (fun r _ => r = 0) (fun _ => [(q 0, .inr (5, ((fSale q).set 0 (.int fh)).set 1 (.int fb))), (t 0, .inr (1, fHall t)), (t 1, .inr (10, fThings (fun k => t (1 + k)))), (t 16, .inr (0, fBuyers (fun k => t (16 + k))))])) := by
  refine hc_intro (by decide) (Nat.le_of_ble_eq_true rfl) (fun p e s m below meth c A ls Sx hr hlocks hin hl hP hD hK hS hA hX => ?_)
  have hx := Sx.1
  have hb := Sx.2.1
  have hl : lv_has ls 6 [(0, .ref (q 0)), (1, .ref (t 0)), (2, .int fh), (3, .int fb)] := hl
  have hP : va_P D cls [(q 0, .inr (5, ((fSale q).set 0 (.int h0)).set 1 (.int b0))), (t 0, .inr (1, fHall t)), (t 1, .inr (10, fThings (fun k => t (1 + k)))), (t 16, .inr (0, fBuyers (fun k => t (16 + k))))] s.heap := hP
  have hD : va_D A [(q 0, .inr (5, ((fSale q).set 0 (.int h0)).set 1 (.int b0))), (t 0, .inr (1, fHall t)), (t 1, .inr (10, fThings (fun k => t (1 + k)))), (t 16, .inr (0, fBuyers (fun k => t (16 + k))))] := hD
  refine lv_aload_n hx hb dd_X5_wholeDay_0 rfl (lv_at hl 0 rfl) ?_
  refine lv_aload_n hx hb dd_X5_wholeDay_1 rfl (lv_at hl 1 rfl) ?_
  refine lv_iload_n hx hb dd_X5_wholeDay_2 rfl (lv_at hl 2 rfl) ?_
  refine lv_iload_n hx hb dd_X5_wholeDay_3 rfl (lv_at hl 3 rfl) ?_
  refine hk_v (wr := []) (c1 := 0) (s1 := 0) [0, 1, 2, 3] [] (hc_V [.ref (t 0), .int fh, .int fb] [] [0, 1, 2, 3] Sx hl.1 ws_Sale_104 md_X5_open (c_open l D cy q t fh fb h0 b0) ⟨Nat.le_of_ble_eq_true rfl, Nat.le_of_ble_eq_true rfl⟩ hP hD rfl (by decide) hK nx_b (nx_w hX) (va_recv hK hP (ci := 5) (q0 := 0) rfl rfl) rfl rfl (Nat.le_of_ble_eq_true rfl) dd_X5_wholeDay_4 ⟨Nat.le_of_ble_eq_true rfl, Nat.le_of_ble_eq_true rfl⟩) hS hA hP hD rfl rfl (by decide) (by decide) rfl rfl (fun u2 H locs hw3 hP hD hS => ?_)
  have hP : va_P D cls [(q 0, .inr (5, ((fSale q).set 0 (.int fh)).set 1 (.int fb))), (t 0, .inr (1, fHall t)), (t 1, .inr (10, fThings (fun k => t (1 + k)))), (t 16, .inr (0, fBuyers (fun k => t (16 + k))))] H := hP
  have hD : va_D A [(q 0, .inr (5, ((fSale q).set 0 (.int fh)).set 1 (.int fb))), (t 0, .inr (1, fHall t)), (t 1, .inr (10, fThings (fun k => t (1 + k)))), (t 16, .inr (0, fBuyers (fun k => t (16 + k))))] := hD
  refine lv_iconst (v := 0) hx hb dd_X5_wholeDay_7 (by decide) ?_
  refine lv_istore (lv' := [(4, .int 0), (0, .ref (q 0)), (1, .ref (t 0)), (2, .int fh), (3, .int fb)]) hx hb dd_X5_wholeDay_8 hl (by decide) rfl (fun ls hl => ?_)
  refine lv_iconst (v := 0) hx hb dd_X5_wholeDay_10 (by decide) ?_
  refine lv_istore (lv' := [(5, .int 0), (4, .int 0), (0, .ref (q 0)), (1, .ref (t 0)), (2, .int fh), (3, .int fb)]) hx hb dd_X5_wholeDay_11 hl (by decide) rfl (fun ls hl => ?_)
  have hlz5 : Int32.toInt 0 = 0 := rfl
  have hI8 : 0 ≤ (0 : Int32).toInt ∧ (0 : Int32).toInt ≤ 12 := ⟨by omega, by omega⟩
  refine pl1 13 6 (fun (u : Int32) => [(5, .int u), (4, .int 0), (0, .ref (q 0)), (1, .ref (t 0)), (2, .int fh), (3, .int fb)]) (fun (u : Int32) => 0 ≤ u.toInt ∧ u.toInt ≤ 12) (fun (u : Int32) => (12 - u.toInt).toNat) (fun u ls hI7 hl ih6 => ?_) 0 hI8 (lv_sub hl [0, 1, 2, 3, 4, 5] rfl)
  obtain ⟨i4, ei4⟩ : ∃ y, y = u := ⟨_, rfl⟩
  subst ei4
  have hl : lv_has ls 6 [(5, .int i4), (4, .int 0), (0, .ref (q 0)), (1, .ref (t 0)), (2, .int fh), (3, .int fb)] := hl
  have hI7 : 0 ≤ i4.toInt ∧ i4.toInt ≤ 12 := hI7
  obtain ⟨iv9, iv10⟩ := hI7
  refine lv_iload hx hb dd_X5_wholeDay_13 (lv_at hl 0 rfl) ?_
  refine lv_bipush (v := 12) hx hb dd_X5_wholeDay_15 (by decide) ?_
  refine lv_icmp_ge (tgt := 38) hx hb dd_X5_wholeDay_17 (by decide) (fun c11 => ?_) (fun c11 => ?_)
  · have fc11 := ci_le (a := 12) (b := i4.toInt) rfl rfl c11
    refine lv_iload hx hb dd_X5_wholeDay_38 (lv_at hl 1 rfl) ?_
    exact hc_ret Sx hr hlocks dd_X5_wholeDay_40 hS () rfl hP hD
  · have fc11 := ci_nle (a := 12) (b := i4.toInt) rfl rfl c11
    refine lv_iload hx hb dd_X5_wholeDay_20 (lv_at hl 1 rfl) ?_
    refine lv_aload_n hx hb dd_X5_wholeDay_22 rfl (lv_at hl 2 rfl) ?_
    refine lv_aload_n hx hb dd_X5_wholeDay_23 rfl (lv_at hl 3 rfl) ?_
    refine lv_iload hx hb dd_X5_wholeDay_24 (lv_at hl 0 rfl) ?_
    refine pk_i (pc_V [.ref (t 0), .int i4] [.int 0] Sx hl.1 ws_Sale_108 md_X5_playHour (c_playHour l D cy q t i4 fh fb) ⟨rfl, rfl⟩ ⟨Nat.le_of_ble_eq_true rfl, Nat.le_of_ble_eq_true rfl⟩ (hP.sub [0, 1, 2, 3] rfl) hK ns_b (ns_w hX) (va_recv hK hP (ci := 5) (q0 := 0) rfl rfl) rfl rfl (Nat.le_of_ble_eq_true rfl) dd_X5_wholeDay_26 ⟨Nat.le_of_ble_eq_true rfl, Nat.le_of_ble_eq_true rfl⟩) (fun r12 hw13 => ?_)
    subst hw13
    refine lv_iadd hx hb dd_X5_wholeDay_29 ?_
    refine wk_int (v := 0) (by decide) ?_
    refine lv_istore (lv' := [(4, .int 0), (5, .int i4), (0, .ref (q 0)), (1, .ref (t 0)), (2, .int fh), (3, .int fb)]) hx hb dd_X5_wholeDay_30 hl (by decide) rfl (fun ls hl => ?_)
    obtain ⟨z14, ez14⟩ : ∃ y : Int32, y = i4 + Int32.ofInt 1 := ⟨_, rfl⟩
    have fz14 : z14.toInt = i4.toInt + 1 := by rw [ez14]; exact ti_add rfl (show (Int32.ofInt 1).toInt = 1 by decide) (by omega) (by omega)
    refine lv_iinc (v := z14) (lv' := [(5, .int z14), (4, .int 0), (0, .ref (q 0)), (1, .ref (t 0)), (2, .int fh), (3, .int fb)]) hx hb dd_X5_wholeDay_32 hl (k := 1) rfl ez14.symm (by decide) rfl (fun ls hl => ?_)
    refine lv_goto (tgt := 13) hx hb dd_X5_wholeDay_35 (by decide) ?_
    have hI15 : 0 ≤ z14.toInt ∧ z14.toInt ≤ 12 := ⟨by omega, by omega⟩
    have hm16 : (12 - z14.toInt).toNat < (12 - i4.toInt).toNat := by omega
    exact ih6 z14 ls hI15 hm16 (lv_sub hl [0, 1, 2, 3, 4, 5] rfl)
set_option maxHeartbeats 4000000 in
set_option maxRecDepth 100000 in
theorem c_settle (l : Launch) (D : va_G) (cy : Nat → ClassId) (q : Nat → Nat) (t : Nat → Nat) (h0 : Int32) (b0 : Int32) : PC l my_X5_settle mb_X5_settle 6 ((none : Option Jvm.ClassFile.FieldType)) (rmD 1 0 0) D (TY cy) [.ref (q 0), .ref (t 0)] NS [(q 0, .inr (5, ((fSale q).set 0 (.int h0)).set 1 (.int b0))), (t 0, .inr (1, fHall t)), (t 1, .inr (10, fThings (fun k => t (1 + k)))), (t 16, .inr (0, fBuyers (fun k => t (16 + k))))] (va_Sv (fun _ => True)) := by
  refine pc_intro (by decide) (Nat.le_of_ble_eq_true rfl) (fun p e s m below meth c ls Sx hr hlocks hl hP hK hX => ?_)
  have hx := Sx.1
  have hb := Sx.2.1
  have hl : lv_has ls 6 [(0, .ref (q 0)), (1, .ref (t 0))] := hl
  refine lv_aload_n hx hb dd_X5_settle_0 rfl (lv_at hl 1 rfl) ?_
  refine wk_get (v := .ref (t 1)) Sx ef_1 hK hP 1 rfl rfl 0 (by decide) kk_259 rfl dd_X5_settle_1 ?_
  refine lv_astore_n (lv' := [(2, .ref (t 1)), (0, .ref (q 0)), (1, .ref (t 0))]) hx hb dd_X5_settle_4 rfl hl (by decide) rfl (fun ls hl => ?_)
  refine lv_aload_n hx hb dd_X5_settle_5 rfl (lv_at hl 2 rfl) ?_
  refine wk_get (v := .ref (t 16)) Sx ef_1 hK hP 1 rfl rfl 3 (by decide) kk_266 rfl dd_X5_settle_6 ?_
  refine lv_astore_n (lv' := [(3, .ref (t 16)), (2, .ref (t 1)), (0, .ref (q 0)), (1, .ref (t 0))]) hx hb dd_X5_settle_9 rfl hl (by decide) rfl (fun ls hl => ?_)
  refine lv_iconst (v := 0) hx hb dd_X5_settle_10 (by decide) ?_
  refine lv_istore (lv' := [(4, .int 0), (3, .ref (t 16)), (2, .ref (t 1)), (0, .ref (q 0)), (1, .ref (t 0))]) hx hb dd_X5_settle_11 hl (by decide) rfl (fun ls hl => ?_)
  refine lv_iload hx hb dd_X5_settle_13 (lv_at hl 0 rfl) ?_
  refine lv_aload_n hx hb dd_X5_settle_15 rfl (lv_at hl 2 rfl) ?_
  refine wk_get (v := .int 0) Sx ef_10 hK hP 2 rfl rfl 6 (by decide) kk_88 rfl dd_X5_settle_16 ?_
  refine lv_icmp_ge (tgt := 97) hx hb dd_X5_settle_19 (by decide) (fun _ => ?_) (fun c => absurd c (by decide))
  exact pc_vret Sx hr hlocks dd_X5_settle_97 trivial
set_option maxHeartbeats 4000000 in
set_option maxRecDepth 100000 in
theorem c_bestLady (l : Launch) (D : va_G) (cy : Nat → ClassId) (q : Nat → Nat) (bu : Int32) : PC l my_X1_bestLady mb_X1_bestLady 7 ((some .int)) (rmD 1 0 0) D (TY cy) [.ref (q 0), .int bu, .int 0] NS [(q 0, .inr (1, fHall q))] (vp_Si (fun r => r = (-1))) := by
  refine pc_intro (by decide) (Nat.le_of_ble_eq_true rfl) (fun p e s m below meth c ls Sx hr hlocks hl hP hK hX => ?_)
  have hx := Sx.1
  have hb := Sx.2.1
  have hl : lv_has ls 7 [(0, .ref (q 0)), (1, .int bu), (2, .int 0)] := hl
  refine lv_iconst (v := (-1)) hx hb dd_X1_bestLady_0 (by decide) ?_
  refine lv_istore_n (lv' := [(3, .int (-1)), (0, .ref (q 0)), (1, .int bu), (2, .int 0)]) hx hb dd_X1_bestLady_1 rfl hl (by decide) rfl (fun ls hl => ?_)
  refine lv_iconst (v := 0) hx hb dd_X1_bestLady_2 (by decide) ?_
  refine lv_istore (lv' := [(4, .int 0), (3, .int (-1)), (0, .ref (q 0)), (1, .int bu), (2, .int 0)]) hx hb dd_X1_bestLady_3 hl (by decide) rfl (fun ls hl => ?_)
  refine lv_iload_n hx hb dd_X1_bestLady_5 rfl (lv_at hl 4 rfl) ?_
  refine lv_aload_n hx hb dd_X1_bestLady_6 rfl (lv_at hl 2 rfl) ?_
  refine wk_get (v := .int 0) Sx ef_1 hK hP 0 rfl rfl 7 (by decide) kk_274 rfl dd_X1_bestLady_7 ?_
  refine lv_icmp_lt (tgt := 15) hx hb dd_X1_bestLady_10 (by decide) (fun c => absurd c (by decide)) (fun _ => ?_)
  refine lv_iconst (v := (-1)) hx hb dd_X1_bestLady_13 (by decide) ?_
  exact pc_ret Sx hr hlocks rfl dd_X1_bestLady_14 rfl
set_option maxHeartbeats 4000000 in
set_option maxRecDepth 100000 in
theorem c_planTables (l : Launch) (D : va_G) (cy : Nat → ClassId) (q : Nat → Nat) : HC l my_X1_planTables mb_X1_planTables 4 ((none : Option Jvm.ClassFile.FieldType)) (rmD 2 0 0) D (TY cy) [.ref (q 0)] NX [(q 0, .inr (1, fHall q)), (q 9, .inr (2, fLadies (fun k => q (9 + k)))), (q 40, .inl (cy 0, 32, .inl (fun _ => 0)))] (QV (S := Unit) D (fun _ => True) (fun _ => [(q 0, .inr (1, fHall q)), (q 9, .inr (2, fLadies (fun k => q (9 + k)))), (q 40, .inl (cy 0, 32, .inl (fun _ => 0)))])) := by
  refine hc_intro (by decide) (Nat.le_of_ble_eq_true rfl) (fun p e s m below meth c A ls Sx hr hlocks hin hl hP hD hK hS hA hX => ?_)
  have hx := Sx.1
  have hb := Sx.2.1
  have hl : lv_has ls 4 [(0, .ref (q 0))] := hl
  have hP : va_P D cls [(q 0, .inr (1, fHall q)), (q 9, .inr (2, fLadies (fun k => q (9 + k)))), (q 40, .inl (cy 0, 32, .inl (fun _ => 0)))] s.heap := hP
  have hD : va_D A [(q 0, .inr (1, fHall q)), (q 9, .inr (2, fLadies (fun k => q (9 + k)))), (q 40, .inl (cy 0, 32, .inl (fun _ => 0)))] := hD
  refine lv_iconst (v := 0) hx hb dd_X1_planTables_0 (by decide) ?_
  refine lv_istore_n (lv' := [(1, .int 0), (0, .ref (q 0))]) hx hb dd_X1_planTables_1 rfl hl (by decide) rfl (fun ls hl => ?_)
  refine lv_iload_n hx hb dd_X1_planTables_2 rfl (lv_at hl 0 rfl) ?_
  refine lv_aload_n hx hb dd_X1_planTables_3 rfl (lv_at hl 1 rfl) ?_
  refine wk_get (v := .ref (q 9)) Sx ef_1 hK hP 0 rfl rfl 1 (by decide) kk_261 rfl dd_X1_planTables_4 ?_
  refine wk_get (v := .int 0) Sx ef_2 hK hP 1 rfl rfl 3 (by decide) kk_124 rfl dd_X1_planTables_7 ?_
  refine lv_icmp_ge (tgt := 56) hx hb dd_X1_planTables_10 (by decide) (fun _ => ?_) (fun c => absurd c (by decide))
  refine lv_iconst (v := 1) hx hb dd_X1_planTables_56 (by decide) ?_
  refine lv_aload_n hx hb dd_X1_planTables_57 rfl (lv_at hl 1 rfl) ?_
  refine wk_get (v := .ref (q 9)) Sx ef_1 hK hP 0 rfl rfl 1 (by decide) kk_261 rfl dd_X1_planTables_58 ?_
  refine wk_get (v := .int 0) Sx ef_2 hK hP 1 rfl rfl 3 (by decide) kk_124 rfl dd_X1_planTables_61 ?_
  refine lv_ishl hx hb dd_X1_planTables_64 ?_
  refine wk_int (v := 1) (by decide) ?_
  refine lv_iconst (v := 1) hx hb dd_X1_planTables_65 (by decide) ?_
  refine lv_isub hx hb dd_X1_planTables_66 ?_
  refine wk_int (v := 0) (by decide) ?_
  refine lv_istore_n (lv' := [(1, .int 0), (0, .ref (q 0))]) hx hb dd_X1_planTables_67 rfl hl (by decide) rfl (fun ls hl => ?_)
  refine lv_iload_n hx hb dd_X1_planTables_68 rfl (lv_at hl 0 rfl) ?_
  refine lv_if_lt (tgt := 112) hx hb dd_X1_planTables_69 (by decide) (fun c => absurd c (by decide)) (fun _ => ?_)
  refine lv_iload_n hx hb dd_X1_planTables_72 rfl (lv_at hl 0 rfl) ?_
  refine pk_i (pc_T [.int 0] [] Sx hl.1 ws_Hall_134 md_J6_bitCount_0f7a4 (c_bitCount0 l D cy) ⟨rfl, rfl⟩ ⟨Nat.le_of_ble_eq_true rfl, Nat.le_of_ble_eq_true rfl⟩ p_nil hK ns_b (ns_w hX) rfl rfl (Nat.le_of_ble_eq_true rfl) dd_X1_planTables_73 ⟨Nat.le_of_ble_eq_true rfl, Nat.le_of_ble_eq_true rfl⟩) (fun r1 hw2 => ?_)
  subst hw2
  refine lv_istore_n (lv' := [(2, .int 0), (1, .int 0), (0, .ref (q 0))]) hx hb dd_X1_planTables_76 rfl hl (by decide) rfl (fun ls hl => ?_)
  refine lv_aload_n hx hb dd_X1_planTables_77 rfl (lv_at hl 2 rfl) ?_
  refine lv_iload_n hx hb dd_X1_planTables_78 rfl (lv_at hl 1 rfl) ?_
  refine lv_iload_n hx hb dd_X1_planTables_79 rfl (lv_at hl 0 rfl) ?_
  refine pk_i (pc_V [.int 0, .int 0] [] Sx hl.1 ws_Hall_139 md_X1_bestLady (c_bestLady l D cy q 0) ⟨rfl, rfl⟩ ⟨Nat.le_of_ble_eq_true rfl, Nat.le_of_ble_eq_true rfl⟩ (hP.sub [0] rfl) hK ns_b (ns_w hX) (va_recv hK hP (ci := 1) (q0 := 0) rfl rfl) rfl rfl (Nat.le_of_ble_eq_true rfl) dd_X1_planTables_80 ⟨Nat.le_of_ble_eq_true rfl, Nat.le_of_ble_eq_true rfl⟩) (fun r3 hw4 => ?_)
  subst hw4
  refine lv_istore_n (lv' := [(3, .int (-1)), (2, .int 0), (1, .int 0), (0, .ref (q 0))]) hx hb dd_X1_planTables_83 rfl hl (by decide) rfl (fun ls hl => ?_)
  refine lv_aload_n hx hb dd_X1_planTables_84 rfl (lv_at hl 3 rfl) ?_
  refine wk_get (v := .ref (q 40)) Sx ef_1 hK hP 0 rfl rfl 13 (by decide) kk_285 rfl dd_X1_planTables_85 ?_
  refine lv_iload_n hx hb dd_X1_planTables_88 rfl (lv_at hl 2 rfl) ?_
  refine lv_iload_n hx hb dd_X1_planTables_89 rfl (lv_at hl 0 rfl) ?_
  refine lv_iconst (v := (-1)) hx hb dd_X1_planTables_90 (by decide) ?_
  refine lv_icmp_ne (tgt := 98) hx hb dd_X1_planTables_91 (by decide) (fun c => absurd c (by decide)) (fun _ => ?_)
  refine lv_iconst (v := 0) hx hb dd_X1_planTables_94 (by decide) ?_
  refine lv_goto (tgt := 105) hx hb dd_X1_planTables_95 (by decide) ?_
  refine wk_iast (ws' := [(q 0, .inr (1, fHall q)), (q 9, .inr (2, fLadies (fun k => q (9 + k)))), (q 40, .inl (cy 0, 32, .inl (fun _ => 0)))]) Sx hK hP hD hS 2 0 rfl rfl (vi_of (by decide)) dd_X1_planTables_105 (by rw [upd_c]; rfl) (fun H locs hP hD hS => ?_)
  refine lv_iinc (v := (-1)) (lv' := [(1, .int (-1)), (3, .int (-1)), (2, .int 0), (0, .ref (q 0))]) hx hb dd_X1_planTables_106 hl (k := 2) rfl (by decide) (by decide) rfl (fun ls hl => ?_)
  refine lv_goto (tgt := 68) hx hb dd_X1_planTables_109 (by decide) ?_
  refine lv_iload_n hx hb dd_X1_planTables_68 rfl (lv_at hl 0 rfl) ?_
  refine lv_if_lt (tgt := 112) hx hb dd_X1_planTables_69 (by decide) (fun _ => ?_) (fun c => absurd c (by decide))
  exact hc_vret Sx hr hlocks dd_X1_planTables_112 hS () trivial hP hD
set_option maxHeartbeats 4000000 in
set_option maxRecDepth 100000 in
theorem c_longestRow (l : Launch) (D : va_G) (cy : Nat → ClassId) (q : Nat → Nat) : PC l my_X8_longestRow mb_X8_longestRow 4 ((some .int)) (rmD 1 0 0) D (TY cy) [.ref (q 0)] NS [(q 0, .inr (8, fSightings q))] (vp_Si (fun r => r = 0)) := by
  refine pc_intro (by decide) (Nat.le_of_ble_eq_true rfl) (fun p e s m below meth c ls Sx hr hlocks hl hP hK hX => ?_)
  have hx := Sx.1
  have hb := Sx.2.1
  have hl : lv_has ls 4 [(0, .ref (q 0))] := hl
  refine lv_iconst (v := 0) hx hb dd_X8_longestRow_0 (by decide) ?_
  refine lv_istore_n (lv' := [(1, .int 0), (0, .ref (q 0))]) hx hb dd_X8_longestRow_1 rfl hl (by decide) rfl (fun ls hl => ?_)
  refine lv_iconst (v := 0) hx hb dd_X8_longestRow_2 (by decide) ?_
  refine lv_istore_n (lv' := [(2, .int 0), (1, .int 0), (0, .ref (q 0))]) hx hb dd_X8_longestRow_3 rfl hl (by decide) rfl (fun ls hl => ?_)
  have hlz2 : Int32.toInt 0 = 0 := rfl
  have hI5 : 0 ≤ (0 : Int32).toInt ∧ (0 : Int32).toInt ≤ 100 := ⟨by omega, by omega⟩
  refine pl1 4 4 (fun (u : Int32) => [(2, .int u), (1, .int 0), (0, .ref (q 0))]) (fun (u : Int32) => 0 ≤ u.toInt ∧ u.toInt ≤ 100) (fun (u : Int32) => (100 - u.toInt).toNat) (fun u ls hI4 hl ih3 => ?_) 0 hI5 (lv_sub hl [0, 1, 2] rfl)
  obtain ⟨y1, ey1⟩ : ∃ y, y = u := ⟨_, rfl⟩
  subst ey1
  have hl : lv_has ls 4 [(2, .int y1), (1, .int 0), (0, .ref (q 0))] := hl
  have hI4 : 0 ≤ y1.toInt ∧ y1.toInt ≤ 100 := hI4
  obtain ⟨iv6, iv7⟩ := hI4
  refine lv_iload_n hx hb dd_X8_longestRow_4 rfl (lv_at hl 0 rfl) ?_
  refine lv_bipush (v := 99) hx hb dd_X8_longestRow_5 (by decide) ?_
  refine lv_icmp_gt (tgt := 66) hx hb dd_X8_longestRow_7 (by decide) (fun c8 => ?_) (fun c8 => ?_)
  · have fc8 := ci_lt (a := 99) (b := y1.toInt) rfl rfl c8
    refine lv_iload_n hx hb dd_X8_longestRow_66 rfl (lv_at hl 1 rfl) ?_
    exact pc_ret Sx hr hlocks rfl dd_X8_longestRow_67 rfl
  · have fc8 := ci_nlt (a := 99) (b := y1.toInt) rfl rfl c8
    refine lv_iconst (v := 0) hx hb dd_X8_longestRow_10 (by decide) ?_
    refine lv_istore_n (lv' := [(3, .int 0), (2, .int y1), (1, .int 0), (0, .ref (q 0))]) hx hb dd_X8_longestRow_11 rfl hl (by decide) rfl (fun ls hl => ?_)
    refine lv_iload_n hx hb dd_X8_longestRow_12 rfl (lv_at hl 0 rfl) ?_
    refine lv_aload_n hx hb dd_X8_longestRow_13 rfl (lv_at hl 3 rfl) ?_
    refine wk_get (v := .int 0) Sx ef_8 hK hP 0 rfl rfl 4 (by decide) kk_200 rfl dd_X8_longestRow_14 ?_
    refine lv_icmp_ge (tgt := 60) hx hb dd_X8_longestRow_17 (by decide) (fun _ => ?_) (fun c => absurd c (by decide))
    obtain ⟨z9, ez9⟩ : ∃ y : Int32, y = y1 + Int32.ofInt 1 := ⟨_, rfl⟩
    have fz9 : z9.toInt = y1.toInt + 1 := by rw [ez9]; exact ti_add rfl (show (Int32.ofInt 1).toInt = 1 by decide) (by omega) (by omega)
    refine lv_iinc (v := z9) (lv' := [(2, .int z9), (3, .int 0), (1, .int 0), (0, .ref (q 0))]) hx hb dd_X8_longestRow_60 hl (k := 1) rfl ez9.symm (by decide) rfl (fun ls hl => ?_)
    refine lv_goto (tgt := 4) hx hb dd_X8_longestRow_63 (by decide) ?_
    have hI10 : 0 ≤ z9.toInt ∧ z9.toInt ≤ 100 := ⟨by omega, by omega⟩
    have hm11 : (100 - z9.toInt).toNat < (100 - y1.toInt).toNat := by omega
    exact ih3 z9 ls hI10 hm11 (lv_sub hl [0, 2, 3] rfl)
set_option maxHeartbeats 4000000 in
set_option maxRecDepth 100000 in
theorem c_fewestVases (l : Launch) (D : va_G) (cy : Nat → ClassId) (q : Nat → Nat) : HC l my_X8_fewestVases mb_X8_fewestVases 3 ((some .int)) (rmD 2 0 0) D (TY cy) [.ref (q 0)] NX [(q 0, .inr (8, fSightings q)), (q 1, .inl (cy 0, 20, .inl (fun _ => 0))), (q 2, .inl (cy 0, 20, .inl (fun _ => 0))), (q 3, .inl (cy 0, 20, .inl (fun _ => 0))), (q 4, .inl (cy 0, 20, .inl (fun _ => 0))), (q 5, .inl (cy 0, 20, .inl (fun _ => 0))), (q 6, .inl (cy 0, 20, .inl (fun _ => 0))), (q 7, .inl (cy 0, 20, .inl (fun _ => 0)))] (QI (S := Unit) D (fun r _ => r = 0) (fun _ => [])) := by
  refine hc_intro (by decide) (Nat.le_of_ble_eq_true rfl) (fun p e s m below meth c A ls Sx hr hlocks hin hl hP hD hK hS hA hX => ?_)
  have hx := Sx.1
  have hb := Sx.2.1
  have hl : lv_has ls 3 [(0, .ref (q 0))] := hl
  have hP : va_P D cls [(q 0, .inr (8, fSightings q)), (q 1, .inl (cy 0, 20, .inl (fun _ => 0))), (q 2, .inl (cy 0, 20, .inl (fun _ => 0))), (q 3, .inl (cy 0, 20, .inl (fun _ => 0))), (q 4, .inl (cy 0, 20, .inl (fun _ => 0))), (q 5, .inl (cy 0, 20, .inl (fun _ => 0))), (q 6, .inl (cy 0, 20, .inl (fun _ => 0))), (q 7, .inl (cy 0, 20, .inl (fun _ => 0)))] s.heap := hP
  have hD : va_D A [(q 0, .inr (8, fSightings q)), (q 1, .inl (cy 0, 20, .inl (fun _ => 0))), (q 2, .inl (cy 0, 20, .inl (fun _ => 0))), (q 3, .inl (cy 0, 20, .inl (fun _ => 0))), (q 4, .inl (cy 0, 20, .inl (fun _ => 0))), (q 5, .inl (cy 0, 20, .inl (fun _ => 0))), (q 6, .inl (cy 0, 20, .inl (fun _ => 0))), (q 7, .inl (cy 0, 20, .inl (fun _ => 0)))] := hD
  refine lv_aload_n hx hb dd_X8_fewestVases_0 rfl (lv_at hl 0 rfl) ?_
  refine wk_get (v := .ref (q 5)) Sx ef_8 hK hP 0 rfl rfl 5 (by decide) kk_202 rfl dd_X8_fewestVases_1 ?_
  refine lv_iconst (v := (-1)) hx hb dd_X8_fewestVases_4 (by decide) ?_
  refine hk_v (wr := [(q 0, .inr (8, fSightings q)), (q 1, .inl (cy 0, 20, .inl (fun _ => 0))), (q 2, .inl (cy 0, 20, .inl (fun _ => 0))), (q 3, .inl (cy 0, 20, .inl (fun _ => 0))), (q 4, .inl (cy 0, 20, .inl (fun _ => 0))), (q 6, .inl (cy 0, 20, .inl (fun _ => 0))), (q 7, .inl (cy 0, 20, .inl (fun _ => 0)))]) (c1 := 0) (s1 := 0) [5] [0, 1, 2, 3, 4, 6, 7] (hc_T [.ref (q 5), .int (-1)] [] [5] Sx hl.1 ws_Sightings_41 md_J7_fill_53178 (c_fill_i20 l D cy (q 5) (-1) (fun _ => 0)) ⟨Nat.le_of_ble_eq_true rfl, Nat.le_of_ble_eq_true rfl⟩ hP hD rfl (by decide) hK nx_b (nx_w hX) rfl rfl (Nat.le_of_ble_eq_true rfl) dd_X8_fewestVases_5 ⟨Nat.le_of_ble_eq_true rfl, Nat.le_of_ble_eq_true rfl⟩) hS hA hP hD rfl rfl (by decide) (by decide) rfl rfl (fun u2 H locs hw3 hP hD hS => ?_)
  have hP : va_P D cls [(q 0, .inr (8, fSightings q)), (q 1, .inl (cy 0, 20, .inl (fun _ => 0))), (q 2, .inl (cy 0, 20, .inl (fun _ => 0))), (q 3, .inl (cy 0, 20, .inl (fun _ => 0))), (q 4, .inl (cy 0, 20, .inl (fun _ => 0))), (q 6, .inl (cy 0, 20, .inl (fun _ => 0))), (q 7, .inl (cy 0, 20, .inl (fun _ => 0)))] H := hP
  have hD : va_D A [(q 0, .inr (8, fSightings q)), (q 1, .inl (cy 0, 20, .inl (fun _ => 0))), (q 2, .inl (cy 0, 20, .inl (fun _ => 0))), (q 3, .inl (cy 0, 20, .inl (fun _ => 0))), (q 4, .inl (cy 0, 20, .inl (fun _ => 0))), (q 6, .inl (cy 0, 20, .inl (fun _ => 0))), (q 7, .inl (cy 0, 20, .inl (fun _ => 0)))] := hD
  refine lv_iconst (v := 0) hx hb dd_X8_fewestVases_8 (by decide) ?_
  refine lv_istore_n (lv' := [(1, .int 0), (0, .ref (q 0))]) hx hb dd_X8_fewestVases_9 rfl hl (by decide) rfl (fun ls hl => ?_)
  refine lv_iconst (v := 0) hx hb dd_X8_fewestVases_10 (by decide) ?_
  refine lv_istore_n (lv' := [(2, .int 0), (1, .int 0), (0, .ref (q 0))]) hx hb dd_X8_fewestVases_11 rfl hl (by decide) rfl (fun ls hl => ?_)
  refine lv_iload_n hx hb dd_X8_fewestVases_12 rfl (lv_at hl 0 rfl) ?_
  refine lv_aload_n hx hb dd_X8_fewestVases_13 rfl (lv_at hl 2 rfl) ?_
  refine wk_get (v := .int 0) Sx ef_8 hK hP 0 rfl rfl 4 (by decide) kk_200 rfl dd_X8_fewestVases_14 ?_
  refine lv_icmp_ge (tgt := 46) hx hb dd_X8_fewestVases_17 (by decide) (fun _ => ?_) (fun c => absurd c (by decide))
  refine lv_aload_n hx hb dd_X8_fewestVases_46 rfl (lv_at hl 2 rfl) ?_
  refine wk_get (v := .int 0) Sx ef_8 hK hP 0 rfl rfl 4 (by decide) kk_200 rfl dd_X8_fewestVases_47 ?_
  refine lv_iload_n hx hb dd_X8_fewestVases_50 rfl (lv_at hl 1 rfl) ?_
  refine lv_isub hx hb dd_X8_fewestVases_51 ?_
  refine wk_int (v := 0) (by decide) ?_
  exact hc_ret Sx hr hlocks dd_X8_fewestVases_52 hS () rfl p_nil d_nil
set_option maxHeartbeats 4000000 in
set_option maxRecDepth 100000 in
theorem c_bargains (l : Launch) (D : va_G) (cy : Nat → ClassId) (q : Nat → Nat) (t : Nat → Nat) (mi : Int32) (hmi : 0 ≤ mi.toInt ∧ mi.toInt ≤ 200) : HC l my_X4_bargains mb_X4_bargains 4 ((some .int)) (rmD 1 0 0) D (TY cy) [.ref (q 0), .ref (t 0), .int mi] NX [(q 0, .inr (4, fPicks q)), (q 1, .inl (cy 0, 10000, .inl (fun _ => 0))), (q 2, .inl (cy 0, 201, .inl (fun _ => 0))), (t 0, .inr (10, fThings t))] (QI (S := Unit) D (fun r _ => r = 0) (fun _ => [])) := by
  refine hc_intro (by decide) (Nat.le_of_ble_eq_true rfl) (fun p e s m below meth c A ls Sx hr hlocks hin hl hP hD hK hS hA hX => ?_)
  have hx := Sx.1
  have hb := Sx.2.1
  have hl : lv_has ls 4 [(0, .ref (q 0)), (1, .ref (t 0)), (2, .int mi)] := hl
  have hP : va_P D cls [(q 0, .inr (4, fPicks q)), (q 1, .inl (cy 0, 10000, .inl (fun _ => 0))), (q 2, .inl (cy 0, 201, .inl (fun _ => 0))), (t 0, .inr (10, fThings t))] s.heap := hP
  have hD : va_D A [(q 0, .inr (4, fPicks q)), (q 1, .inl (cy 0, 10000, .inl (fun _ => 0))), (q 2, .inl (cy 0, 201, .inl (fun _ => 0))), (t 0, .inr (10, fThings t))] := hD
  refine lv_iconst (v := 0) hx hb dd_X4_bargains_0 (by decide) ?_
  refine lv_istore_n (lv' := [(3, .int 0), (0, .ref (q 0)), (1, .ref (t 0)), (2, .int mi)]) hx hb dd_X4_bargains_1 rfl hl (by decide) rfl (fun ls hl => ?_)
  have hlz2 : Int32.toInt 0 = 0 := rfl
  have hI5 : 0 ≤ (0 : Int32).toInt ∧ (0 : Int32).toInt ≤ mi.toInt + 1 := ⟨by omega, by omega⟩
  refine gl1 2 4 (fun (u : Int32) => [(q 0, .inr (4, fPicks q)), (q 1, .inl (cy 0, 10000, .inl (fun _ => 0))), (q 2, .inl (cy 0, 201, .inl (fun _ => 0))), (t 0, .inr (10, fThings t))]) (fun (u : Int32) => [(3, .int u), (0, .ref (q 0)), (1, .ref (t 0)), (2, .int mi)]) (fun (u : Int32) => 0 ≤ u.toInt ∧ u.toInt ≤ mi.toInt + 1) (fun (u : Int32) => (mi.toInt + 1 - u.toInt).toNat) (fun u H locs ls hI4 hl hP hD hS ih3 => ?_) 0 hI5 (lv_sub hl [0, 1, 2, 3] rfl) hP hD hS
  obtain ⟨i1, ei1⟩ : ∃ y, y = u := ⟨_, rfl⟩
  subst ei1
  have hl : lv_has ls 4 [(3, .int i1), (0, .ref (q 0)), (1, .ref (t 0)), (2, .int mi)] := hl
  have hP : va_P D cls [(q 0, .inr (4, fPicks q)), (q 1, .inl (cy 0, 10000, .inl (fun _ => 0))), (q 2, .inl (cy 0, 201, .inl (fun _ => 0))), (t 0, .inr (10, fThings t))] H := hP
  have hD : va_D A [(q 0, .inr (4, fPicks q)), (q 1, .inl (cy 0, 10000, .inl (fun _ => 0))), (q 2, .inl (cy 0, 201, .inl (fun _ => 0))), (t 0, .inr (10, fThings t))] := hD
  have hI4 : 0 ≤ i1.toInt ∧ i1.toInt ≤ mi.toInt + 1 := hI4
  obtain ⟨iv6, iv7⟩ := hI4
  refine lv_iload_n hx hb dd_X4_bargains_2 rfl (lv_at hl 0 rfl) ?_
  refine lv_iload_n hx hb dd_X4_bargains_3 rfl (lv_at hl 3 rfl) ?_
  refine lv_icmp_gt (tgt := 27) hx hb dd_X4_bargains_4 (by decide) (fun c8 => ?_) (fun c8 => ?_)
  · have fc8 := ci_lt (a := mi.toInt) (b := i1.toInt) rfl rfl c8
    refine lv_iconst (v := 0) hx hb dd_X4_bargains_27 (by decide) ?_
    refine lv_istore_n (lv' := [(3, .int 0), (0, .ref (q 0)), (1, .ref (t 0)), (2, .int mi)]) hx hb dd_X4_bargains_28 rfl hl (by decide) rfl (fun ls hl => ?_)
    refine lv_iload_n hx hb dd_X4_bargains_29 rfl (lv_at hl 0 rfl) ?_
    refine lv_aload_n hx hb dd_X4_bargains_30 rfl (lv_at hl 2 rfl) ?_
    refine wk_get (v := .int 0) Sx ef_10 hK hP 3 rfl rfl 6 (by decide) kk_87 rfl dd_X4_bargains_31 ?_
    refine lv_icmp_ge (tgt := 77) hx hb dd_X4_bargains_34 (by decide) (fun _ => ?_) (fun c => absurd c (by decide))
    refine lv_aload_n hx hb dd_X4_bargains_77 rfl (lv_at hl 1 rfl) ?_
    refine wk_get (v := .ref (q 1)) Sx ef_4 hK hP 0 rfl rfl 0 (by decide) kk_356 rfl dd_X4_bargains_78 ?_
    refine lv_iload_n hx hb dd_X4_bargains_81 rfl (lv_at hl 3 rfl) ?_
    have hi9 : vp_in mi 10000 := (vi_of (by omega))
    refine va_iald hx hb hK hP 1 0 rfl rfl hi9 dd_X4_bargains_82 ?_
    refine wk_int (v := 0) rfl ?_
    exact hc_ret Sx hr hlocks dd_X4_bargains_83 hS () rfl p_nil d_nil
  · have fc8 := ci_nlt (a := mi.toInt) (b := i1.toInt) rfl rfl c8
    refine lv_aload_n hx hb dd_X4_bargains_7 rfl (lv_at hl 1 rfl) ?_
    refine wk_get (v := .ref (q 1)) Sx ef_4 hK hP 0 rfl rfl 0 (by decide) kk_356 rfl dd_X4_bargains_8 ?_
    refine lv_iload_n hx hb dd_X4_bargains_11 rfl (lv_at hl 0 rfl) ?_
    refine lv_iconst (v := 0) hx hb dd_X4_bargains_12 (by decide) ?_
    refine wk_iast (ws' := [(q 0, .inr (4, fPicks q)), (q 1, .inl (cy 0, 10000, .inl (fun _ => 0))), (q 2, .inl (cy 0, 201, .inl (fun _ => 0))), (t 0, .inr (10, fThings t))]) Sx hK hP hD hS 1 0 rfl rfl (vi_of (by omega)) dd_X4_bargains_13 (by rw [upd_c]; rfl) (fun H locs hP hD hS => ?_)
    refine lv_aload_n hx hb dd_X4_bargains_14 rfl (lv_at hl 1 rfl) ?_
    refine wk_get (v := .ref (q 2)) Sx ef_4 hK hP 0 rfl rfl 1 (by decide) kk_357 rfl dd_X4_bargains_15 ?_
    refine lv_iload_n hx hb dd_X4_bargains_18 rfl (lv_at hl 0 rfl) ?_
    refine lv_iconst (v := 0) hx hb dd_X4_bargains_19 (by decide) ?_
    refine wk_iast (ws' := [(q 0, .inr (4, fPicks q)), (q 1, .inl (cy 0, 10000, .inl (fun _ => 0))), (q 2, .inl (cy 0, 201, .inl (fun _ => 0))), (t 0, .inr (10, fThings t))]) Sx hK hP hD hS 2 0 rfl rfl (vi_of (by omega)) dd_X4_bargains_20 (by rw [upd_c]; rfl) (fun H locs hP hD hS => ?_)
    obtain ⟨z10, ez10⟩ : ∃ y : Int32, y = i1 + Int32.ofInt 1 := ⟨_, rfl⟩
    have fz10 : z10.toInt = i1.toInt + 1 := by rw [ez10]; exact ti_add rfl (show (Int32.ofInt 1).toInt = 1 by decide) (by omega) (by omega)
    refine lv_iinc (v := z10) (lv' := [(3, .int z10), (0, .ref (q 0)), (1, .ref (t 0)), (2, .int mi)]) hx hb dd_X4_bargains_21 hl (k := 0) rfl ez10.symm (by decide) rfl (fun ls hl => ?_)
    refine lv_goto (tgt := 2) hx hb dd_X4_bargains_24 (by decide) ?_
    have hI11 : 0 ≤ z10.toInt ∧ z10.toInt ≤ mi.toInt + 1 := ⟨by omega, by omega⟩
    have hm12 : (mi.toInt + 1 - z10.toInt).toNat < (mi.toInt + 1 - i1.toInt).toNat := by omega
    exact ih3 z10 H locs ls hI11 hm12 (lv_sub hl [0, 1, 2, 3] rfl) hP hD hS
set_option maxHeartbeats 4000000 in
set_option maxRecDepth 100000 in
theorem c_fewestPaid (l : Launch) (D : va_G) (cy : Nat → ClassId) (q : Nat → Nat) (t : Nat → Nat) (su : Int32) (hsu : 1 ≤ su.toInt ∧ su.toInt ≤ 9999) : HC l my_X4_fewestPaid mb_X4_fewestPaid 5 ((some .int)) (rmD 1 0 0) D (TY cy) [.ref (q 0), .ref (t 0), .int su] NX [(q 0, .inr (4, fPicks q)), (q 1, .inl (cy 0, 10000, .inl (fun _ => 0))), (t 0, .inr (10, fThings t))] (QI (S := Unit) D (fun r _ => r = (-1)) (fun _ => [])) := by
  refine hc_intro (by decide) (Nat.le_of_ble_eq_true rfl) (fun p e s m below meth c A ls Sx hr hlocks hin hl hP hD hK hS hA hX => ?_)
  have hx := Sx.1
  have hb := Sx.2.1
  have hl : lv_has ls 5 [(0, .ref (q 0)), (1, .ref (t 0)), (2, .int su)] := hl
  have hP : va_P D cls [(q 0, .inr (4, fPicks q)), (q 1, .inl (cy 0, 10000, .inl (fun _ => 0))), (t 0, .inr (10, fThings t))] s.heap := hP
  have hD : va_D A [(q 0, .inr (4, fPicks q)), (q 1, .inl (cy 0, 10000, .inl (fun _ => 0))), (t 0, .inr (10, fThings t))] := hD
  refine lv_aload_n hx hb dd_X4_fewestPaid_0 rfl (lv_at hl 0 rfl) ?_
  refine wk_get (v := .ref (q 1)) Sx ef_4 hK hP 0 rfl rfl 0 (by decide) kk_356 rfl dd_X4_fewestPaid_1 ?_
  refine lv_iconst (v := 0) hx hb dd_X4_fewestPaid_4 (by decide) ?_
  refine lv_iconst (v := 0) hx hb dd_X4_fewestPaid_5 (by decide) ?_
  refine wk_iast (ws' := [(q 0, .inr (4, fPicks q)), (q 1, .inl (cy 0, 10000, .inl (fun _ => 0))), (t 0, .inr (10, fThings t))]) Sx hK hP hD hS 1 0 rfl rfl (vi_of (by decide)) dd_X4_fewestPaid_6 (by rw [upd_c]; rfl) (fun H locs hP hD hS => ?_)
  refine lv_iconst (v := 1) hx hb dd_X4_fewestPaid_7 (by decide) ?_
  refine lv_istore_n (lv' := [(3, .int 1), (0, .ref (q 0)), (1, .ref (t 0)), (2, .int su)]) hx hb dd_X4_fewestPaid_8 rfl hl (by decide) rfl (fun ls hl => ?_)
  have hlz3 : Int32.toInt 1 = 1 := rfl
  have hI6 : 1 ≤ (1 : Int32).toInt ∧ (1 : Int32).toInt ≤ su.toInt + 1 ∧ (∀ j : Nat, 1 ≤ (j : Int) → (j : Int) < (1 : Int32).toInt → (((fun _ => 0)) : Nat → Int32) j = (-1)) := ⟨by omega, by omega, fun j h1 h2 => absurd h2 (by omega)⟩
  refine gl1 9 5 (fun (u : Int32 × (Nat → Int32)) => [(q 0, .inr (4, fPicks q)), (q 1, .inl (cy 0, 10000, .inl (u.2))), (t 0, .inr (10, fThings t))]) (fun (u : Int32 × (Nat → Int32)) => [(3, .int u.1), (0, .ref (q 0)), (1, .ref (t 0)), (2, .int su)]) (fun (u : Int32 × (Nat → Int32)) => 1 ≤ u.1.toInt ∧ u.1.toInt ≤ su.toInt + 1 ∧ (∀ j : Nat, 1 ≤ (j : Int) → (j : Int) < u.1.toInt → u.2 j = (-1))) (fun (u : Int32 × (Nat → Int32)) => (su.toInt + 1 - u.1.toInt).toNat) (fun u H locs ls hI5 hl hP hD hS ih4 => ?_) (1, (fun _ => 0)) hI6 (lv_sub hl [0, 1, 2, 3] rfl) hP hD hS
  obtain ⟨i2, f1⟩ := u
  have hl : lv_has ls 5 [(3, .int i2), (0, .ref (q 0)), (1, .ref (t 0)), (2, .int su)] := hl
  have hP : va_P D cls [(q 0, .inr (4, fPicks q)), (q 1, .inl (cy 0, 10000, .inl (f1))), (t 0, .inr (10, fThings t))] H := hP
  have hD : va_D A [(q 0, .inr (4, fPicks q)), (q 1, .inl (cy 0, 10000, .inl (f1))), (t 0, .inr (10, fThings t))] := hD
  have hI5 : 1 ≤ i2.toInt ∧ i2.toInt ≤ su.toInt + 1 ∧ (∀ j : Nat, 1 ≤ (j : Int) → (j : Int) < i2.toInt → f1 j = (-1)) := hI5
  obtain ⟨iv7, iv8, iv9⟩ := hI5
  refine lv_iload_n hx hb dd_X4_fewestPaid_9 rfl (lv_at hl 0 rfl) ?_
  refine lv_iload_n hx hb dd_X4_fewestPaid_10 rfl (lv_at hl 3 rfl) ?_
  refine lv_icmp_gt (tgt := 27) hx hb dd_X4_fewestPaid_11 (by decide) (fun c10 => ?_) (fun c10 => ?_)
  · have fc10 := ci_lt (a := su.toInt) (b := i2.toInt) rfl rfl c10
    refine lv_iconst (v := 0) hx hb dd_X4_fewestPaid_27 (by decide) ?_
    refine lv_istore_n (lv' := [(3, .int 0), (0, .ref (q 0)), (1, .ref (t 0)), (2, .int su)]) hx hb dd_X4_fewestPaid_28 rfl hl (by decide) rfl (fun ls hl => ?_)
    refine lv_iconst (v := 0) hx hb dd_X4_fewestPaid_29 (by decide) ?_
    refine lv_istore (lv' := [(4, .int 0), (3, .int 0), (0, .ref (q 0)), (1, .ref (t 0)), (2, .int su)]) hx hb dd_X4_fewestPaid_30 hl (by decide) rfl (fun ls hl => ?_)
    refine lv_iload hx hb dd_X4_fewestPaid_32 (lv_at hl 0 rfl) ?_
    refine lv_aload_n hx hb dd_X4_fewestPaid_34 rfl (lv_at hl 3 rfl) ?_
    refine wk_get (v := .int 0) Sx ef_10 hK hP 2 rfl rfl 6 (by decide) kk_87 rfl dd_X4_fewestPaid_35 ?_
    refine lv_icmp_ge (tgt := 84) hx hb dd_X4_fewestPaid_38 (by decide) (fun _ => ?_) (fun c => absurd c (by decide))
    refine lv_aload_n hx hb dd_X4_fewestPaid_84 rfl (lv_at hl 2 rfl) ?_
    refine wk_get (v := .ref (q 1)) Sx ef_4 hK hP 0 rfl rfl 0 (by decide) kk_356 rfl dd_X4_fewestPaid_85 ?_
    refine lv_iload_n hx hb dd_X4_fewestPaid_88 rfl (lv_at hl 4 rfl) ?_
    have hi11 : vp_in su 10000 := (vi_of (by omega))
    refine va_iald hx hb hK hP 1 0 rfl rfl hi11 dd_X4_fewestPaid_89 ?_
    refine wk_int (v := (-1)) (inv_read iv9 su (by omega) (by omega)) ?_
    exact hc_ret Sx hr hlocks dd_X4_fewestPaid_90 hS () rfl p_nil d_nil
  · have fc10 := ci_nlt (a := su.toInt) (b := i2.toInt) rfl rfl c10
    refine lv_aload_n hx hb dd_X4_fewestPaid_14 rfl (lv_at hl 1 rfl) ?_
    refine wk_get (v := .ref (q 1)) Sx ef_4 hK hP 0 rfl rfl 0 (by decide) kk_356 rfl dd_X4_fewestPaid_15 ?_
    refine lv_iload_n hx hb dd_X4_fewestPaid_18 rfl (lv_at hl 0 rfl) ?_
    refine lv_iconst (v := (-1)) hx hb dd_X4_fewestPaid_19 (by decide) ?_
    refine wk_iast (ws' := [(q 0, .inr (4, fPicks q)), (q 1, .inl (cy 0, 10000, .inl (upd f1 i2.toNatClampNeg (-1)))), (t 0, .inr (10, fThings t))]) Sx hK hP hD hS 1 0 rfl rfl (vi_of (by omega)) dd_X4_fewestPaid_20 rfl (fun H locs hP hD hS => ?_)
    obtain ⟨z12, ez12⟩ : ∃ y : Int32, y = i2 + Int32.ofInt 1 := ⟨_, rfl⟩
    have fz12 : z12.toInt = i2.toInt + 1 := by rw [ez12]; exact ti_add rfl (show (Int32.ofInt 1).toInt = 1 by decide) (by omega) (by omega)
    refine lv_iinc (v := z12) (lv' := [(3, .int z12), (0, .ref (q 0)), (1, .ref (t 0)), (2, .int su)]) hx hb dd_X4_fewestPaid_21 hl (k := 0) rfl ez12.symm (by decide) rfl (fun ls hl => ?_)
    refine lv_goto (tgt := 9) hx hb dd_X4_fewestPaid_24 (by decide) ?_
    have hI13 : 1 ≤ z12.toInt ∧ z12.toInt ≤ su.toInt + 1 ∧ (∀ j : Nat, 1 ≤ (j : Int) → (j : Int) < z12.toInt → (((upd f1 i2.toNatClampNeg (-1))) : Nat → Int32) j = (-1)) := ⟨by omega, by omega, inv_upd (v := (-1)) iv9 i2 (by omega) (by omega)⟩
    have hm14 : (su.toInt + 1 - z12.toInt).toNat < (su.toInt + 1 - i2.toInt).toNat := by omega
    exact ih4 (z12, (upd f1 i2.toNatClampNeg (-1))) H locs ls hI13 hm14 (lv_sub hl [0, 1, 2, 3] rfl) hP hD hS
end
section
set_option maxHeartbeats 4000000 in
set_option maxRecDepth 100000 in
theorem c_refuse_2 (l : Launch) (D : va_G) (cy : Nat → ClassId) (q : Nat → Nat) : HC l my_X11_refuse mb_X11_refuse 3 ((some .int)) (rmD 2 0 0) D (TY cy) [.ref (q 0), .int (-2)] NX [(q 0, .inr (11, fX q)), (q 2, .inl (cy 0, 5, .inl (fun _ => 0)))] (QI (S := Unit) D (fun r _ => r = (-2)) (fun _ => [])) := by
  refine hc_intro (by decide) (Nat.le_of_ble_eq_true rfl) (fun p e s m below meth c A ls Sx hr hlocks hin hl hP hD hK hS hA hX => ?_)
  have hx := Sx.1
  have hb := Sx.2.1
  have hl : lv_has ls 3 [(0, .ref (q 0)), (1, .int (-2))] := hl
  have hP : va_P D cls [(q 0, .inr (11, fX q)), (q 2, .inl (cy 0, 5, .inl (fun _ => 0)))] s.heap := hP
  have hD : va_D A [(q 0, .inr (11, fX q)), (q 2, .inl (cy 0, 5, .inl (fun _ => 0)))] := hD
  refine lv_bipush (v := (-2)) hx hb dd_X11_refuse_0 (by decide) ?_
  refine lv_iload_n hx hb dd_X11_refuse_2 rfl (lv_at hl 1 rfl) ?_
  refine lv_isub hx hb dd_X11_refuse_3 ?_
  refine wk_int (v := 0) (by decide) ?_
  refine lv_istore_n (lv' := [(2, .int 0), (0, .ref (q 0)), (1, .int (-2))]) hx hb dd_X11_refuse_4 rfl hl (by decide) rfl (fun ls hl => ?_)
  refine lv_iload_n hx hb dd_X11_refuse_5 rfl (lv_at hl 0 rfl) ?_
  refine lv_iconst (v := 0) hx hb dd_X11_refuse_6 (by decide) ?_
  refine lv_iconst (v := 4) hx hb dd_X11_refuse_7 (by decide) ?_
  refine pk_i (pc_T [.int 0, .int 0, .int 4] [] Sx hl.1 ws_X_59 md_X11_within (c_within l D cy 0 0 4) ⟨rfl, rfl⟩ ⟨Nat.le_of_ble_eq_true rfl, Nat.le_of_ble_eq_true rfl⟩ p_nil hK ns_b (ns_w hX) rfl rfl (Nat.le_of_ble_eq_true rfl) dd_X11_refuse_8 ⟨Nat.le_of_ble_eq_true rfl, Nat.le_of_ble_eq_true rfl⟩) (fun r1 hw2 => ?_)
  rcases hw2 with ⟨hw2, ehw2⟩ | ⟨hw2, ehw2⟩
  · have hl3 : Int32.toInt 0 = 0 := rfl
    have hl4 : Int32.toInt 4 = 4 := rfl
    subst ehw2
    refine lv_if_eq (tgt := 24) hx hb dd_X11_refuse_11 (by decide) (fun c => absurd c (by decide)) (fun _ => ?_)
    refine lv_aload_n hx hb dd_X11_refuse_14 rfl (lv_at hl 1 rfl) ?_
    refine wk_get (v := .ref (q 2)) Sx ef_11 hK hP 0 rfl rfl 1 (by decide) kk_383 rfl dd_X11_refuse_15 ?_
    refine lv_iload_n hx hb dd_X11_refuse_18 rfl (lv_at hl 0 rfl) ?_
    refine lv_dup2_11 hx hb dd_X11_refuse_19 rfl rfl ?_
    have hi5 : vp_in 0 5 := (vi_of (by decide))
    refine va_iald hx hb hK hP 1 0 rfl rfl hi5 dd_X11_refuse_20 ?_
    refine wk_int (v := 0) rfl ?_
    refine lv_iconst (v := 1) hx hb dd_X11_refuse_21 (by decide) ?_
    refine lv_iadd hx hb dd_X11_refuse_22 ?_
    refine wk_int (v := 1) (by decide) ?_
    refine wk_iast (ws' := [(q 0, .inr (11, fX q)), (q 2, .inl (cy 0, 5, .inl (upd (fun _ => 0) (0 : Int32).toNatClampNeg 1)))]) Sx hK hP hD hS 1 0 rfl rfl (vi_of (by decide)) dd_X11_refuse_23 rfl (fun H locs hP hD hS => ?_)
    refine lv_iload_n hx hb dd_X11_refuse_24 rfl (lv_at hl 2 rfl) ?_
    exact hc_ret Sx hr hlocks dd_X11_refuse_25 hS () rfl p_nil d_nil
  · have hl6 : Int32.toInt 0 = 0 := rfl
    have hl7 : Int32.toInt 4 = 4 := rfl
    exfalso; omega
set_option maxHeartbeats 4000000 in
set_option maxRecDepth 100000 in
theorem c_refuse_4 (l : Launch) (D : va_G) (cy : Nat → ClassId) (q : Nat → Nat) : HC l my_X11_refuse mb_X11_refuse 3 ((some .int)) (rmD 2 0 0) D (TY cy) [.ref (q 0), .int (-4)] NX [(q 0, .inr (11, fX q)), (q 2, .inl (cy 0, 5, .inl (fun _ => 0)))] (QI (S := Unit) D (fun r _ => r = (-4)) (fun _ => [])) := by
  refine hc_intro (by decide) (Nat.le_of_ble_eq_true rfl) (fun p e s m below meth c A ls Sx hr hlocks hin hl hP hD hK hS hA hX => ?_)
  have hx := Sx.1
  have hb := Sx.2.1
  have hl : lv_has ls 3 [(0, .ref (q 0)), (1, .int (-4))] := hl
  have hP : va_P D cls [(q 0, .inr (11, fX q)), (q 2, .inl (cy 0, 5, .inl (fun _ => 0)))] s.heap := hP
  have hD : va_D A [(q 0, .inr (11, fX q)), (q 2, .inl (cy 0, 5, .inl (fun _ => 0)))] := hD
  refine lv_bipush (v := (-2)) hx hb dd_X11_refuse_0 (by decide) ?_
  refine lv_iload_n hx hb dd_X11_refuse_2 rfl (lv_at hl 1 rfl) ?_
  refine lv_isub hx hb dd_X11_refuse_3 ?_
  refine wk_int (v := 2) (by decide) ?_
  refine lv_istore_n (lv' := [(2, .int 2), (0, .ref (q 0)), (1, .int (-4))]) hx hb dd_X11_refuse_4 rfl hl (by decide) rfl (fun ls hl => ?_)
  refine lv_iload_n hx hb dd_X11_refuse_5 rfl (lv_at hl 0 rfl) ?_
  refine lv_iconst (v := 0) hx hb dd_X11_refuse_6 (by decide) ?_
  refine lv_iconst (v := 4) hx hb dd_X11_refuse_7 (by decide) ?_
  refine pk_i (pc_T [.int 2, .int 0, .int 4] [] Sx hl.1 ws_X_59 md_X11_within (c_within l D cy 2 0 4) ⟨rfl, rfl⟩ ⟨Nat.le_of_ble_eq_true rfl, Nat.le_of_ble_eq_true rfl⟩ p_nil hK ns_b (ns_w hX) rfl rfl (Nat.le_of_ble_eq_true rfl) dd_X11_refuse_8 ⟨Nat.le_of_ble_eq_true rfl, Nat.le_of_ble_eq_true rfl⟩) (fun r1 hw2 => ?_)
  rcases hw2 with ⟨hw2, ehw2⟩ | ⟨hw2, ehw2⟩
  · have hl3 : Int32.toInt 0 = 0 := rfl
    have hl4 : Int32.toInt 2 = 2 := rfl
    have hl5 : Int32.toInt 4 = 4 := rfl
    subst ehw2
    refine lv_if_eq (tgt := 24) hx hb dd_X11_refuse_11 (by decide) (fun c => absurd c (by decide)) (fun _ => ?_)
    refine lv_aload_n hx hb dd_X11_refuse_14 rfl (lv_at hl 1 rfl) ?_
    refine wk_get (v := .ref (q 2)) Sx ef_11 hK hP 0 rfl rfl 1 (by decide) kk_383 rfl dd_X11_refuse_15 ?_
    refine lv_iload_n hx hb dd_X11_refuse_18 rfl (lv_at hl 0 rfl) ?_
    refine lv_dup2_11 hx hb dd_X11_refuse_19 rfl rfl ?_
    have hi6 : vp_in 2 5 := (vi_of (by decide))
    refine va_iald hx hb hK hP 1 0 rfl rfl hi6 dd_X11_refuse_20 ?_
    refine wk_int (v := 0) rfl ?_
    refine lv_iconst (v := 1) hx hb dd_X11_refuse_21 (by decide) ?_
    refine lv_iadd hx hb dd_X11_refuse_22 ?_
    refine wk_int (v := 1) (by decide) ?_
    refine wk_iast (ws' := [(q 0, .inr (11, fX q)), (q 2, .inl (cy 0, 5, .inl (upd (fun _ => 0) (2 : Int32).toNatClampNeg 1)))]) Sx hK hP hD hS 1 0 rfl rfl (vi_of (by decide)) dd_X11_refuse_23 rfl (fun H locs hP hD hS => ?_)
    refine lv_iload_n hx hb dd_X11_refuse_24 rfl (lv_at hl 2 rfl) ?_
    exact hc_ret Sx hr hlocks dd_X11_refuse_25 hS () rfl p_nil d_nil
  · have hl7 : Int32.toInt 0 = 0 := rfl
    have hl8 : Int32.toInt 2 = 2 := rfl
    have hl9 : Int32.toInt 4 = 4 := rfl
    exfalso; omega
set_option maxHeartbeats 4000000 in
set_option maxRecDepth 100000 in
theorem c_refuse_5 (l : Launch) (D : va_G) (cy : Nat → ClassId) (q : Nat → Nat) : HC l my_X11_refuse mb_X11_refuse 3 ((some .int)) (rmD 2 0 0) D (TY cy) [.ref (q 0), .int (-5)] NX [(q 0, .inr (11, fX q)), (q 2, .inl (cy 0, 5, .inl (fun _ => 0)))] (QI (S := Unit) D (fun r _ => r = (-5)) (fun _ => [])) := by
  refine hc_intro (by decide) (Nat.le_of_ble_eq_true rfl) (fun p e s m below meth c A ls Sx hr hlocks hin hl hP hD hK hS hA hX => ?_)
  have hx := Sx.1
  have hb := Sx.2.1
  have hl : lv_has ls 3 [(0, .ref (q 0)), (1, .int (-5))] := hl
  have hP : va_P D cls [(q 0, .inr (11, fX q)), (q 2, .inl (cy 0, 5, .inl (fun _ => 0)))] s.heap := hP
  have hD : va_D A [(q 0, .inr (11, fX q)), (q 2, .inl (cy 0, 5, .inl (fun _ => 0)))] := hD
  refine lv_bipush (v := (-2)) hx hb dd_X11_refuse_0 (by decide) ?_
  refine lv_iload_n hx hb dd_X11_refuse_2 rfl (lv_at hl 1 rfl) ?_
  refine lv_isub hx hb dd_X11_refuse_3 ?_
  refine wk_int (v := 3) (by decide) ?_
  refine lv_istore_n (lv' := [(2, .int 3), (0, .ref (q 0)), (1, .int (-5))]) hx hb dd_X11_refuse_4 rfl hl (by decide) rfl (fun ls hl => ?_)
  refine lv_iload_n hx hb dd_X11_refuse_5 rfl (lv_at hl 0 rfl) ?_
  refine lv_iconst (v := 0) hx hb dd_X11_refuse_6 (by decide) ?_
  refine lv_iconst (v := 4) hx hb dd_X11_refuse_7 (by decide) ?_
  refine pk_i (pc_T [.int 3, .int 0, .int 4] [] Sx hl.1 ws_X_59 md_X11_within (c_within l D cy 3 0 4) ⟨rfl, rfl⟩ ⟨Nat.le_of_ble_eq_true rfl, Nat.le_of_ble_eq_true rfl⟩ p_nil hK ns_b (ns_w hX) rfl rfl (Nat.le_of_ble_eq_true rfl) dd_X11_refuse_8 ⟨Nat.le_of_ble_eq_true rfl, Nat.le_of_ble_eq_true rfl⟩) (fun r1 hw2 => ?_)
  rcases hw2 with ⟨hw2, ehw2⟩ | ⟨hw2, ehw2⟩
  · have hl3 : Int32.toInt 0 = 0 := rfl
    have hl4 : Int32.toInt 3 = 3 := rfl
    have hl5 : Int32.toInt 4 = 4 := rfl
    subst ehw2
    refine lv_if_eq (tgt := 24) hx hb dd_X11_refuse_11 (by decide) (fun c => absurd c (by decide)) (fun _ => ?_)
    refine lv_aload_n hx hb dd_X11_refuse_14 rfl (lv_at hl 1 rfl) ?_
    refine wk_get (v := .ref (q 2)) Sx ef_11 hK hP 0 rfl rfl 1 (by decide) kk_383 rfl dd_X11_refuse_15 ?_
    refine lv_iload_n hx hb dd_X11_refuse_18 rfl (lv_at hl 0 rfl) ?_
    refine lv_dup2_11 hx hb dd_X11_refuse_19 rfl rfl ?_
    have hi6 : vp_in 3 5 := (vi_of (by decide))
    refine va_iald hx hb hK hP 1 0 rfl rfl hi6 dd_X11_refuse_20 ?_
    refine wk_int (v := 0) rfl ?_
    refine lv_iconst (v := 1) hx hb dd_X11_refuse_21 (by decide) ?_
    refine lv_iadd hx hb dd_X11_refuse_22 ?_
    refine wk_int (v := 1) (by decide) ?_
    refine wk_iast (ws' := [(q 0, .inr (11, fX q)), (q 2, .inl (cy 0, 5, .inl (upd (fun _ => 0) (3 : Int32).toNatClampNeg 1)))]) Sx hK hP hD hS 1 0 rfl rfl (vi_of (by decide)) dd_X11_refuse_23 rfl (fun H locs hP hD hS => ?_)
    refine lv_iload_n hx hb dd_X11_refuse_24 rfl (lv_at hl 2 rfl) ?_
    exact hc_ret Sx hr hlocks dd_X11_refuse_25 hS () rfl p_nil d_nil
  · have hl7 : Int32.toInt 0 = 0 := rfl
    have hl8 : Int32.toInt 3 = 3 := rfl
    have hl9 : Int32.toInt 4 = 4 := rfl
    exfalso; omega
set_option maxHeartbeats 4000000 in
set_option maxRecDepth 100000 in
theorem c_refusalOfRow (l : Launch) (D : va_G) (cy : Nat → ClassId) (q : Nat → Nat) (sf : Int32) : PC l my_X11_refusalOfRow mb_X11_refusalOfRow 2 ((some .int)) (rmD 3 0 0) D (TY cy) [.ref (q 0), .int sf] NS [(q 0, .inr (11, fX q)), (q 1, .inl (cy 4, 8, .inr (.inr (.inr (.inr (shv q)))))), (q 97, .inr (7, fShelf (fun k => q (97 + k)))), (q 98, .inl (cy 2, 40, .inr (.inl (fun _ => 0)))), (q 99, .inr (7, fShelf (fun k => q (99 + k)))), (q 100, .inl (cy 2, 40, .inr (.inl (fun _ => 0)))), (q 101, .inr (7, fShelf (fun k => q (101 + k)))), (q 102, .inl (cy 2, 40, .inr (.inl (fun _ => 0)))), (q 103, .inr (7, fShelf (fun k => q (103 + k)))), (q 104, .inl (cy 2, 40, .inr (.inl (fun _ => 0)))), (q 105, .inr (7, fShelf (fun k => q (105 + k)))), (q 106, .inl (cy 2, 40, .inr (.inl (fun _ => 0)))), (q 107, .inr (7, fShelf (fun k => q (107 + k)))), (q 108, .inl (cy 2, 40, .inr (.inl (fun _ => 0)))), (q 109, .inr (7, fShelf (fun k => q (109 + k)))), (q 110, .inl (cy 2, 40, .inr (.inl (fun _ => 0)))), (q 111, .inr (7, fShelf (fun k => q (111 + k)))), (q 112, .inl (cy 2, 40, .inr (.inl (fun _ => 0))))] (vp_Si (fun r => if2 (0 ≤ sf.toInt ∧ sf.toInt ≤ 7) (-4) (-2) r)) := by
  refine pc_intro (by decide) (Nat.le_of_ble_eq_true rfl) (fun p e s m below meth c ls Sx hr hlocks hl hP hK hX => ?_)
  have hx := Sx.1
  have hb := Sx.2.1
  have hl : lv_has ls 2 [(0, .ref (q 0)), (1, .int sf)] := hl
  refine lv_iload_n hx hb dd_X11_refusalOfRow_0 rfl (lv_at hl 1 rfl) ?_
  refine pk_i (pc_T [.int sf] [] Sx hl.1 ws_X_55 md_X11_isShelf (c_isShelf l D cy sf) ⟨rfl, rfl⟩ ⟨Nat.le_of_ble_eq_true rfl, Nat.le_of_ble_eq_true rfl⟩ p_nil hK ns_b (ns_w hX) rfl rfl (Nat.le_of_ble_eq_true rfl) dd_X11_refusalOfRow_1 ⟨Nat.le_of_ble_eq_true rfl, Nat.le_of_ble_eq_true rfl⟩) (fun r1 hw2 => ?_)
  rcases hw2 with ⟨hw2, ehw2⟩ | ⟨hw2, ehw2⟩
  · subst ehw2
    refine lv_if_ne (tgt := 10) hx hb dd_X11_refusalOfRow_4 (by decide) (fun _ => ?_) (fun c => absurd c (by decide))
    refine lv_aload_n hx hb dd_X11_refusalOfRow_10 rfl (lv_at hl 0 rfl) ?_
    refine wk_get (v := .ref (q 1)) Sx ef_11 hK hP 0 rfl rfl 0 (by decide) kk_382 rfl dd_X11_refusalOfRow_11 ?_
    refine lv_iload_n hx hb dd_X11_refusalOfRow_14 rfl (lv_at hl 1 rfl) ?_
    have hi3 : vp_in sf 8 := (vi_of (by omega))
    refine va_aldq hx hb hK hP 1 4 rfl rfl hi3 dd_X11_refusalOfRow_15 ?_
    obtain ⟨j4, hjj4, ejj4⟩ : ∃ y, y < 8 ∧ sf.toNatClampNeg = y := ⟨_, vi_lt hi3, rfl⟩
    have hpj4 := sh_p (cy := cy) (q := q) (hP.sub [2, 3, 4, 5, 6, 7, 8, 9, 10, 11, 12, 13, 14, 15, 16, 17] rfl) j4 hjj4
    refine wk_val (v := .ref (q (97 + 2 * j4))) (by rw [ejj4, shv_at _ _ hjj4]; rfl) ?_
    refine pk_i (pc_V [] [] Sx hl.1 ws_X_82 md_X7_hasThing (c_Shelf_hasThing l D cy (fun k => q (97 + 2 * j4 + k))) ⟨rfl, rfl⟩ ⟨Nat.le_of_ble_eq_true rfl, Nat.le_of_ble_eq_true rfl⟩ (hpj4.sub [0] rfl) hK ns_b (ns_w hX) (va_recv hK hpj4 (ci := 7) (q0 := 0) rfl rfl) rfl rfl (Nat.le_of_ble_eq_true rfl) dd_X11_refusalOfRow_16 ⟨Nat.le_of_ble_eq_true rfl, Nat.le_of_ble_eq_true rfl⟩) (fun r5 hw6 => ?_)
    subst hw6
    refine lv_if_eq (tgt := 25) hx hb dd_X11_refusalOfRow_19 (by decide) (fun _ => ?_) (fun c => absurd c (by decide))
    refine lv_aload_n hx hb dd_X11_refusalOfRow_25 rfl (lv_at hl 0 rfl) ?_
    refine wk_get (v := .ref (q 1)) Sx ef_11 hK hP 0 rfl rfl 0 (by decide) kk_382 rfl dd_X11_refusalOfRow_26 ?_
    refine lv_iload_n hx hb dd_X11_refusalOfRow_29 rfl (lv_at hl 1 rfl) ?_
    have hi7 : vp_in sf 8 := (vi_of (by omega))
    refine va_aldq hx hb hK hP 1 4 rfl rfl hi7 dd_X11_refusalOfRow_30 ?_
    obtain ⟨j8, hjj8, ejj8⟩ : ∃ y, y < 8 ∧ sf.toNatClampNeg = y := ⟨_, vi_lt hi7, rfl⟩
    have hpj8 := sh_p (cy := cy) (q := q) (hP.sub [2, 3, 4, 5, 6, 7, 8, 9, 10, 11, 12, 13, 14, 15, 16, 17] rfl) j8 hjj8
    refine wk_val (v := .ref (q (97 + 2 * j8))) (by rw [ejj8, shv_at _ _ hjj8]; rfl) ?_
    refine pk_i (pc_V [] [] Sx hl.1 ws_X_92 md_X7_isEmpty (c_Shelf_isEmpty l D cy (fun k => q (97 + 2 * j8 + k))) ⟨rfl, rfl⟩ ⟨Nat.le_of_ble_eq_true rfl, Nat.le_of_ble_eq_true rfl⟩ (hpj8.sub [0] rfl) hK ns_b (ns_w hX) (va_recv hK hpj8 (ci := 7) (q0 := 0) rfl rfl) rfl rfl (Nat.le_of_ble_eq_true rfl) dd_X11_refusalOfRow_31 ⟨Nat.le_of_ble_eq_true rfl, Nat.le_of_ble_eq_true rfl⟩) (fun r9 hw10 => ?_)
    subst hw10
    refine lv_if_eq (tgt := 42) hx hb dd_X11_refusalOfRow_34 (by decide) (fun c => absurd c (by decide)) (fun _ => ?_)
    refine lv_bipush (v := (-4)) hx hb dd_X11_refusalOfRow_37 (by decide) ?_
    refine lv_goto (tgt := 43) hx hb dd_X11_refusalOfRow_39 (by decide) ?_
    exact pc_ret Sx hr hlocks rfl dd_X11_refusalOfRow_43 (Or.inl ⟨by omega, rfl⟩)
  · subst ehw2
    refine lv_if_ne (tgt := 10) hx hb dd_X11_refusalOfRow_4 (by decide) (fun c => absurd c (by decide)) (fun _ => ?_)
    refine lv_bipush (v := (-2)) hx hb dd_X11_refusalOfRow_7 (by decide) ?_
    exact pc_ret Sx hr hlocks rfl dd_X11_refusalOfRow_9 (Or.inr ⟨by omega, rfl⟩)
set_option maxHeartbeats 4000000 in
set_option maxRecDepth 100000 in
theorem c_shelvesInUse (l : Launch) (D : va_G) (cy : Nat → ClassId) (q : Nat → Nat) : PC l my_X11_shelvesInUse mb_X11_shelvesInUse 3 ((some .int)) (rmD 2 0 0) D (TY cy) [.ref (q 0)] NS [(q 0, .inr (11, fX q)), (q 1, .inl (cy 4, 8, .inr (.inr (.inr (.inr (shv q)))))), (q 97, .inr (7, fShelf (fun k => q (97 + k)))), (q 98, .inl (cy 2, 40, .inr (.inl (fun _ => 0)))), (q 99, .inr (7, fShelf (fun k => q (99 + k)))), (q 100, .inl (cy 2, 40, .inr (.inl (fun _ => 0)))), (q 101, .inr (7, fShelf (fun k => q (101 + k)))), (q 102, .inl (cy 2, 40, .inr (.inl (fun _ => 0)))), (q 103, .inr (7, fShelf (fun k => q (103 + k)))), (q 104, .inl (cy 2, 40, .inr (.inl (fun _ => 0)))), (q 105, .inr (7, fShelf (fun k => q (105 + k)))), (q 106, .inl (cy 2, 40, .inr (.inl (fun _ => 0)))), (q 107, .inr (7, fShelf (fun k => q (107 + k)))), (q 108, .inl (cy 2, 40, .inr (.inl (fun _ => 0)))), (q 109, .inr (7, fShelf (fun k => q (109 + k)))), (q 110, .inl (cy 2, 40, .inr (.inl (fun _ => 0)))), (q 111, .inr (7, fShelf (fun k => q (111 + k)))), (q 112, .inl (cy 2, 40, .inr (.inl (fun _ => 0))))] (vp_Si (fun r => r = 0)) := by
  refine pc_intro (by decide) (Nat.le_of_ble_eq_true rfl) (fun p e s m below meth c ls Sx hr hlocks hl hP hK hX => ?_)
  have hx := Sx.1
  have hb := Sx.2.1
  have hl : lv_has ls 3 [(0, .ref (q 0))] := hl
  refine lv_iconst (v := 0) hx hb dd_X11_shelvesInUse_0 (by decide) ?_
  refine lv_istore_n (lv' := [(1, .int 0), (0, .ref (q 0))]) hx hb dd_X11_shelvesInUse_1 rfl hl (by decide) rfl (fun ls hl => ?_)
  refine lv_iconst (v := 0) hx hb dd_X11_shelvesInUse_2 (by decide) ?_
  refine lv_istore_n (lv' := [(2, .int 0), (1, .int 0), (0, .ref (q 0))]) hx hb dd_X11_shelvesInUse_3 rfl hl (by decide) rfl (fun ls hl => ?_)
  refine lv_iload_n hx hb dd_X11_shelvesInUse_4 rfl (lv_at hl 0 rfl) ?_
  refine lv_bipush (v := 8) hx hb dd_X11_shelvesInUse_5 (by decide) ?_
  refine lv_icmp_ge (tgt := 31) hx hb dd_X11_shelvesInUse_7 (by decide) (fun c => absurd c (by decide)) (fun _ => ?_)
  refine lv_aload_n hx hb dd_X11_shelvesInUse_10 rfl (lv_at hl 2 rfl) ?_
  refine wk_get (v := .ref (q 1)) Sx ef_11 hK hP 0 rfl rfl 0 (by decide) kk_382 rfl dd_X11_shelvesInUse_11 ?_
  refine lv_iload_n hx hb dd_X11_shelvesInUse_14 rfl (lv_at hl 0 rfl) ?_
  have hi1 : vp_in 0 8 := (vi_of (by decide))
  refine va_aldq hx hb hK hP 1 4 rfl rfl hi1 dd_X11_shelvesInUse_15 ?_
  refine wk_val (v := .ref (q 97)) rfl ?_
  refine pk_i (pc_V [] [] Sx hl.1 ws_X_92 md_X7_isEmpty (c_Shelf_isEmpty l D cy (fun k => q (97 + k))) ⟨rfl, rfl⟩ ⟨Nat.le_of_ble_eq_true rfl, Nat.le_of_ble_eq_true rfl⟩ (hP.sub [2] rfl) hK ns_b (ns_w hX) (va_recv hK hP (ci := 7) (q0 := 2) rfl rfl) rfl rfl (Nat.le_of_ble_eq_true rfl) dd_X11_shelvesInUse_16 ⟨Nat.le_of_ble_eq_true rfl, Nat.le_of_ble_eq_true rfl⟩) (fun r2 hw3 => ?_)
  subst hw3
  refine lv_if_ne (tgt := 25) hx hb dd_X11_shelvesInUse_19 (by decide) (fun _ => ?_) (fun c => absurd c (by decide))
  refine lv_iinc (v := 1) (lv' := [(2, .int 1), (1, .int 0), (0, .ref (q 0))]) hx hb dd_X11_shelvesInUse_25 hl (k := 0) rfl (by decide) (by decide) rfl (fun ls hl => ?_)
  refine lv_goto (tgt := 4) hx hb dd_X11_shelvesInUse_28 (by decide) ?_
  refine lv_iload_n hx hb dd_X11_shelvesInUse_4 rfl (lv_at hl 0 rfl) ?_
  refine lv_bipush (v := 8) hx hb dd_X11_shelvesInUse_5 (by decide) ?_
  refine lv_icmp_ge (tgt := 31) hx hb dd_X11_shelvesInUse_7 (by decide) (fun c => absurd c (by decide)) (fun _ => ?_)
  refine lv_aload_n hx hb dd_X11_shelvesInUse_10 rfl (lv_at hl 2 rfl) ?_
  refine wk_get (v := .ref (q 1)) Sx ef_11 hK hP 0 rfl rfl 0 (by decide) kk_382 rfl dd_X11_shelvesInUse_11 ?_
  refine lv_iload_n hx hb dd_X11_shelvesInUse_14 rfl (lv_at hl 0 rfl) ?_
  have hi4 : vp_in 1 8 := (vi_of (by decide))
  refine va_aldq hx hb hK hP 1 4 rfl rfl hi4 dd_X11_shelvesInUse_15 ?_
  refine wk_val (v := .ref (q 99)) rfl ?_
  refine pk_i (pc_V [] [] Sx hl.1 ws_X_92 md_X7_isEmpty (c_Shelf_isEmpty l D cy (fun k => q (99 + k))) ⟨rfl, rfl⟩ ⟨Nat.le_of_ble_eq_true rfl, Nat.le_of_ble_eq_true rfl⟩ (hP.sub [4] rfl) hK ns_b (ns_w hX) (va_recv hK hP (ci := 7) (q0 := 4) rfl rfl) rfl rfl (Nat.le_of_ble_eq_true rfl) dd_X11_shelvesInUse_16 ⟨Nat.le_of_ble_eq_true rfl, Nat.le_of_ble_eq_true rfl⟩) (fun r5 hw6 => ?_)
  subst hw6
  refine lv_if_ne (tgt := 25) hx hb dd_X11_shelvesInUse_19 (by decide) (fun _ => ?_) (fun c => absurd c (by decide))
  refine lv_iinc (v := 2) (lv' := [(2, .int 2), (1, .int 0), (0, .ref (q 0))]) hx hb dd_X11_shelvesInUse_25 hl (k := 0) rfl (by decide) (by decide) rfl (fun ls hl => ?_)
  refine lv_goto (tgt := 4) hx hb dd_X11_shelvesInUse_28 (by decide) ?_
  refine lv_iload_n hx hb dd_X11_shelvesInUse_4 rfl (lv_at hl 0 rfl) ?_
  refine lv_bipush (v := 8) hx hb dd_X11_shelvesInUse_5 (by decide) ?_
  refine lv_icmp_ge (tgt := 31) hx hb dd_X11_shelvesInUse_7 (by decide) (fun c => absurd c (by decide)) (fun _ => ?_)
  refine lv_aload_n hx hb dd_X11_shelvesInUse_10 rfl (lv_at hl 2 rfl) ?_
  refine wk_get (v := .ref (q 1)) Sx ef_11 hK hP 0 rfl rfl 0 (by decide) kk_382 rfl dd_X11_shelvesInUse_11 ?_
  refine lv_iload_n hx hb dd_X11_shelvesInUse_14 rfl (lv_at hl 0 rfl) ?_
  have hi7 : vp_in 2 8 := (vi_of (by decide))
  refine va_aldq hx hb hK hP 1 4 rfl rfl hi7 dd_X11_shelvesInUse_15 ?_
  refine wk_val (v := .ref (q 101)) rfl ?_
  refine pk_i (pc_V [] [] Sx hl.1 ws_X_92 md_X7_isEmpty (c_Shelf_isEmpty l D cy (fun k => q (101 + k))) ⟨rfl, rfl⟩ ⟨Nat.le_of_ble_eq_true rfl, Nat.le_of_ble_eq_true rfl⟩ (hP.sub [6] rfl) hK ns_b (ns_w hX) (va_recv hK hP (ci := 7) (q0 := 6) rfl rfl) rfl rfl (Nat.le_of_ble_eq_true rfl) dd_X11_shelvesInUse_16 ⟨Nat.le_of_ble_eq_true rfl, Nat.le_of_ble_eq_true rfl⟩) (fun r8 hw9 => ?_)
  subst hw9
  refine lv_if_ne (tgt := 25) hx hb dd_X11_shelvesInUse_19 (by decide) (fun _ => ?_) (fun c => absurd c (by decide))
  refine lv_iinc (v := 3) (lv' := [(2, .int 3), (1, .int 0), (0, .ref (q 0))]) hx hb dd_X11_shelvesInUse_25 hl (k := 0) rfl (by decide) (by decide) rfl (fun ls hl => ?_)
  refine lv_goto (tgt := 4) hx hb dd_X11_shelvesInUse_28 (by decide) ?_
  refine lv_iload_n hx hb dd_X11_shelvesInUse_4 rfl (lv_at hl 0 rfl) ?_
  refine lv_bipush (v := 8) hx hb dd_X11_shelvesInUse_5 (by decide) ?_
  refine lv_icmp_ge (tgt := 31) hx hb dd_X11_shelvesInUse_7 (by decide) (fun c => absurd c (by decide)) (fun _ => ?_)
  refine lv_aload_n hx hb dd_X11_shelvesInUse_10 rfl (lv_at hl 2 rfl) ?_
  refine wk_get (v := .ref (q 1)) Sx ef_11 hK hP 0 rfl rfl 0 (by decide) kk_382 rfl dd_X11_shelvesInUse_11 ?_
  refine lv_iload_n hx hb dd_X11_shelvesInUse_14 rfl (lv_at hl 0 rfl) ?_
  have hi10 : vp_in 3 8 := (vi_of (by decide))
  refine va_aldq hx hb hK hP 1 4 rfl rfl hi10 dd_X11_shelvesInUse_15 ?_
  refine wk_val (v := .ref (q 103)) rfl ?_
  refine pk_i (pc_V [] [] Sx hl.1 ws_X_92 md_X7_isEmpty (c_Shelf_isEmpty l D cy (fun k => q (103 + k))) ⟨rfl, rfl⟩ ⟨Nat.le_of_ble_eq_true rfl, Nat.le_of_ble_eq_true rfl⟩ (hP.sub [8] rfl) hK ns_b (ns_w hX) (va_recv hK hP (ci := 7) (q0 := 8) rfl rfl) rfl rfl (Nat.le_of_ble_eq_true rfl) dd_X11_shelvesInUse_16 ⟨Nat.le_of_ble_eq_true rfl, Nat.le_of_ble_eq_true rfl⟩) (fun r11 hw12 => ?_)
  subst hw12
  refine lv_if_ne (tgt := 25) hx hb dd_X11_shelvesInUse_19 (by decide) (fun _ => ?_) (fun c => absurd c (by decide))
  refine lv_iinc (v := 4) (lv' := [(2, .int 4), (1, .int 0), (0, .ref (q 0))]) hx hb dd_X11_shelvesInUse_25 hl (k := 0) rfl (by decide) (by decide) rfl (fun ls hl => ?_)
  refine lv_goto (tgt := 4) hx hb dd_X11_shelvesInUse_28 (by decide) ?_
  refine lv_iload_n hx hb dd_X11_shelvesInUse_4 rfl (lv_at hl 0 rfl) ?_
  refine lv_bipush (v := 8) hx hb dd_X11_shelvesInUse_5 (by decide) ?_
  refine lv_icmp_ge (tgt := 31) hx hb dd_X11_shelvesInUse_7 (by decide) (fun c => absurd c (by decide)) (fun _ => ?_)
  refine lv_aload_n hx hb dd_X11_shelvesInUse_10 rfl (lv_at hl 2 rfl) ?_
  refine wk_get (v := .ref (q 1)) Sx ef_11 hK hP 0 rfl rfl 0 (by decide) kk_382 rfl dd_X11_shelvesInUse_11 ?_
  refine lv_iload_n hx hb dd_X11_shelvesInUse_14 rfl (lv_at hl 0 rfl) ?_
  have hi13 : vp_in 4 8 := (vi_of (by decide))
  refine va_aldq hx hb hK hP 1 4 rfl rfl hi13 dd_X11_shelvesInUse_15 ?_
  refine wk_val (v := .ref (q 105)) rfl ?_
  refine pk_i (pc_V [] [] Sx hl.1 ws_X_92 md_X7_isEmpty (c_Shelf_isEmpty l D cy (fun k => q (105 + k))) ⟨rfl, rfl⟩ ⟨Nat.le_of_ble_eq_true rfl, Nat.le_of_ble_eq_true rfl⟩ (hP.sub [10] rfl) hK ns_b (ns_w hX) (va_recv hK hP (ci := 7) (q0 := 10) rfl rfl) rfl rfl (Nat.le_of_ble_eq_true rfl) dd_X11_shelvesInUse_16 ⟨Nat.le_of_ble_eq_true rfl, Nat.le_of_ble_eq_true rfl⟩) (fun r14 hw15 => ?_)
  subst hw15
  refine lv_if_ne (tgt := 25) hx hb dd_X11_shelvesInUse_19 (by decide) (fun _ => ?_) (fun c => absurd c (by decide))
  refine lv_iinc (v := 5) (lv' := [(2, .int 5), (1, .int 0), (0, .ref (q 0))]) hx hb dd_X11_shelvesInUse_25 hl (k := 0) rfl (by decide) (by decide) rfl (fun ls hl => ?_)
  refine lv_goto (tgt := 4) hx hb dd_X11_shelvesInUse_28 (by decide) ?_
  refine lv_iload_n hx hb dd_X11_shelvesInUse_4 rfl (lv_at hl 0 rfl) ?_
  refine lv_bipush (v := 8) hx hb dd_X11_shelvesInUse_5 (by decide) ?_
  refine lv_icmp_ge (tgt := 31) hx hb dd_X11_shelvesInUse_7 (by decide) (fun c => absurd c (by decide)) (fun _ => ?_)
  refine lv_aload_n hx hb dd_X11_shelvesInUse_10 rfl (lv_at hl 2 rfl) ?_
  refine wk_get (v := .ref (q 1)) Sx ef_11 hK hP 0 rfl rfl 0 (by decide) kk_382 rfl dd_X11_shelvesInUse_11 ?_
  refine lv_iload_n hx hb dd_X11_shelvesInUse_14 rfl (lv_at hl 0 rfl) ?_
  have hi16 : vp_in 5 8 := (vi_of (by decide))
  refine va_aldq hx hb hK hP 1 4 rfl rfl hi16 dd_X11_shelvesInUse_15 ?_
  refine wk_val (v := .ref (q 107)) rfl ?_
  refine pk_i (pc_V [] [] Sx hl.1 ws_X_92 md_X7_isEmpty (c_Shelf_isEmpty l D cy (fun k => q (107 + k))) ⟨rfl, rfl⟩ ⟨Nat.le_of_ble_eq_true rfl, Nat.le_of_ble_eq_true rfl⟩ (hP.sub [12] rfl) hK ns_b (ns_w hX) (va_recv hK hP (ci := 7) (q0 := 12) rfl rfl) rfl rfl (Nat.le_of_ble_eq_true rfl) dd_X11_shelvesInUse_16 ⟨Nat.le_of_ble_eq_true rfl, Nat.le_of_ble_eq_true rfl⟩) (fun r17 hw18 => ?_)
  subst hw18
  refine lv_if_ne (tgt := 25) hx hb dd_X11_shelvesInUse_19 (by decide) (fun _ => ?_) (fun c => absurd c (by decide))
  refine lv_iinc (v := 6) (lv' := [(2, .int 6), (1, .int 0), (0, .ref (q 0))]) hx hb dd_X11_shelvesInUse_25 hl (k := 0) rfl (by decide) (by decide) rfl (fun ls hl => ?_)
  refine lv_goto (tgt := 4) hx hb dd_X11_shelvesInUse_28 (by decide) ?_
  refine lv_iload_n hx hb dd_X11_shelvesInUse_4 rfl (lv_at hl 0 rfl) ?_
  refine lv_bipush (v := 8) hx hb dd_X11_shelvesInUse_5 (by decide) ?_
  refine lv_icmp_ge (tgt := 31) hx hb dd_X11_shelvesInUse_7 (by decide) (fun c => absurd c (by decide)) (fun _ => ?_)
  refine lv_aload_n hx hb dd_X11_shelvesInUse_10 rfl (lv_at hl 2 rfl) ?_
  refine wk_get (v := .ref (q 1)) Sx ef_11 hK hP 0 rfl rfl 0 (by decide) kk_382 rfl dd_X11_shelvesInUse_11 ?_
  refine lv_iload_n hx hb dd_X11_shelvesInUse_14 rfl (lv_at hl 0 rfl) ?_
  have hi19 : vp_in 6 8 := (vi_of (by decide))
  refine va_aldq hx hb hK hP 1 4 rfl rfl hi19 dd_X11_shelvesInUse_15 ?_
  refine wk_val (v := .ref (q 109)) rfl ?_
  refine pk_i (pc_V [] [] Sx hl.1 ws_X_92 md_X7_isEmpty (c_Shelf_isEmpty l D cy (fun k => q (109 + k))) ⟨rfl, rfl⟩ ⟨Nat.le_of_ble_eq_true rfl, Nat.le_of_ble_eq_true rfl⟩ (hP.sub [14] rfl) hK ns_b (ns_w hX) (va_recv hK hP (ci := 7) (q0 := 14) rfl rfl) rfl rfl (Nat.le_of_ble_eq_true rfl) dd_X11_shelvesInUse_16 ⟨Nat.le_of_ble_eq_true rfl, Nat.le_of_ble_eq_true rfl⟩) (fun r20 hw21 => ?_)
  subst hw21
  refine lv_if_ne (tgt := 25) hx hb dd_X11_shelvesInUse_19 (by decide) (fun _ => ?_) (fun c => absurd c (by decide))
  refine lv_iinc (v := 7) (lv' := [(2, .int 7), (1, .int 0), (0, .ref (q 0))]) hx hb dd_X11_shelvesInUse_25 hl (k := 0) rfl (by decide) (by decide) rfl (fun ls hl => ?_)
  refine lv_goto (tgt := 4) hx hb dd_X11_shelvesInUse_28 (by decide) ?_
  refine lv_iload_n hx hb dd_X11_shelvesInUse_4 rfl (lv_at hl 0 rfl) ?_
  refine lv_bipush (v := 8) hx hb dd_X11_shelvesInUse_5 (by decide) ?_
  refine lv_icmp_ge (tgt := 31) hx hb dd_X11_shelvesInUse_7 (by decide) (fun c => absurd c (by decide)) (fun _ => ?_)
  refine lv_aload_n hx hb dd_X11_shelvesInUse_10 rfl (lv_at hl 2 rfl) ?_
  refine wk_get (v := .ref (q 1)) Sx ef_11 hK hP 0 rfl rfl 0 (by decide) kk_382 rfl dd_X11_shelvesInUse_11 ?_
  refine lv_iload_n hx hb dd_X11_shelvesInUse_14 rfl (lv_at hl 0 rfl) ?_
  have hi22 : vp_in 7 8 := (vi_of (by decide))
  refine va_aldq hx hb hK hP 1 4 rfl rfl hi22 dd_X11_shelvesInUse_15 ?_
  refine wk_val (v := .ref (q 111)) rfl ?_
  refine pk_i (pc_V [] [] Sx hl.1 ws_X_92 md_X7_isEmpty (c_Shelf_isEmpty l D cy (fun k => q (111 + k))) ⟨rfl, rfl⟩ ⟨Nat.le_of_ble_eq_true rfl, Nat.le_of_ble_eq_true rfl⟩ (hP.sub [16] rfl) hK ns_b (ns_w hX) (va_recv hK hP (ci := 7) (q0 := 16) rfl rfl) rfl rfl (Nat.le_of_ble_eq_true rfl) dd_X11_shelvesInUse_16 ⟨Nat.le_of_ble_eq_true rfl, Nat.le_of_ble_eq_true rfl⟩) (fun r23 hw24 => ?_)
  subst hw24
  refine lv_if_ne (tgt := 25) hx hb dd_X11_shelvesInUse_19 (by decide) (fun _ => ?_) (fun c => absurd c (by decide))
  refine lv_iinc (v := 8) (lv' := [(2, .int 8), (1, .int 0), (0, .ref (q 0))]) hx hb dd_X11_shelvesInUse_25 hl (k := 0) rfl (by decide) (by decide) rfl (fun ls hl => ?_)
  refine lv_goto (tgt := 4) hx hb dd_X11_shelvesInUse_28 (by decide) ?_
  refine lv_iload_n hx hb dd_X11_shelvesInUse_4 rfl (lv_at hl 0 rfl) ?_
  refine lv_bipush (v := 8) hx hb dd_X11_shelvesInUse_5 (by decide) ?_
  refine lv_icmp_ge (tgt := 31) hx hb dd_X11_shelvesInUse_7 (by decide) (fun _ => ?_) (fun c => absurd c (by decide))
  refine lv_iload_n hx hb dd_X11_shelvesInUse_31 rfl (lv_at hl 1 rfl) ?_
  exact pc_ret Sx hr hlocks rfl dd_X11_shelvesInUse_32 rfl
set_option maxHeartbeats 4000000 in
set_option maxRecDepth 100000 in
theorem c_X_row (l : Launch) (D : va_G) (cy : Nat → ClassId) (q : Nat → Nat) (sf : Int32) (so : Int32) (nn : Int32) : HC l my_X11_row mb_X11_row 4 ((some .int)) (rmD 3 0 0) D (TY cy) [.ref (q 0), .int sf, .int so, .int nn] NX [(q 0, .inr (11, fX q)), (q 1, .inl (cy 4, 8, .inr (.inr (.inr (.inr (shv q)))))), (q 2, .inl (cy 0, 5, .inl (fun _ => 0))), (q 97, .inr (7, fShelf (fun k => q (97 + k)))), (q 98, .inl (cy 2, 40, .inr (.inl (fun _ => 0)))), (q 99, .inr (7, fShelf (fun k => q (99 + k)))), (q 100, .inl (cy 2, 40, .inr (.inl (fun _ => 0)))), (q 101, .inr (7, fShelf (fun k => q (101 + k)))), (q 102, .inl (cy 2, 40, .inr (.inl (fun _ => 0)))), (q 103, .inr (7, fShelf (fun k => q (103 + k)))), (q 104, .inl (cy 2, 40, .inr (.inl (fun _ => 0)))), (q 105, .inr (7, fShelf (fun k => q (105 + k)))), (q 106, .inl (cy 2, 40, .inr (.inl (fun _ => 0)))), (q 107, .inr (7, fShelf (fun k => q (107 + k)))), (q 108, .inl (cy 2, 40, .inr (.inl (fun _ => 0)))), (q 109, .inr (7, fShelf (fun k => q (109 + k)))), (q 110, .inl (cy 2, 40, .inr (.inl (fun _ => 0)))), (q 111, .inr (7, fShelf (fun k => q (111 + k)))), (q 112, .inl (cy 2, 40, .inr (.inl (fun _ => 0))))] (QI (S := Unit) D (fun r _ => if2 (0 ≤ sf.toInt ∧ sf.toInt ≤ 7 ∧ 0 ≤ so.toInt ∧ so.toInt ≤ 4 ∧ 0 ≤ nn.toInt ∧ nn.toInt ≤ 40) 1 (-2) r) (fun _ => [])) := by
  refine hc_intro (by decide) (Nat.le_of_ble_eq_true rfl) (fun p e s m below meth c A ls Sx hr hlocks hin hl hP hD hK hS hA hX => ?_)
  have hx := Sx.1
  have hb := Sx.2.1
  have hl : lv_has ls 4 [(0, .ref (q 0)), (1, .int sf), (2, .int so), (3, .int nn)] := hl
  have hP : va_P D cls [(q 0, .inr (11, fX q)), (q 1, .inl (cy 4, 8, .inr (.inr (.inr (.inr (shv q)))))), (q 2, .inl (cy 0, 5, .inl (fun _ => 0))), (q 97, .inr (7, fShelf (fun k => q (97 + k)))), (q 98, .inl (cy 2, 40, .inr (.inl (fun _ => 0)))), (q 99, .inr (7, fShelf (fun k => q (99 + k)))), (q 100, .inl (cy 2, 40, .inr (.inl (fun _ => 0)))), (q 101, .inr (7, fShelf (fun k => q (101 + k)))), (q 102, .inl (cy 2, 40, .inr (.inl (fun _ => 0)))), (q 103, .inr (7, fShelf (fun k => q (103 + k)))), (q 104, .inl (cy 2, 40, .inr (.inl (fun _ => 0)))), (q 105, .inr (7, fShelf (fun k => q (105 + k)))), (q 106, .inl (cy 2, 40, .inr (.inl (fun _ => 0)))), (q 107, .inr (7, fShelf (fun k => q (107 + k)))), (q 108, .inl (cy 2, 40, .inr (.inl (fun _ => 0)))), (q 109, .inr (7, fShelf (fun k => q (109 + k)))), (q 110, .inl (cy 2, 40, .inr (.inl (fun _ => 0)))), (q 111, .inr (7, fShelf (fun k => q (111 + k)))), (q 112, .inl (cy 2, 40, .inr (.inl (fun _ => 0))))] s.heap := hP
  have hD : va_D A [(q 0, .inr (11, fX q)), (q 1, .inl (cy 4, 8, .inr (.inr (.inr (.inr (shv q)))))), (q 2, .inl (cy 0, 5, .inl (fun _ => 0))), (q 97, .inr (7, fShelf (fun k => q (97 + k)))), (q 98, .inl (cy 2, 40, .inr (.inl (fun _ => 0)))), (q 99, .inr (7, fShelf (fun k => q (99 + k)))), (q 100, .inl (cy 2, 40, .inr (.inl (fun _ => 0)))), (q 101, .inr (7, fShelf (fun k => q (101 + k)))), (q 102, .inl (cy 2, 40, .inr (.inl (fun _ => 0)))), (q 103, .inr (7, fShelf (fun k => q (103 + k)))), (q 104, .inl (cy 2, 40, .inr (.inl (fun _ => 0)))), (q 105, .inr (7, fShelf (fun k => q (105 + k)))), (q 106, .inl (cy 2, 40, .inr (.inl (fun _ => 0)))), (q 107, .inr (7, fShelf (fun k => q (107 + k)))), (q 108, .inl (cy 2, 40, .inr (.inl (fun _ => 0)))), (q 109, .inr (7, fShelf (fun k => q (109 + k)))), (q 110, .inl (cy 2, 40, .inr (.inl (fun _ => 0)))), (q 111, .inr (7, fShelf (fun k => q (111 + k)))), (q 112, .inl (cy 2, 40, .inr (.inl (fun _ => 0))))] := hD
  refine lv_iload_n hx hb dd_X11_row_0 rfl (lv_at hl 1 rfl) ?_
  refine pk_i (pc_T [.int sf] [] Sx hl.1 ws_X_55 md_X11_isShelf (c_isShelf l D cy sf) ⟨rfl, rfl⟩ ⟨Nat.le_of_ble_eq_true rfl, Nat.le_of_ble_eq_true rfl⟩ p_nil hK ns_b (ns_w hX) rfl rfl (Nat.le_of_ble_eq_true rfl) dd_X11_row_1 ⟨Nat.le_of_ble_eq_true rfl, Nat.le_of_ble_eq_true rfl⟩) (fun r1 hw2 => ?_)
  rcases hw2 with ⟨hw2, ehw2⟩ | ⟨hw2, ehw2⟩
  · subst ehw2
    refine lv_if_eq (tgt := 26) hx hb dd_X11_row_4 (by decide) (fun c => absurd c (by decide)) (fun _ => ?_)
    refine lv_iload_n hx hb dd_X11_row_7 rfl (lv_at hl 2 rfl) ?_
    refine lv_iconst (v := 0) hx hb dd_X11_row_8 (by decide) ?_
    refine lv_iconst (v := 4) hx hb dd_X11_row_9 (by decide) ?_
    refine pk_i (pc_T [.int so, .int 0, .int 4] [] Sx hl.1 ws_X_59 md_X11_within (c_within l D cy so 0 4) ⟨rfl, rfl⟩ ⟨Nat.le_of_ble_eq_true rfl, Nat.le_of_ble_eq_true rfl⟩ p_nil hK ns_b (ns_w hX) rfl rfl (Nat.le_of_ble_eq_true rfl) dd_X11_row_10 ⟨Nat.le_of_ble_eq_true rfl, Nat.le_of_ble_eq_true rfl⟩) (fun r3 hw4 => ?_)
    rcases hw4 with ⟨hw4, ehw4⟩ | ⟨hw4, ehw4⟩
    · have hl5 : Int32.toInt 0 = 0 := rfl
      have hl6 : Int32.toInt 4 = 4 := rfl
      subst ehw4
      refine lv_if_eq (tgt := 26) hx hb dd_X11_row_13 (by decide) (fun c => absurd c (by decide)) (fun _ => ?_)
      refine lv_iload_n hx hb dd_X11_row_16 rfl (lv_at hl 3 rfl) ?_
      refine lv_iconst (v := 0) hx hb dd_X11_row_17 (by decide) ?_
      refine lv_bipush (v := 40) hx hb dd_X11_row_18 (by decide) ?_
      refine pk_i (pc_T [.int nn, .int 0, .int 40] [] Sx hl.1 ws_X_59 md_X11_within (c_within l D cy nn 0 40) ⟨rfl, rfl⟩ ⟨Nat.le_of_ble_eq_true rfl, Nat.le_of_ble_eq_true rfl⟩ p_nil hK ns_b (ns_w hX) rfl rfl (Nat.le_of_ble_eq_true rfl) dd_X11_row_20 ⟨Nat.le_of_ble_eq_true rfl, Nat.le_of_ble_eq_true rfl⟩) (fun r7 hw8 => ?_)
      rcases hw8 with ⟨hw8, ehw8⟩ | ⟨hw8, ehw8⟩
      · have hl9 : Int32.toInt 0 = 0 := rfl
        have hl10 : Int32.toInt 40 = 40 := rfl
        subst ehw8
        refine lv_if_ne (tgt := 33) hx hb dd_X11_row_23 (by decide) (fun _ => ?_) (fun c => absurd c (by decide))
        refine lv_aload_n hx hb dd_X11_row_33 rfl (lv_at hl 0 rfl) ?_
        refine wk_get (v := .ref (q 1)) Sx ef_11 hK hP 0 rfl rfl 0 (by decide) kk_382 rfl dd_X11_row_34 ?_
        refine lv_iload_n hx hb dd_X11_row_37 rfl (lv_at hl 1 rfl) ?_
        have hi11 : vp_in sf 8 := (vi_of (by omega))
        refine va_aldq hx hb hK hP 1 4 rfl rfl hi11 dd_X11_row_38 ?_
        obtain ⟨j12, hjj12, ejj12⟩ : ∃ y, y < 8 ∧ sf.toNatClampNeg = y := ⟨_, vi_lt hi11, rfl⟩
        have hpj12 := sh_p (cy := cy) (q := q) (hP.sub [3, 4, 5, 6, 7, 8, 9, 10, 11, 12, 13, 14, 15, 16, 17, 18] rfl) j12 hjj12
        have hdj12 := sh_d (cy := cy) (q := q) (hD.sub [3, 4, 5, 6, 7, 8, 9, 10, 11, 12, 13, 14, 15, 16, 17, 18] (by decide) rfl) j12 hjj12
        refine wk_val (v := .ref (q (97 + 2 * j12))) (by rw [ejj12, shv_at _ _ hjj12]; rfl) ?_
        refine lv_iload_n hx hb dd_X11_row_39 rfl (lv_at hl 2 rfl) ?_
        refine lv_iload_n hx hb dd_X11_row_40 rfl (lv_at hl 3 rfl) ?_
        have hP := hpj12
        have hD := hdj12
        refine hk_v (wr := []) (c1 := 0) (s1 := 0) [0, 1] [] (hc_V [.int so, .int nn] [] [0, 1] Sx hl.1 ws_X_67 md_X7_takeRow (c_Shelf_takeRow l D cy (fun k => q (97 + 2 * j12 + k)) so nn) ⟨Nat.le_of_ble_eq_true rfl, Nat.le_of_ble_eq_true rfl⟩ hP hD rfl (by decide) hK nx_b (nx_w hX) (va_recv hK hP (ci := 7) (q0 := 0) rfl rfl) rfl rfl (Nat.le_of_ble_eq_true rfl) dd_X11_row_41 ⟨Nat.le_of_ble_eq_true rfl, Nat.le_of_ble_eq_true rfl⟩) hS hA hP hD rfl rfl (by decide) (by decide) rfl rfl (fun u14 H locs hw15 hP hD hS => ?_)
        have hP : va_P D cls [] H := hP
        have hD : va_D A [] := hD
        refine lv_iconst (v := 1) hx hb dd_X11_row_44 (by decide) ?_
        exact hc_ret Sx hr hlocks dd_X11_row_45 hS () (Or.inl ⟨by omega, rfl⟩) p_nil d_nil
      · have hl16 : Int32.toInt 0 = 0 := rfl
        have hl17 : Int32.toInt 40 = 40 := rfl
        subst ehw8
        refine lv_if_ne (tgt := 33) hx hb dd_X11_row_23 (by decide) (fun c => absurd c (by decide)) (fun _ => ?_)
        refine lv_aload_n hx hb dd_X11_row_26 rfl (lv_at hl 0 rfl) ?_
        refine lv_bipush (v := (-2)) hx hb dd_X11_row_27 (by decide) ?_
        refine hk_i (wr := [(q 1, .inl (cy 4, 8, .inr (.inr (.inr (.inr (shv q)))))), (q 97, .inr (7, fShelf (fun k => q (97 + k)))), (q 98, .inl (cy 2, 40, .inr (.inl (fun _ => 0)))), (q 99, .inr (7, fShelf (fun k => q (99 + k)))), (q 100, .inl (cy 2, 40, .inr (.inl (fun _ => 0)))), (q 101, .inr (7, fShelf (fun k => q (101 + k)))), (q 102, .inl (cy 2, 40, .inr (.inl (fun _ => 0)))), (q 103, .inr (7, fShelf (fun k => q (103 + k)))), (q 104, .inl (cy 2, 40, .inr (.inl (fun _ => 0)))), (q 105, .inr (7, fShelf (fun k => q (105 + k)))), (q 106, .inl (cy 2, 40, .inr (.inl (fun _ => 0)))), (q 107, .inr (7, fShelf (fun k => q (107 + k)))), (q 108, .inl (cy 2, 40, .inr (.inl (fun _ => 0)))), (q 109, .inr (7, fShelf (fun k => q (109 + k)))), (q 110, .inl (cy 2, 40, .inr (.inl (fun _ => 0)))), (q 111, .inr (7, fShelf (fun k => q (111 + k)))), (q 112, .inl (cy 2, 40, .inr (.inl (fun _ => 0))))]) (c1 := 0) (s1 := 0) [0, 2] [1, 3, 4, 5, 6, 7, 8, 9, 10, 11, 12, 13, 14, 15, 16, 17, 18] (hc_V [.int (-2)] [] [0, 2] Sx hl.1 ws_X_63 md_X11_refuse (c_refuse_2 l D cy q) ⟨Nat.le_of_ble_eq_true rfl, Nat.le_of_ble_eq_true rfl⟩ hP hD rfl (by decide) hK nx_b (nx_w hX) (va_recv hK hP (ci := 11) (q0 := 0) rfl rfl) rfl rfl (Nat.le_of_ble_eq_true rfl) dd_X11_row_29 ⟨Nat.le_of_ble_eq_true rfl, Nat.le_of_ble_eq_true rfl⟩) hS hA hP hD rfl rfl (by decide) (by decide) rfl rfl (fun r18 u19 H locs hw20 hP hD hS => ?_)
        have hP : va_P D cls [(q 1, .inl (cy 4, 8, .inr (.inr (.inr (.inr (shv q)))))), (q 97, .inr (7, fShelf (fun k => q (97 + k)))), (q 98, .inl (cy 2, 40, .inr (.inl (fun _ => 0)))), (q 99, .inr (7, fShelf (fun k => q (99 + k)))), (q 100, .inl (cy 2, 40, .inr (.inl (fun _ => 0)))), (q 101, .inr (7, fShelf (fun k => q (101 + k)))), (q 102, .inl (cy 2, 40, .inr (.inl (fun _ => 0)))), (q 103, .inr (7, fShelf (fun k => q (103 + k)))), (q 104, .inl (cy 2, 40, .inr (.inl (fun _ => 0)))), (q 105, .inr (7, fShelf (fun k => q (105 + k)))), (q 106, .inl (cy 2, 40, .inr (.inl (fun _ => 0)))), (q 107, .inr (7, fShelf (fun k => q (107 + k)))), (q 108, .inl (cy 2, 40, .inr (.inl (fun _ => 0)))), (q 109, .inr (7, fShelf (fun k => q (109 + k)))), (q 110, .inl (cy 2, 40, .inr (.inl (fun _ => 0)))), (q 111, .inr (7, fShelf (fun k => q (111 + k)))), (q 112, .inl (cy 2, 40, .inr (.inl (fun _ => 0))))] H := hP
        have hD : va_D A [(q 1, .inl (cy 4, 8, .inr (.inr (.inr (.inr (shv q)))))), (q 97, .inr (7, fShelf (fun k => q (97 + k)))), (q 98, .inl (cy 2, 40, .inr (.inl (fun _ => 0)))), (q 99, .inr (7, fShelf (fun k => q (99 + k)))), (q 100, .inl (cy 2, 40, .inr (.inl (fun _ => 0)))), (q 101, .inr (7, fShelf (fun k => q (101 + k)))), (q 102, .inl (cy 2, 40, .inr (.inl (fun _ => 0)))), (q 103, .inr (7, fShelf (fun k => q (103 + k)))), (q 104, .inl (cy 2, 40, .inr (.inl (fun _ => 0)))), (q 105, .inr (7, fShelf (fun k => q (105 + k)))), (q 106, .inl (cy 2, 40, .inr (.inl (fun _ => 0)))), (q 107, .inr (7, fShelf (fun k => q (107 + k)))), (q 108, .inl (cy 2, 40, .inr (.inl (fun _ => 0)))), (q 109, .inr (7, fShelf (fun k => q (109 + k)))), (q 110, .inl (cy 2, 40, .inr (.inl (fun _ => 0)))), (q 111, .inr (7, fShelf (fun k => q (111 + k)))), (q 112, .inl (cy 2, 40, .inr (.inl (fun _ => 0))))] := hD
        subst hw20
        exact hc_ret Sx hr hlocks dd_X11_row_32 hS () (Or.inr ⟨by omega, rfl⟩) p_nil d_nil
    · have hl21 : Int32.toInt 0 = 0 := rfl
      have hl22 : Int32.toInt 4 = 4 := rfl
      subst ehw4
      refine lv_if_eq (tgt := 26) hx hb dd_X11_row_13 (by decide) (fun _ => ?_) (fun c => absurd c (by decide))
      refine lv_aload_n hx hb dd_X11_row_26 rfl (lv_at hl 0 rfl) ?_
      refine lv_bipush (v := (-2)) hx hb dd_X11_row_27 (by decide) ?_
      refine hk_i (wr := [(q 1, .inl (cy 4, 8, .inr (.inr (.inr (.inr (shv q)))))), (q 97, .inr (7, fShelf (fun k => q (97 + k)))), (q 98, .inl (cy 2, 40, .inr (.inl (fun _ => 0)))), (q 99, .inr (7, fShelf (fun k => q (99 + k)))), (q 100, .inl (cy 2, 40, .inr (.inl (fun _ => 0)))), (q 101, .inr (7, fShelf (fun k => q (101 + k)))), (q 102, .inl (cy 2, 40, .inr (.inl (fun _ => 0)))), (q 103, .inr (7, fShelf (fun k => q (103 + k)))), (q 104, .inl (cy 2, 40, .inr (.inl (fun _ => 0)))), (q 105, .inr (7, fShelf (fun k => q (105 + k)))), (q 106, .inl (cy 2, 40, .inr (.inl (fun _ => 0)))), (q 107, .inr (7, fShelf (fun k => q (107 + k)))), (q 108, .inl (cy 2, 40, .inr (.inl (fun _ => 0)))), (q 109, .inr (7, fShelf (fun k => q (109 + k)))), (q 110, .inl (cy 2, 40, .inr (.inl (fun _ => 0)))), (q 111, .inr (7, fShelf (fun k => q (111 + k)))), (q 112, .inl (cy 2, 40, .inr (.inl (fun _ => 0))))]) (c1 := 0) (s1 := 0) [0, 2] [1, 3, 4, 5, 6, 7, 8, 9, 10, 11, 12, 13, 14, 15, 16, 17, 18] (hc_V [.int (-2)] [] [0, 2] Sx hl.1 ws_X_63 md_X11_refuse (c_refuse_2 l D cy q) ⟨Nat.le_of_ble_eq_true rfl, Nat.le_of_ble_eq_true rfl⟩ hP hD rfl (by decide) hK nx_b (nx_w hX) (va_recv hK hP (ci := 11) (q0 := 0) rfl rfl) rfl rfl (Nat.le_of_ble_eq_true rfl) dd_X11_row_29 ⟨Nat.le_of_ble_eq_true rfl, Nat.le_of_ble_eq_true rfl⟩) hS hA hP hD rfl rfl (by decide) (by decide) rfl rfl (fun r23 u24 H locs hw25 hP hD hS => ?_)
      have hP : va_P D cls [(q 1, .inl (cy 4, 8, .inr (.inr (.inr (.inr (shv q)))))), (q 97, .inr (7, fShelf (fun k => q (97 + k)))), (q 98, .inl (cy 2, 40, .inr (.inl (fun _ => 0)))), (q 99, .inr (7, fShelf (fun k => q (99 + k)))), (q 100, .inl (cy 2, 40, .inr (.inl (fun _ => 0)))), (q 101, .inr (7, fShelf (fun k => q (101 + k)))), (q 102, .inl (cy 2, 40, .inr (.inl (fun _ => 0)))), (q 103, .inr (7, fShelf (fun k => q (103 + k)))), (q 104, .inl (cy 2, 40, .inr (.inl (fun _ => 0)))), (q 105, .inr (7, fShelf (fun k => q (105 + k)))), (q 106, .inl (cy 2, 40, .inr (.inl (fun _ => 0)))), (q 107, .inr (7, fShelf (fun k => q (107 + k)))), (q 108, .inl (cy 2, 40, .inr (.inl (fun _ => 0)))), (q 109, .inr (7, fShelf (fun k => q (109 + k)))), (q 110, .inl (cy 2, 40, .inr (.inl (fun _ => 0)))), (q 111, .inr (7, fShelf (fun k => q (111 + k)))), (q 112, .inl (cy 2, 40, .inr (.inl (fun _ => 0))))] H := hP
      have hD : va_D A [(q 1, .inl (cy 4, 8, .inr (.inr (.inr (.inr (shv q)))))), (q 97, .inr (7, fShelf (fun k => q (97 + k)))), (q 98, .inl (cy 2, 40, .inr (.inl (fun _ => 0)))), (q 99, .inr (7, fShelf (fun k => q (99 + k)))), (q 100, .inl (cy 2, 40, .inr (.inl (fun _ => 0)))), (q 101, .inr (7, fShelf (fun k => q (101 + k)))), (q 102, .inl (cy 2, 40, .inr (.inl (fun _ => 0)))), (q 103, .inr (7, fShelf (fun k => q (103 + k)))), (q 104, .inl (cy 2, 40, .inr (.inl (fun _ => 0)))), (q 105, .inr (7, fShelf (fun k => q (105 + k)))), (q 106, .inl (cy 2, 40, .inr (.inl (fun _ => 0)))), (q 107, .inr (7, fShelf (fun k => q (107 + k)))), (q 108, .inl (cy 2, 40, .inr (.inl (fun _ => 0)))), (q 109, .inr (7, fShelf (fun k => q (109 + k)))), (q 110, .inl (cy 2, 40, .inr (.inl (fun _ => 0)))), (q 111, .inr (7, fShelf (fun k => q (111 + k)))), (q 112, .inl (cy 2, 40, .inr (.inl (fun _ => 0))))] := hD
      subst hw25
      exact hc_ret Sx hr hlocks dd_X11_row_32 hS () (Or.inr ⟨by omega, rfl⟩) p_nil d_nil
  · subst ehw2
    refine lv_if_eq (tgt := 26) hx hb dd_X11_row_4 (by decide) (fun _ => ?_) (fun c => absurd c (by decide))
    refine lv_aload_n hx hb dd_X11_row_26 rfl (lv_at hl 0 rfl) ?_
    refine lv_bipush (v := (-2)) hx hb dd_X11_row_27 (by decide) ?_
    refine hk_i (wr := [(q 1, .inl (cy 4, 8, .inr (.inr (.inr (.inr (shv q)))))), (q 97, .inr (7, fShelf (fun k => q (97 + k)))), (q 98, .inl (cy 2, 40, .inr (.inl (fun _ => 0)))), (q 99, .inr (7, fShelf (fun k => q (99 + k)))), (q 100, .inl (cy 2, 40, .inr (.inl (fun _ => 0)))), (q 101, .inr (7, fShelf (fun k => q (101 + k)))), (q 102, .inl (cy 2, 40, .inr (.inl (fun _ => 0)))), (q 103, .inr (7, fShelf (fun k => q (103 + k)))), (q 104, .inl (cy 2, 40, .inr (.inl (fun _ => 0)))), (q 105, .inr (7, fShelf (fun k => q (105 + k)))), (q 106, .inl (cy 2, 40, .inr (.inl (fun _ => 0)))), (q 107, .inr (7, fShelf (fun k => q (107 + k)))), (q 108, .inl (cy 2, 40, .inr (.inl (fun _ => 0)))), (q 109, .inr (7, fShelf (fun k => q (109 + k)))), (q 110, .inl (cy 2, 40, .inr (.inl (fun _ => 0)))), (q 111, .inr (7, fShelf (fun k => q (111 + k)))), (q 112, .inl (cy 2, 40, .inr (.inl (fun _ => 0))))]) (c1 := 0) (s1 := 0) [0, 2] [1, 3, 4, 5, 6, 7, 8, 9, 10, 11, 12, 13, 14, 15, 16, 17, 18] (hc_V [.int (-2)] [] [0, 2] Sx hl.1 ws_X_63 md_X11_refuse (c_refuse_2 l D cy q) ⟨Nat.le_of_ble_eq_true rfl, Nat.le_of_ble_eq_true rfl⟩ hP hD rfl (by decide) hK nx_b (nx_w hX) (va_recv hK hP (ci := 11) (q0 := 0) rfl rfl) rfl rfl (Nat.le_of_ble_eq_true rfl) dd_X11_row_29 ⟨Nat.le_of_ble_eq_true rfl, Nat.le_of_ble_eq_true rfl⟩) hS hA hP hD rfl rfl (by decide) (by decide) rfl rfl (fun r26 u27 H locs hw28 hP hD hS => ?_)
    have hP : va_P D cls [(q 1, .inl (cy 4, 8, .inr (.inr (.inr (.inr (shv q)))))), (q 97, .inr (7, fShelf (fun k => q (97 + k)))), (q 98, .inl (cy 2, 40, .inr (.inl (fun _ => 0)))), (q 99, .inr (7, fShelf (fun k => q (99 + k)))), (q 100, .inl (cy 2, 40, .inr (.inl (fun _ => 0)))), (q 101, .inr (7, fShelf (fun k => q (101 + k)))), (q 102, .inl (cy 2, 40, .inr (.inl (fun _ => 0)))), (q 103, .inr (7, fShelf (fun k => q (103 + k)))), (q 104, .inl (cy 2, 40, .inr (.inl (fun _ => 0)))), (q 105, .inr (7, fShelf (fun k => q (105 + k)))), (q 106, .inl (cy 2, 40, .inr (.inl (fun _ => 0)))), (q 107, .inr (7, fShelf (fun k => q (107 + k)))), (q 108, .inl (cy 2, 40, .inr (.inl (fun _ => 0)))), (q 109, .inr (7, fShelf (fun k => q (109 + k)))), (q 110, .inl (cy 2, 40, .inr (.inl (fun _ => 0)))), (q 111, .inr (7, fShelf (fun k => q (111 + k)))), (q 112, .inl (cy 2, 40, .inr (.inl (fun _ => 0))))] H := hP
    have hD : va_D A [(q 1, .inl (cy 4, 8, .inr (.inr (.inr (.inr (shv q)))))), (q 97, .inr (7, fShelf (fun k => q (97 + k)))), (q 98, .inl (cy 2, 40, .inr (.inl (fun _ => 0)))), (q 99, .inr (7, fShelf (fun k => q (99 + k)))), (q 100, .inl (cy 2, 40, .inr (.inl (fun _ => 0)))), (q 101, .inr (7, fShelf (fun k => q (101 + k)))), (q 102, .inl (cy 2, 40, .inr (.inl (fun _ => 0)))), (q 103, .inr (7, fShelf (fun k => q (103 + k)))), (q 104, .inl (cy 2, 40, .inr (.inl (fun _ => 0)))), (q 105, .inr (7, fShelf (fun k => q (105 + k)))), (q 106, .inl (cy 2, 40, .inr (.inl (fun _ => 0)))), (q 107, .inr (7, fShelf (fun k => q (107 + k)))), (q 108, .inl (cy 2, 40, .inr (.inl (fun _ => 0)))), (q 109, .inr (7, fShelf (fun k => q (109 + k)))), (q 110, .inl (cy 2, 40, .inr (.inl (fun _ => 0)))), (q 111, .inr (7, fShelf (fun k => q (111 + k)))), (q 112, .inl (cy 2, 40, .inr (.inl (fun _ => 0))))] := hD
    subst hw28
    exact hc_ret Sx hr hlocks dd_X11_row_32 hS () (Or.inr ⟨by omega, rfl⟩) p_nil d_nil
set_option maxHeartbeats 4000000 in
set_option maxRecDepth 100000 in
theorem c_X_set (l : Launch) (D : va_G) (cy : Nat → ClassId) (q : Nat → Nat) (sf : Int32) (ix : Int32) (lv : Int64) : HC l my_X11_set mb_X11_set 6 ((some .int)) (rmD 4 0 0) D (TY cy) [.ref (q 0), .int sf, .int ix, .long lv] NX [(q 0, .inr (11, fX q)), (q 1, .inl (cy 4, 8, .inr (.inr (.inr (.inr (shv q)))))), (q 2, .inl (cy 0, 5, .inl (fun _ => 0))), (q 97, .inr (7, fShelf (fun k => q (97 + k)))), (q 98, .inl (cy 2, 40, .inr (.inl (fun _ => 0)))), (q 99, .inr (7, fShelf (fun k => q (99 + k)))), (q 100, .inl (cy 2, 40, .inr (.inl (fun _ => 0)))), (q 101, .inr (7, fShelf (fun k => q (101 + k)))), (q 102, .inl (cy 2, 40, .inr (.inl (fun _ => 0)))), (q 103, .inr (7, fShelf (fun k => q (103 + k)))), (q 104, .inl (cy 2, 40, .inr (.inl (fun _ => 0)))), (q 105, .inr (7, fShelf (fun k => q (105 + k)))), (q 106, .inl (cy 2, 40, .inr (.inl (fun _ => 0)))), (q 107, .inr (7, fShelf (fun k => q (107 + k)))), (q 108, .inl (cy 2, 40, .inr (.inl (fun _ => 0)))), (q 109, .inr (7, fShelf (fun k => q (109 + k)))), (q 110, .inl (cy 2, 40, .inr (.inl (fun _ => 0)))), (q 111, .inr (7, fShelf (fun k => q (111 + k)))), (q 112, .inl (cy 2, 40, .inr (.inl (fun _ => 0))))] (QI (S := Unit) D (fun r _ => if2 (0 ≤ sf.toInt ∧ sf.toInt ≤ 7) (-4) (-2) r) (fun _ => [])) := by
  refine hc_intro (by decide) (Nat.le_of_ble_eq_true rfl) (fun p e s m below meth c A ls Sx hr hlocks hin hl hP hD hK hS hA hX => ?_)
  have hx := Sx.1
  have hb := Sx.2.1
  have hl : lv_has ls 6 [(0, .ref (q 0)), (1, .int sf), (2, .int ix), (3, .long lv)] := hl
  have hP : va_P D cls [(q 0, .inr (11, fX q)), (q 1, .inl (cy 4, 8, .inr (.inr (.inr (.inr (shv q)))))), (q 2, .inl (cy 0, 5, .inl (fun _ => 0))), (q 97, .inr (7, fShelf (fun k => q (97 + k)))), (q 98, .inl (cy 2, 40, .inr (.inl (fun _ => 0)))), (q 99, .inr (7, fShelf (fun k => q (99 + k)))), (q 100, .inl (cy 2, 40, .inr (.inl (fun _ => 0)))), (q 101, .inr (7, fShelf (fun k => q (101 + k)))), (q 102, .inl (cy 2, 40, .inr (.inl (fun _ => 0)))), (q 103, .inr (7, fShelf (fun k => q (103 + k)))), (q 104, .inl (cy 2, 40, .inr (.inl (fun _ => 0)))), (q 105, .inr (7, fShelf (fun k => q (105 + k)))), (q 106, .inl (cy 2, 40, .inr (.inl (fun _ => 0)))), (q 107, .inr (7, fShelf (fun k => q (107 + k)))), (q 108, .inl (cy 2, 40, .inr (.inl (fun _ => 0)))), (q 109, .inr (7, fShelf (fun k => q (109 + k)))), (q 110, .inl (cy 2, 40, .inr (.inl (fun _ => 0)))), (q 111, .inr (7, fShelf (fun k => q (111 + k)))), (q 112, .inl (cy 2, 40, .inr (.inl (fun _ => 0))))] s.heap := hP
  have hD : va_D A [(q 0, .inr (11, fX q)), (q 1, .inl (cy 4, 8, .inr (.inr (.inr (.inr (shv q)))))), (q 2, .inl (cy 0, 5, .inl (fun _ => 0))), (q 97, .inr (7, fShelf (fun k => q (97 + k)))), (q 98, .inl (cy 2, 40, .inr (.inl (fun _ => 0)))), (q 99, .inr (7, fShelf (fun k => q (99 + k)))), (q 100, .inl (cy 2, 40, .inr (.inl (fun _ => 0)))), (q 101, .inr (7, fShelf (fun k => q (101 + k)))), (q 102, .inl (cy 2, 40, .inr (.inl (fun _ => 0)))), (q 103, .inr (7, fShelf (fun k => q (103 + k)))), (q 104, .inl (cy 2, 40, .inr (.inl (fun _ => 0)))), (q 105, .inr (7, fShelf (fun k => q (105 + k)))), (q 106, .inl (cy 2, 40, .inr (.inl (fun _ => 0)))), (q 107, .inr (7, fShelf (fun k => q (107 + k)))), (q 108, .inl (cy 2, 40, .inr (.inl (fun _ => 0)))), (q 109, .inr (7, fShelf (fun k => q (109 + k)))), (q 110, .inl (cy 2, 40, .inr (.inl (fun _ => 0)))), (q 111, .inr (7, fShelf (fun k => q (111 + k)))), (q 112, .inl (cy 2, 40, .inr (.inl (fun _ => 0))))] := hD
  refine lv_aload_n hx hb dd_X11_set_0 rfl (lv_at hl 0 rfl) ?_
  refine lv_iload_n hx hb dd_X11_set_1 rfl (lv_at hl 1 rfl) ?_
  refine pk_i (pc_V [.int sf] [] Sx hl.1 ws_X_71 md_X11_refusalOfRow (c_refusalOfRow l D cy q sf) ⟨rfl, rfl⟩ ⟨Nat.le_of_ble_eq_true rfl, Nat.le_of_ble_eq_true rfl⟩ (hP.sub [0, 1, 3, 4, 5, 6, 7, 8, 9, 10, 11, 12, 13, 14, 15, 16, 17, 18] rfl) hK ns_b (ns_w hX) (va_recv hK hP (ci := 11) (q0 := 0) rfl rfl) rfl rfl (Nat.le_of_ble_eq_true rfl) dd_X11_set_2 ⟨Nat.le_of_ble_eq_true rfl, Nat.le_of_ble_eq_true rfl⟩) (fun r1 hw2 => ?_)
  rcases hw2 with ⟨hw2, ehw2⟩ | ⟨hw2, ehw2⟩
  · subst ehw2
    refine lv_istore (lv' := [(5, .int (-4)), (0, .ref (q 0)), (1, .int sf), (2, .int ix), (3, .long lv)]) hx hb dd_X11_set_5 hl (by decide) rfl (fun ls hl => ?_)
    refine lv_iload hx hb dd_X11_set_7 (lv_at hl 0 rfl) ?_
    refine lv_if_eq (tgt := 19) hx hb dd_X11_set_9 (by decide) (fun c => absurd c (by decide)) (fun _ => ?_)
    refine lv_aload_n hx hb dd_X11_set_12 rfl (lv_at hl 1 rfl) ?_
    refine lv_iload hx hb dd_X11_set_13 (lv_at hl 0 rfl) ?_
    refine hk_i (wr := [(q 1, .inl (cy 4, 8, .inr (.inr (.inr (.inr (shv q)))))), (q 97, .inr (7, fShelf (fun k => q (97 + k)))), (q 98, .inl (cy 2, 40, .inr (.inl (fun _ => 0)))), (q 99, .inr (7, fShelf (fun k => q (99 + k)))), (q 100, .inl (cy 2, 40, .inr (.inl (fun _ => 0)))), (q 101, .inr (7, fShelf (fun k => q (101 + k)))), (q 102, .inl (cy 2, 40, .inr (.inl (fun _ => 0)))), (q 103, .inr (7, fShelf (fun k => q (103 + k)))), (q 104, .inl (cy 2, 40, .inr (.inl (fun _ => 0)))), (q 105, .inr (7, fShelf (fun k => q (105 + k)))), (q 106, .inl (cy 2, 40, .inr (.inl (fun _ => 0)))), (q 107, .inr (7, fShelf (fun k => q (107 + k)))), (q 108, .inl (cy 2, 40, .inr (.inl (fun _ => 0)))), (q 109, .inr (7, fShelf (fun k => q (109 + k)))), (q 110, .inl (cy 2, 40, .inr (.inl (fun _ => 0)))), (q 111, .inr (7, fShelf (fun k => q (111 + k)))), (q 112, .inl (cy 2, 40, .inr (.inl (fun _ => 0))))]) (c1 := 0) (s1 := 0) [0, 2] [1, 3, 4, 5, 6, 7, 8, 9, 10, 11, 12, 13, 14, 15, 16, 17, 18] (hc_V [.int (-4)] [] [0, 2] Sx hl.1 ws_X_63 md_X11_refuse (c_refuse_4 l D cy q) ⟨Nat.le_of_ble_eq_true rfl, Nat.le_of_ble_eq_true rfl⟩ hP hD rfl (by decide) hK nx_b (nx_w hX) (va_recv hK hP (ci := 11) (q0 := 0) rfl rfl) rfl rfl (Nat.le_of_ble_eq_true rfl) dd_X11_set_15 ⟨Nat.le_of_ble_eq_true rfl, Nat.le_of_ble_eq_true rfl⟩) hS hA hP hD rfl rfl (by decide) (by decide) rfl rfl (fun r3 u4 H locs hw5 hP hD hS => ?_)
    have hP : va_P D cls [(q 1, .inl (cy 4, 8, .inr (.inr (.inr (.inr (shv q)))))), (q 97, .inr (7, fShelf (fun k => q (97 + k)))), (q 98, .inl (cy 2, 40, .inr (.inl (fun _ => 0)))), (q 99, .inr (7, fShelf (fun k => q (99 + k)))), (q 100, .inl (cy 2, 40, .inr (.inl (fun _ => 0)))), (q 101, .inr (7, fShelf (fun k => q (101 + k)))), (q 102, .inl (cy 2, 40, .inr (.inl (fun _ => 0)))), (q 103, .inr (7, fShelf (fun k => q (103 + k)))), (q 104, .inl (cy 2, 40, .inr (.inl (fun _ => 0)))), (q 105, .inr (7, fShelf (fun k => q (105 + k)))), (q 106, .inl (cy 2, 40, .inr (.inl (fun _ => 0)))), (q 107, .inr (7, fShelf (fun k => q (107 + k)))), (q 108, .inl (cy 2, 40, .inr (.inl (fun _ => 0)))), (q 109, .inr (7, fShelf (fun k => q (109 + k)))), (q 110, .inl (cy 2, 40, .inr (.inl (fun _ => 0)))), (q 111, .inr (7, fShelf (fun k => q (111 + k)))), (q 112, .inl (cy 2, 40, .inr (.inl (fun _ => 0))))] H := hP
    have hD : va_D A [(q 1, .inl (cy 4, 8, .inr (.inr (.inr (.inr (shv q)))))), (q 97, .inr (7, fShelf (fun k => q (97 + k)))), (q 98, .inl (cy 2, 40, .inr (.inl (fun _ => 0)))), (q 99, .inr (7, fShelf (fun k => q (99 + k)))), (q 100, .inl (cy 2, 40, .inr (.inl (fun _ => 0)))), (q 101, .inr (7, fShelf (fun k => q (101 + k)))), (q 102, .inl (cy 2, 40, .inr (.inl (fun _ => 0)))), (q 103, .inr (7, fShelf (fun k => q (103 + k)))), (q 104, .inl (cy 2, 40, .inr (.inl (fun _ => 0)))), (q 105, .inr (7, fShelf (fun k => q (105 + k)))), (q 106, .inl (cy 2, 40, .inr (.inl (fun _ => 0)))), (q 107, .inr (7, fShelf (fun k => q (107 + k)))), (q 108, .inl (cy 2, 40, .inr (.inl (fun _ => 0)))), (q 109, .inr (7, fShelf (fun k => q (109 + k)))), (q 110, .inl (cy 2, 40, .inr (.inl (fun _ => 0)))), (q 111, .inr (7, fShelf (fun k => q (111 + k)))), (q 112, .inl (cy 2, 40, .inr (.inl (fun _ => 0))))] := hD
    subst hw5
    exact hc_ret Sx hr hlocks dd_X11_set_18 hS () (Or.inl ⟨by omega, rfl⟩) p_nil d_nil
  · subst ehw2
    refine lv_istore (lv' := [(5, .int (-2)), (0, .ref (q 0)), (1, .int sf), (2, .int ix), (3, .long lv)]) hx hb dd_X11_set_5 hl (by decide) rfl (fun ls hl => ?_)
    refine lv_iload hx hb dd_X11_set_7 (lv_at hl 0 rfl) ?_
    refine lv_if_eq (tgt := 19) hx hb dd_X11_set_9 (by decide) (fun c => absurd c (by decide)) (fun _ => ?_)
    refine lv_aload_n hx hb dd_X11_set_12 rfl (lv_at hl 1 rfl) ?_
    refine lv_iload hx hb dd_X11_set_13 (lv_at hl 0 rfl) ?_
    refine hk_i (wr := [(q 1, .inl (cy 4, 8, .inr (.inr (.inr (.inr (shv q)))))), (q 97, .inr (7, fShelf (fun k => q (97 + k)))), (q 98, .inl (cy 2, 40, .inr (.inl (fun _ => 0)))), (q 99, .inr (7, fShelf (fun k => q (99 + k)))), (q 100, .inl (cy 2, 40, .inr (.inl (fun _ => 0)))), (q 101, .inr (7, fShelf (fun k => q (101 + k)))), (q 102, .inl (cy 2, 40, .inr (.inl (fun _ => 0)))), (q 103, .inr (7, fShelf (fun k => q (103 + k)))), (q 104, .inl (cy 2, 40, .inr (.inl (fun _ => 0)))), (q 105, .inr (7, fShelf (fun k => q (105 + k)))), (q 106, .inl (cy 2, 40, .inr (.inl (fun _ => 0)))), (q 107, .inr (7, fShelf (fun k => q (107 + k)))), (q 108, .inl (cy 2, 40, .inr (.inl (fun _ => 0)))), (q 109, .inr (7, fShelf (fun k => q (109 + k)))), (q 110, .inl (cy 2, 40, .inr (.inl (fun _ => 0)))), (q 111, .inr (7, fShelf (fun k => q (111 + k)))), (q 112, .inl (cy 2, 40, .inr (.inl (fun _ => 0))))]) (c1 := 0) (s1 := 0) [0, 2] [1, 3, 4, 5, 6, 7, 8, 9, 10, 11, 12, 13, 14, 15, 16, 17, 18] (hc_V [.int (-2)] [] [0, 2] Sx hl.1 ws_X_63 md_X11_refuse (c_refuse_2 l D cy q) ⟨Nat.le_of_ble_eq_true rfl, Nat.le_of_ble_eq_true rfl⟩ hP hD rfl (by decide) hK nx_b (nx_w hX) (va_recv hK hP (ci := 11) (q0 := 0) rfl rfl) rfl rfl (Nat.le_of_ble_eq_true rfl) dd_X11_set_15 ⟨Nat.le_of_ble_eq_true rfl, Nat.le_of_ble_eq_true rfl⟩) hS hA hP hD rfl rfl (by decide) (by decide) rfl rfl (fun r6 u7 H locs hw8 hP hD hS => ?_)
    have hP : va_P D cls [(q 1, .inl (cy 4, 8, .inr (.inr (.inr (.inr (shv q)))))), (q 97, .inr (7, fShelf (fun k => q (97 + k)))), (q 98, .inl (cy 2, 40, .inr (.inl (fun _ => 0)))), (q 99, .inr (7, fShelf (fun k => q (99 + k)))), (q 100, .inl (cy 2, 40, .inr (.inl (fun _ => 0)))), (q 101, .inr (7, fShelf (fun k => q (101 + k)))), (q 102, .inl (cy 2, 40, .inr (.inl (fun _ => 0)))), (q 103, .inr (7, fShelf (fun k => q (103 + k)))), (q 104, .inl (cy 2, 40, .inr (.inl (fun _ => 0)))), (q 105, .inr (7, fShelf (fun k => q (105 + k)))), (q 106, .inl (cy 2, 40, .inr (.inl (fun _ => 0)))), (q 107, .inr (7, fShelf (fun k => q (107 + k)))), (q 108, .inl (cy 2, 40, .inr (.inl (fun _ => 0)))), (q 109, .inr (7, fShelf (fun k => q (109 + k)))), (q 110, .inl (cy 2, 40, .inr (.inl (fun _ => 0)))), (q 111, .inr (7, fShelf (fun k => q (111 + k)))), (q 112, .inl (cy 2, 40, .inr (.inl (fun _ => 0))))] H := hP
    have hD : va_D A [(q 1, .inl (cy 4, 8, .inr (.inr (.inr (.inr (shv q)))))), (q 97, .inr (7, fShelf (fun k => q (97 + k)))), (q 98, .inl (cy 2, 40, .inr (.inl (fun _ => 0)))), (q 99, .inr (7, fShelf (fun k => q (99 + k)))), (q 100, .inl (cy 2, 40, .inr (.inl (fun _ => 0)))), (q 101, .inr (7, fShelf (fun k => q (101 + k)))), (q 102, .inl (cy 2, 40, .inr (.inl (fun _ => 0)))), (q 103, .inr (7, fShelf (fun k => q (103 + k)))), (q 104, .inl (cy 2, 40, .inr (.inl (fun _ => 0)))), (q 105, .inr (7, fShelf (fun k => q (105 + k)))), (q 106, .inl (cy 2, 40, .inr (.inl (fun _ => 0)))), (q 107, .inr (7, fShelf (fun k => q (107 + k)))), (q 108, .inl (cy 2, 40, .inr (.inl (fun _ => 0)))), (q 109, .inr (7, fShelf (fun k => q (109 + k)))), (q 110, .inl (cy 2, 40, .inr (.inl (fun _ => 0)))), (q 111, .inr (7, fShelf (fun k => q (111 + k)))), (q 112, .inl (cy 2, 40, .inr (.inl (fun _ => 0))))] := hD
    subst hw8
    exact hc_ret Sx hr hlocks dd_X11_set_18 hS () (Or.inr ⟨by omega, rfl⟩) p_nil d_nil
set_option maxHeartbeats 4000000 in
set_option maxRecDepth 100000 in
theorem c_X_copy (l : Launch) (D : va_G) (cy : Nat → ClassId) (q : Nat → Nat) (pp : Int32) (qq : Int32) (ia : Int32) (ib : Int32) (nn : Int32) : HC l my_X11_copy mb_X11_copy 8 ((some .int)) (rmD 3 0 0) D (TY cy) [.ref (q 0), .int pp, .int qq, .int ia, .int ib, .int nn] NX [(q 0, .inr (11, fX q)), (q 1, .inl (cy 4, 8, .inr (.inr (.inr (.inr (shv q)))))), (q 2, .inl (cy 0, 5, .inl (fun _ => 0))), (q 97, .inr (7, fShelf (fun k => q (97 + k)))), (q 98, .inl (cy 2, 40, .inr (.inl (fun _ => 0)))), (q 99, .inr (7, fShelf (fun k => q (99 + k)))), (q 100, .inl (cy 2, 40, .inr (.inl (fun _ => 0)))), (q 101, .inr (7, fShelf (fun k => q (101 + k)))), (q 102, .inl (cy 2, 40, .inr (.inl (fun _ => 0)))), (q 103, .inr (7, fShelf (fun k => q (103 + k)))), (q 104, .inl (cy 2, 40, .inr (.inl (fun _ => 0)))), (q 105, .inr (7, fShelf (fun k => q (105 + k)))), (q 106, .inl (cy 2, 40, .inr (.inl (fun _ => 0)))), (q 107, .inr (7, fShelf (fun k => q (107 + k)))), (q 108, .inl (cy 2, 40, .inr (.inl (fun _ => 0)))), (q 109, .inr (7, fShelf (fun k => q (109 + k)))), (q 110, .inl (cy 2, 40, .inr (.inl (fun _ => 0)))), (q 111, .inr (7, fShelf (fun k => q (111 + k)))), (q 112, .inl (cy 2, 40, .inr (.inl (fun _ => 0))))] (QI (S := Unit) D (fun r _ => if2 (0 ≤ pp.toInt ∧ pp.toInt ≤ 7 ∧ 0 ≤ qq.toInt ∧ qq.toInt ≤ 7) (-4) (-2) r) (fun _ => [])) := by
  refine hc_intro (by decide) (Nat.le_of_ble_eq_true rfl) (fun p e s m below meth c A ls Sx hr hlocks hin hl hP hD hK hS hA hX => ?_)
  have hx := Sx.1
  have hb := Sx.2.1
  have hl : lv_has ls 8 [(0, .ref (q 0)), (1, .int pp), (2, .int qq), (3, .int ia), (4, .int ib), (5, .int nn)] := hl
  have hP : va_P D cls [(q 0, .inr (11, fX q)), (q 1, .inl (cy 4, 8, .inr (.inr (.inr (.inr (shv q)))))), (q 2, .inl (cy 0, 5, .inl (fun _ => 0))), (q 97, .inr (7, fShelf (fun k => q (97 + k)))), (q 98, .inl (cy 2, 40, .inr (.inl (fun _ => 0)))), (q 99, .inr (7, fShelf (fun k => q (99 + k)))), (q 100, .inl (cy 2, 40, .inr (.inl (fun _ => 0)))), (q 101, .inr (7, fShelf (fun k => q (101 + k)))), (q 102, .inl (cy 2, 40, .inr (.inl (fun _ => 0)))), (q 103, .inr (7, fShelf (fun k => q (103 + k)))), (q 104, .inl (cy 2, 40, .inr (.inl (fun _ => 0)))), (q 105, .inr (7, fShelf (fun k => q (105 + k)))), (q 106, .inl (cy 2, 40, .inr (.inl (fun _ => 0)))), (q 107, .inr (7, fShelf (fun k => q (107 + k)))), (q 108, .inl (cy 2, 40, .inr (.inl (fun _ => 0)))), (q 109, .inr (7, fShelf (fun k => q (109 + k)))), (q 110, .inl (cy 2, 40, .inr (.inl (fun _ => 0)))), (q 111, .inr (7, fShelf (fun k => q (111 + k)))), (q 112, .inl (cy 2, 40, .inr (.inl (fun _ => 0))))] s.heap := hP
  have hD : va_D A [(q 0, .inr (11, fX q)), (q 1, .inl (cy 4, 8, .inr (.inr (.inr (.inr (shv q)))))), (q 2, .inl (cy 0, 5, .inl (fun _ => 0))), (q 97, .inr (7, fShelf (fun k => q (97 + k)))), (q 98, .inl (cy 2, 40, .inr (.inl (fun _ => 0)))), (q 99, .inr (7, fShelf (fun k => q (99 + k)))), (q 100, .inl (cy 2, 40, .inr (.inl (fun _ => 0)))), (q 101, .inr (7, fShelf (fun k => q (101 + k)))), (q 102, .inl (cy 2, 40, .inr (.inl (fun _ => 0)))), (q 103, .inr (7, fShelf (fun k => q (103 + k)))), (q 104, .inl (cy 2, 40, .inr (.inl (fun _ => 0)))), (q 105, .inr (7, fShelf (fun k => q (105 + k)))), (q 106, .inl (cy 2, 40, .inr (.inl (fun _ => 0)))), (q 107, .inr (7, fShelf (fun k => q (107 + k)))), (q 108, .inl (cy 2, 40, .inr (.inl (fun _ => 0)))), (q 109, .inr (7, fShelf (fun k => q (109 + k)))), (q 110, .inl (cy 2, 40, .inr (.inl (fun _ => 0)))), (q 111, .inr (7, fShelf (fun k => q (111 + k)))), (q 112, .inl (cy 2, 40, .inr (.inl (fun _ => 0))))] := hD
  refine lv_iload_n hx hb dd_X11_copy_0 rfl (lv_at hl 1 rfl) ?_
  refine pk_i (pc_T [.int pp] [] Sx hl.1 ws_X_55 md_X11_isShelf (c_isShelf l D cy pp) ⟨rfl, rfl⟩ ⟨Nat.le_of_ble_eq_true rfl, Nat.le_of_ble_eq_true rfl⟩ p_nil hK ns_b (ns_w hX) rfl rfl (Nat.le_of_ble_eq_true rfl) dd_X11_copy_1 ⟨Nat.le_of_ble_eq_true rfl, Nat.le_of_ble_eq_true rfl⟩) (fun r1 hw2 => ?_)
  rcases hw2 with ⟨hw2, ehw2⟩ | ⟨hw2, ehw2⟩
  · subst ehw2
    refine lv_if_eq (tgt := 14) hx hb dd_X11_copy_4 (by decide) (fun c => absurd c (by decide)) (fun _ => ?_)
    refine lv_iload_n hx hb dd_X11_copy_7 rfl (lv_at hl 2 rfl) ?_
    refine pk_i (pc_T [.int qq] [] Sx hl.1 ws_X_55 md_X11_isShelf (c_isShelf l D cy qq) ⟨rfl, rfl⟩ ⟨Nat.le_of_ble_eq_true rfl, Nat.le_of_ble_eq_true rfl⟩ p_nil hK ns_b (ns_w hX) rfl rfl (Nat.le_of_ble_eq_true rfl) dd_X11_copy_8 ⟨Nat.le_of_ble_eq_true rfl, Nat.le_of_ble_eq_true rfl⟩) (fun r3 hw4 => ?_)
    rcases hw4 with ⟨hw4, ehw4⟩ | ⟨hw4, ehw4⟩
    · subst ehw4
      refine lv_if_ne (tgt := 21) hx hb dd_X11_copy_11 (by decide) (fun _ => ?_) (fun c => absurd c (by decide))
      refine lv_aload_n hx hb dd_X11_copy_21 rfl (lv_at hl 0 rfl) ?_
      refine wk_get (v := .ref (q 1)) Sx ef_11 hK hP 0 rfl rfl 0 (by decide) kk_382 rfl dd_X11_copy_22 ?_
      refine lv_iload_n hx hb dd_X11_copy_25 rfl (lv_at hl 1 rfl) ?_
      have hi5 : vp_in pp 8 := (vi_of (by omega))
      refine va_aldq hx hb hK hP 1 4 rfl rfl hi5 dd_X11_copy_26 ?_
      obtain ⟨j6, hjj6, ejj6⟩ : ∃ y, y < 8 ∧ pp.toNatClampNeg = y := ⟨_, vi_lt hi5, rfl⟩
      have hpj6 := sh_p (cy := cy) (q := q) (hP.sub [3, 4, 5, 6, 7, 8, 9, 10, 11, 12, 13, 14, 15, 16, 17, 18] rfl) j6 hjj6
      have hdj6 := sh_d (cy := cy) (q := q) (hD.sub [3, 4, 5, 6, 7, 8, 9, 10, 11, 12, 13, 14, 15, 16, 17, 18] (by decide) rfl) j6 hjj6
      refine wk_val (v := .ref (q (97 + 2 * j6))) (by rw [ejj6, shv_at _ _ hjj6]; rfl) ?_
      refine lv_astore (lv' := [(6, .ref (q (97 + 2 * j6))), (0, .ref (q 0)), (1, .int pp), (2, .int qq), (3, .int ia), (4, .int ib), (5, .int nn)]) hx hb dd_X11_copy_27 hl (by decide) rfl (fun ls hl => ?_)
      refine lv_aload_n hx hb dd_X11_copy_29 rfl (lv_at hl 1 rfl) ?_
      refine wk_get (v := .ref (q 1)) Sx ef_11 hK hP 0 rfl rfl 0 (by decide) kk_382 rfl dd_X11_copy_30 ?_
      refine lv_iload_n hx hb dd_X11_copy_33 rfl (lv_at hl 3 rfl) ?_
      have hi7 : vp_in qq 8 := (vi_of (by omega))
      refine va_aldq hx hb hK hP 1 4 rfl rfl hi7 dd_X11_copy_34 ?_
      obtain ⟨j8, hjj8, ejj8⟩ : ∃ y, y < 8 ∧ qq.toNatClampNeg = y := ⟨_, vi_lt hi7, rfl⟩
      have hpj8 := sh_p (cy := cy) (q := q) (hP.sub [3, 4, 5, 6, 7, 8, 9, 10, 11, 12, 13, 14, 15, 16, 17, 18] rfl) j8 hjj8
      have hdj8 := sh_d (cy := cy) (q := q) (hD.sub [3, 4, 5, 6, 7, 8, 9, 10, 11, 12, 13, 14, 15, 16, 17, 18] (by decide) rfl) j8 hjj8
      refine wk_val (v := .ref (q (97 + 2 * j8))) (by rw [ejj8, shv_at _ _ hjj8]; rfl) ?_
      refine lv_astore (lv' := [(7, .ref (q (97 + 2 * j8))), (6, .ref (q (97 + 2 * j6))), (0, .ref (q 0)), (1, .int pp), (2, .int qq), (3, .int ia), (4, .int ib), (5, .int nn)]) hx hb dd_X11_copy_35 hl (by decide) rfl (fun ls hl => ?_)
      refine lv_aload hx hb dd_X11_copy_37 (lv_at hl 1 rfl) ?_
      refine pk_i (pc_V [] [] Sx hl.1 ws_X_82 md_X7_hasThing (c_Shelf_hasThing l D cy (fun k => q (97 + 2 * j6 + k))) ⟨rfl, rfl⟩ ⟨Nat.le_of_ble_eq_true rfl, Nat.le_of_ble_eq_true rfl⟩ (hpj6.sub [0] rfl) hK ns_b (ns_w hX) (va_recv hK hpj6 (ci := 7) (q0 := 0) rfl rfl) rfl rfl (Nat.le_of_ble_eq_true rfl) dd_X11_copy_39 ⟨Nat.le_of_ble_eq_true rfl, Nat.le_of_ble_eq_true rfl⟩) (fun r9 hw10 => ?_)
      subst hw10
      refine lv_if_ne (tgt := 53) hx hb dd_X11_copy_42 (by decide) (fun c => absurd c (by decide)) (fun _ => ?_)
      refine lv_aload hx hb dd_X11_copy_45 (lv_at hl 0 rfl) ?_
      refine pk_i (pc_V [] [] Sx hl.1 ws_X_82 md_X7_hasThing (c_Shelf_hasThing l D cy (fun k => q (97 + 2 * j8 + k))) ⟨rfl, rfl⟩ ⟨Nat.le_of_ble_eq_true rfl, Nat.le_of_ble_eq_true rfl⟩ (hpj8.sub [0] rfl) hK ns_b (ns_w hX) (va_recv hK hpj8 (ci := 7) (q0 := 0) rfl rfl) rfl rfl (Nat.le_of_ble_eq_true rfl) dd_X11_copy_47 ⟨Nat.le_of_ble_eq_true rfl, Nat.le_of_ble_eq_true rfl⟩) (fun r11 hw12 => ?_)
      subst hw12
      refine lv_if_eq (tgt := 60) hx hb dd_X11_copy_50 (by decide) (fun _ => ?_) (fun c => absurd c (by decide))
      refine lv_aload hx hb dd_X11_copy_60 (lv_at hl 1 rfl) ?_
      refine pk_i (pc_V [] [] Sx hl.1 ws_X_86 md_X7_hasRow (c_Shelf_hasRow l D cy (fun k => q (97 + 2 * j6 + k))) ⟨rfl, rfl⟩ ⟨Nat.le_of_ble_eq_true rfl, Nat.le_of_ble_eq_true rfl⟩ (hpj6.sub [0] rfl) hK ns_b (ns_w hX) (va_recv hK hpj6 (ci := 7) (q0 := 0) rfl rfl) rfl rfl (Nat.le_of_ble_eq_true rfl) dd_X11_copy_62 ⟨Nat.le_of_ble_eq_true rfl, Nat.le_of_ble_eq_true rfl⟩) (fun r13 hw14 => ?_)
      subst hw14
      refine lv_if_eq (tgt := 96) hx hb dd_X11_copy_65 (by decide) (fun _ => ?_) (fun c => absurd c (by decide))
      refine lv_aload hx hb dd_X11_copy_96 (lv_at hl 1 rfl) ?_
      refine pk_i (pc_V [] [] Sx hl.1 ws_X_92 md_X7_isEmpty (c_Shelf_isEmpty l D cy (fun k => q (97 + 2 * j6 + k))) ⟨rfl, rfl⟩ ⟨Nat.le_of_ble_eq_true rfl, Nat.le_of_ble_eq_true rfl⟩ (hpj6.sub [0] rfl) hK ns_b (ns_w hX) (va_recv hK hpj6 (ci := 7) (q0 := 0) rfl rfl) rfl rfl (Nat.le_of_ble_eq_true rfl) dd_X11_copy_98 ⟨Nat.le_of_ble_eq_true rfl, Nat.le_of_ble_eq_true rfl⟩) (fun r15 hw16 => ?_)
      subst hw16
      refine lv_if_ne (tgt := 112) hx hb dd_X11_copy_101 (by decide) (fun _ => ?_) (fun c => absurd c (by decide))
      refine lv_aload_n hx hb dd_X11_copy_112 rfl (lv_at hl 2 rfl) ?_
      refine lv_bipush (v := (-4)) hx hb dd_X11_copy_113 (by decide) ?_
      refine hk_i (wr := [(q 1, .inl (cy 4, 8, .inr (.inr (.inr (.inr (shv q)))))), (q 97, .inr (7, fShelf (fun k => q (97 + k)))), (q 98, .inl (cy 2, 40, .inr (.inl (fun _ => 0)))), (q 99, .inr (7, fShelf (fun k => q (99 + k)))), (q 100, .inl (cy 2, 40, .inr (.inl (fun _ => 0)))), (q 101, .inr (7, fShelf (fun k => q (101 + k)))), (q 102, .inl (cy 2, 40, .inr (.inl (fun _ => 0)))), (q 103, .inr (7, fShelf (fun k => q (103 + k)))), (q 104, .inl (cy 2, 40, .inr (.inl (fun _ => 0)))), (q 105, .inr (7, fShelf (fun k => q (105 + k)))), (q 106, .inl (cy 2, 40, .inr (.inl (fun _ => 0)))), (q 107, .inr (7, fShelf (fun k => q (107 + k)))), (q 108, .inl (cy 2, 40, .inr (.inl (fun _ => 0)))), (q 109, .inr (7, fShelf (fun k => q (109 + k)))), (q 110, .inl (cy 2, 40, .inr (.inl (fun _ => 0)))), (q 111, .inr (7, fShelf (fun k => q (111 + k)))), (q 112, .inl (cy 2, 40, .inr (.inl (fun _ => 0))))]) (c1 := 0) (s1 := 0) [0, 2] [1, 3, 4, 5, 6, 7, 8, 9, 10, 11, 12, 13, 14, 15, 16, 17, 18] (hc_V [.int (-4)] [] [0, 2] Sx hl.1 ws_X_63 md_X11_refuse (c_refuse_4 l D cy q) ⟨Nat.le_of_ble_eq_true rfl, Nat.le_of_ble_eq_true rfl⟩ hP hD rfl (by decide) hK nx_b (nx_w hX) (va_recv hK hP (ci := 11) (q0 := 0) rfl rfl) rfl rfl (Nat.le_of_ble_eq_true rfl) dd_X11_copy_115 ⟨Nat.le_of_ble_eq_true rfl, Nat.le_of_ble_eq_true rfl⟩) hS hA hP hD rfl rfl (by decide) (by decide) rfl rfl (fun r17 u18 H locs hw19 hP hD hS => ?_)
      have hP : va_P D cls [(q 1, .inl (cy 4, 8, .inr (.inr (.inr (.inr (shv q)))))), (q 97, .inr (7, fShelf (fun k => q (97 + k)))), (q 98, .inl (cy 2, 40, .inr (.inl (fun _ => 0)))), (q 99, .inr (7, fShelf (fun k => q (99 + k)))), (q 100, .inl (cy 2, 40, .inr (.inl (fun _ => 0)))), (q 101, .inr (7, fShelf (fun k => q (101 + k)))), (q 102, .inl (cy 2, 40, .inr (.inl (fun _ => 0)))), (q 103, .inr (7, fShelf (fun k => q (103 + k)))), (q 104, .inl (cy 2, 40, .inr (.inl (fun _ => 0)))), (q 105, .inr (7, fShelf (fun k => q (105 + k)))), (q 106, .inl (cy 2, 40, .inr (.inl (fun _ => 0)))), (q 107, .inr (7, fShelf (fun k => q (107 + k)))), (q 108, .inl (cy 2, 40, .inr (.inl (fun _ => 0)))), (q 109, .inr (7, fShelf (fun k => q (109 + k)))), (q 110, .inl (cy 2, 40, .inr (.inl (fun _ => 0)))), (q 111, .inr (7, fShelf (fun k => q (111 + k)))), (q 112, .inl (cy 2, 40, .inr (.inl (fun _ => 0))))] H := hP
      have hD : va_D A [(q 1, .inl (cy 4, 8, .inr (.inr (.inr (.inr (shv q)))))), (q 97, .inr (7, fShelf (fun k => q (97 + k)))), (q 98, .inl (cy 2, 40, .inr (.inl (fun _ => 0)))), (q 99, .inr (7, fShelf (fun k => q (99 + k)))), (q 100, .inl (cy 2, 40, .inr (.inl (fun _ => 0)))), (q 101, .inr (7, fShelf (fun k => q (101 + k)))), (q 102, .inl (cy 2, 40, .inr (.inl (fun _ => 0)))), (q 103, .inr (7, fShelf (fun k => q (103 + k)))), (q 104, .inl (cy 2, 40, .inr (.inl (fun _ => 0)))), (q 105, .inr (7, fShelf (fun k => q (105 + k)))), (q 106, .inl (cy 2, 40, .inr (.inl (fun _ => 0)))), (q 107, .inr (7, fShelf (fun k => q (107 + k)))), (q 108, .inl (cy 2, 40, .inr (.inl (fun _ => 0)))), (q 109, .inr (7, fShelf (fun k => q (109 + k)))), (q 110, .inl (cy 2, 40, .inr (.inl (fun _ => 0)))), (q 111, .inr (7, fShelf (fun k => q (111 + k)))), (q 112, .inl (cy 2, 40, .inr (.inl (fun _ => 0))))] := hD
      subst hw19
      exact hc_ret Sx hr hlocks dd_X11_copy_118 hS () (Or.inl ⟨by omega, rfl⟩) p_nil d_nil
    · subst ehw4
      refine lv_if_ne (tgt := 21) hx hb dd_X11_copy_11 (by decide) (fun c => absurd c (by decide)) (fun _ => ?_)
      refine lv_aload_n hx hb dd_X11_copy_14 rfl (lv_at hl 0 rfl) ?_
      refine lv_bipush (v := (-2)) hx hb dd_X11_copy_15 (by decide) ?_
      refine hk_i (wr := [(q 1, .inl (cy 4, 8, .inr (.inr (.inr (.inr (shv q)))))), (q 97, .inr (7, fShelf (fun k => q (97 + k)))), (q 98, .inl (cy 2, 40, .inr (.inl (fun _ => 0)))), (q 99, .inr (7, fShelf (fun k => q (99 + k)))), (q 100, .inl (cy 2, 40, .inr (.inl (fun _ => 0)))), (q 101, .inr (7, fShelf (fun k => q (101 + k)))), (q 102, .inl (cy 2, 40, .inr (.inl (fun _ => 0)))), (q 103, .inr (7, fShelf (fun k => q (103 + k)))), (q 104, .inl (cy 2, 40, .inr (.inl (fun _ => 0)))), (q 105, .inr (7, fShelf (fun k => q (105 + k)))), (q 106, .inl (cy 2, 40, .inr (.inl (fun _ => 0)))), (q 107, .inr (7, fShelf (fun k => q (107 + k)))), (q 108, .inl (cy 2, 40, .inr (.inl (fun _ => 0)))), (q 109, .inr (7, fShelf (fun k => q (109 + k)))), (q 110, .inl (cy 2, 40, .inr (.inl (fun _ => 0)))), (q 111, .inr (7, fShelf (fun k => q (111 + k)))), (q 112, .inl (cy 2, 40, .inr (.inl (fun _ => 0))))]) (c1 := 0) (s1 := 0) [0, 2] [1, 3, 4, 5, 6, 7, 8, 9, 10, 11, 12, 13, 14, 15, 16, 17, 18] (hc_V [.int (-2)] [] [0, 2] Sx hl.1 ws_X_63 md_X11_refuse (c_refuse_2 l D cy q) ⟨Nat.le_of_ble_eq_true rfl, Nat.le_of_ble_eq_true rfl⟩ hP hD rfl (by decide) hK nx_b (nx_w hX) (va_recv hK hP (ci := 11) (q0 := 0) rfl rfl) rfl rfl (Nat.le_of_ble_eq_true rfl) dd_X11_copy_17 ⟨Nat.le_of_ble_eq_true rfl, Nat.le_of_ble_eq_true rfl⟩) hS hA hP hD rfl rfl (by decide) (by decide) rfl rfl (fun r20 u21 H locs hw22 hP hD hS => ?_)
      have hP : va_P D cls [(q 1, .inl (cy 4, 8, .inr (.inr (.inr (.inr (shv q)))))), (q 97, .inr (7, fShelf (fun k => q (97 + k)))), (q 98, .inl (cy 2, 40, .inr (.inl (fun _ => 0)))), (q 99, .inr (7, fShelf (fun k => q (99 + k)))), (q 100, .inl (cy 2, 40, .inr (.inl (fun _ => 0)))), (q 101, .inr (7, fShelf (fun k => q (101 + k)))), (q 102, .inl (cy 2, 40, .inr (.inl (fun _ => 0)))), (q 103, .inr (7, fShelf (fun k => q (103 + k)))), (q 104, .inl (cy 2, 40, .inr (.inl (fun _ => 0)))), (q 105, .inr (7, fShelf (fun k => q (105 + k)))), (q 106, .inl (cy 2, 40, .inr (.inl (fun _ => 0)))), (q 107, .inr (7, fShelf (fun k => q (107 + k)))), (q 108, .inl (cy 2, 40, .inr (.inl (fun _ => 0)))), (q 109, .inr (7, fShelf (fun k => q (109 + k)))), (q 110, .inl (cy 2, 40, .inr (.inl (fun _ => 0)))), (q 111, .inr (7, fShelf (fun k => q (111 + k)))), (q 112, .inl (cy 2, 40, .inr (.inl (fun _ => 0))))] H := hP
      have hD : va_D A [(q 1, .inl (cy 4, 8, .inr (.inr (.inr (.inr (shv q)))))), (q 97, .inr (7, fShelf (fun k => q (97 + k)))), (q 98, .inl (cy 2, 40, .inr (.inl (fun _ => 0)))), (q 99, .inr (7, fShelf (fun k => q (99 + k)))), (q 100, .inl (cy 2, 40, .inr (.inl (fun _ => 0)))), (q 101, .inr (7, fShelf (fun k => q (101 + k)))), (q 102, .inl (cy 2, 40, .inr (.inl (fun _ => 0)))), (q 103, .inr (7, fShelf (fun k => q (103 + k)))), (q 104, .inl (cy 2, 40, .inr (.inl (fun _ => 0)))), (q 105, .inr (7, fShelf (fun k => q (105 + k)))), (q 106, .inl (cy 2, 40, .inr (.inl (fun _ => 0)))), (q 107, .inr (7, fShelf (fun k => q (107 + k)))), (q 108, .inl (cy 2, 40, .inr (.inl (fun _ => 0)))), (q 109, .inr (7, fShelf (fun k => q (109 + k)))), (q 110, .inl (cy 2, 40, .inr (.inl (fun _ => 0)))), (q 111, .inr (7, fShelf (fun k => q (111 + k)))), (q 112, .inl (cy 2, 40, .inr (.inl (fun _ => 0))))] := hD
      subst hw22
      exact hc_ret Sx hr hlocks dd_X11_copy_20 hS () (Or.inr ⟨by omega, rfl⟩) p_nil d_nil
  · subst ehw2
    refine lv_if_eq (tgt := 14) hx hb dd_X11_copy_4 (by decide) (fun _ => ?_) (fun c => absurd c (by decide))
    refine lv_aload_n hx hb dd_X11_copy_14 rfl (lv_at hl 0 rfl) ?_
    refine lv_bipush (v := (-2)) hx hb dd_X11_copy_15 (by decide) ?_
    refine hk_i (wr := [(q 1, .inl (cy 4, 8, .inr (.inr (.inr (.inr (shv q)))))), (q 97, .inr (7, fShelf (fun k => q (97 + k)))), (q 98, .inl (cy 2, 40, .inr (.inl (fun _ => 0)))), (q 99, .inr (7, fShelf (fun k => q (99 + k)))), (q 100, .inl (cy 2, 40, .inr (.inl (fun _ => 0)))), (q 101, .inr (7, fShelf (fun k => q (101 + k)))), (q 102, .inl (cy 2, 40, .inr (.inl (fun _ => 0)))), (q 103, .inr (7, fShelf (fun k => q (103 + k)))), (q 104, .inl (cy 2, 40, .inr (.inl (fun _ => 0)))), (q 105, .inr (7, fShelf (fun k => q (105 + k)))), (q 106, .inl (cy 2, 40, .inr (.inl (fun _ => 0)))), (q 107, .inr (7, fShelf (fun k => q (107 + k)))), (q 108, .inl (cy 2, 40, .inr (.inl (fun _ => 0)))), (q 109, .inr (7, fShelf (fun k => q (109 + k)))), (q 110, .inl (cy 2, 40, .inr (.inl (fun _ => 0)))), (q 111, .inr (7, fShelf (fun k => q (111 + k)))), (q 112, .inl (cy 2, 40, .inr (.inl (fun _ => 0))))]) (c1 := 0) (s1 := 0) [0, 2] [1, 3, 4, 5, 6, 7, 8, 9, 10, 11, 12, 13, 14, 15, 16, 17, 18] (hc_V [.int (-2)] [] [0, 2] Sx hl.1 ws_X_63 md_X11_refuse (c_refuse_2 l D cy q) ⟨Nat.le_of_ble_eq_true rfl, Nat.le_of_ble_eq_true rfl⟩ hP hD rfl (by decide) hK nx_b (nx_w hX) (va_recv hK hP (ci := 11) (q0 := 0) rfl rfl) rfl rfl (Nat.le_of_ble_eq_true rfl) dd_X11_copy_17 ⟨Nat.le_of_ble_eq_true rfl, Nat.le_of_ble_eq_true rfl⟩) hS hA hP hD rfl rfl (by decide) (by decide) rfl rfl (fun r23 u24 H locs hw25 hP hD hS => ?_)
    have hP : va_P D cls [(q 1, .inl (cy 4, 8, .inr (.inr (.inr (.inr (shv q)))))), (q 97, .inr (7, fShelf (fun k => q (97 + k)))), (q 98, .inl (cy 2, 40, .inr (.inl (fun _ => 0)))), (q 99, .inr (7, fShelf (fun k => q (99 + k)))), (q 100, .inl (cy 2, 40, .inr (.inl (fun _ => 0)))), (q 101, .inr (7, fShelf (fun k => q (101 + k)))), (q 102, .inl (cy 2, 40, .inr (.inl (fun _ => 0)))), (q 103, .inr (7, fShelf (fun k => q (103 + k)))), (q 104, .inl (cy 2, 40, .inr (.inl (fun _ => 0)))), (q 105, .inr (7, fShelf (fun k => q (105 + k)))), (q 106, .inl (cy 2, 40, .inr (.inl (fun _ => 0)))), (q 107, .inr (7, fShelf (fun k => q (107 + k)))), (q 108, .inl (cy 2, 40, .inr (.inl (fun _ => 0)))), (q 109, .inr (7, fShelf (fun k => q (109 + k)))), (q 110, .inl (cy 2, 40, .inr (.inl (fun _ => 0)))), (q 111, .inr (7, fShelf (fun k => q (111 + k)))), (q 112, .inl (cy 2, 40, .inr (.inl (fun _ => 0))))] H := hP
    have hD : va_D A [(q 1, .inl (cy 4, 8, .inr (.inr (.inr (.inr (shv q)))))), (q 97, .inr (7, fShelf (fun k => q (97 + k)))), (q 98, .inl (cy 2, 40, .inr (.inl (fun _ => 0)))), (q 99, .inr (7, fShelf (fun k => q (99 + k)))), (q 100, .inl (cy 2, 40, .inr (.inl (fun _ => 0)))), (q 101, .inr (7, fShelf (fun k => q (101 + k)))), (q 102, .inl (cy 2, 40, .inr (.inl (fun _ => 0)))), (q 103, .inr (7, fShelf (fun k => q (103 + k)))), (q 104, .inl (cy 2, 40, .inr (.inl (fun _ => 0)))), (q 105, .inr (7, fShelf (fun k => q (105 + k)))), (q 106, .inl (cy 2, 40, .inr (.inl (fun _ => 0)))), (q 107, .inr (7, fShelf (fun k => q (107 + k)))), (q 108, .inl (cy 2, 40, .inr (.inl (fun _ => 0)))), (q 109, .inr (7, fShelf (fun k => q (109 + k)))), (q 110, .inl (cy 2, 40, .inr (.inl (fun _ => 0)))), (q 111, .inr (7, fShelf (fun k => q (111 + k)))), (q 112, .inl (cy 2, 40, .inr (.inl (fun _ => 0))))] := hD
    subst hw25
    exact hc_ret Sx hr hlocks dd_X11_copy_20 hS () (Or.inr ⟨by omega, rfl⟩) p_nil d_nil
set_option maxHeartbeats 4000000 in
set_option maxRecDepth 100000 in
theorem c_X_element (l : Launch) (D : va_G) (cy : Nat → ClassId) (q : Nat → Nat) (sf : Int32) (ix : Int32) : PC l my_X11_element mb_X11_element 3 ((some .long)) (rmD 4 0 0) D (TY cy) [.ref (q 0), .int sf, .int ix] NS [(q 0, .inr (11, fX q)), (q 1, .inl (cy 4, 8, .inr (.inr (.inr (.inr (shv q)))))), (q 97, .inr (7, fShelf (fun k => q (97 + k)))), (q 98, .inl (cy 2, 40, .inr (.inl (fun _ => 0)))), (q 99, .inr (7, fShelf (fun k => q (99 + k)))), (q 100, .inl (cy 2, 40, .inr (.inl (fun _ => 0)))), (q 101, .inr (7, fShelf (fun k => q (101 + k)))), (q 102, .inl (cy 2, 40, .inr (.inl (fun _ => 0)))), (q 103, .inr (7, fShelf (fun k => q (103 + k)))), (q 104, .inl (cy 2, 40, .inr (.inl (fun _ => 0)))), (q 105, .inr (7, fShelf (fun k => q (105 + k)))), (q 106, .inl (cy 2, 40, .inr (.inl (fun _ => 0)))), (q 107, .inr (7, fShelf (fun k => q (107 + k)))), (q 108, .inl (cy 2, 40, .inr (.inl (fun _ => 0)))), (q 109, .inr (7, fShelf (fun k => q (109 + k)))), (q 110, .inl (cy 2, 40, .inr (.inl (fun _ => 0)))), (q 111, .inr (7, fShelf (fun k => q (111 + k)))), (q 112, .inl (cy 2, 40, .inr (.inl (fun _ => 0))))] (vp_Sl (fun r => r = 0)) := by
  refine pc_intro (by decide) (Nat.le_of_ble_eq_true rfl) (fun p e s m below meth c ls Sx hr hlocks hl hP hK hX => ?_)
  have hx := Sx.1
  have hb := Sx.2.1
  have hl : lv_has ls 3 [(0, .ref (q 0)), (1, .int sf), (2, .int ix)] := hl
  refine lv_iload_n hx hb dd_X11_element_0 rfl (lv_at hl 1 rfl) ?_
  refine pk_i (pc_T [.int sf] [] Sx hl.1 ws_X_55 md_X11_isShelf (c_isShelf l D cy sf) ⟨rfl, rfl⟩ ⟨Nat.le_of_ble_eq_true rfl, Nat.le_of_ble_eq_true rfl⟩ p_nil hK ns_b (ns_w hX) rfl rfl (Nat.le_of_ble_eq_true rfl) dd_X11_element_1 ⟨Nat.le_of_ble_eq_true rfl, Nat.le_of_ble_eq_true rfl⟩) (fun r1 hw2 => ?_)
  rcases hw2 with ⟨hw2, ehw2⟩ | ⟨hw2, ehw2⟩
  · subst ehw2
    refine lv_if_eq (tgt := 20) hx hb dd_X11_element_4 (by decide) (fun c => absurd c (by decide)) (fun _ => ?_)
    refine lv_aload_n hx hb dd_X11_element_7 rfl (lv_at hl 0 rfl) ?_
    refine wk_get (v := .ref (q 1)) Sx ef_11 hK hP 0 rfl rfl 0 (by decide) kk_382 rfl dd_X11_element_8 ?_
    refine lv_iload_n hx hb dd_X11_element_11 rfl (lv_at hl 1 rfl) ?_
    have hi3 : vp_in sf 8 := (vi_of (by omega))
    refine va_aldq hx hb hK hP 1 4 rfl rfl hi3 dd_X11_element_12 ?_
    obtain ⟨j4, hjj4, ejj4⟩ : ∃ y, y < 8 ∧ sf.toNatClampNeg = y := ⟨_, vi_lt hi3, rfl⟩
    have hpj4 := sh_p (cy := cy) (q := q) (hP.sub [2, 3, 4, 5, 6, 7, 8, 9, 10, 11, 12, 13, 14, 15, 16, 17] rfl) j4 hjj4
    refine wk_val (v := .ref (q (97 + 2 * j4))) (by rw [ejj4, shv_at _ _ hjj4]; rfl) ?_
    refine lv_iload_n hx hb dd_X11_element_13 rfl (lv_at hl 2 rfl) ?_
    refine pk_l (pc_V [.int ix] [] Sx hl.1 ws_X_109 md_X7_at (c_Shelf_at l D cy (fun k => q (97 + 2 * j4 + k)) ix) ⟨rfl, rfl⟩ ⟨Nat.le_of_ble_eq_true rfl, Nat.le_of_ble_eq_true rfl⟩ (hpj4.sub [0] rfl) hK ns_b (ns_w hX) (va_recv hK hpj4 (ci := 7) (q0 := 0) rfl rfl) rfl rfl (Nat.le_of_ble_eq_true rfl) dd_X11_element_14 ⟨Nat.le_of_ble_eq_true rfl, Nat.le_of_ble_eq_true rfl⟩) (fun r5 hw6 => ?_)
    subst hw6
    refine lv_goto (tgt := 21) hx hb dd_X11_element_17 (by decide) ?_
    exact pc_lret Sx hr hlocks dd_X11_element_21 rfl
  · subst ehw2
    refine lv_if_eq (tgt := 20) hx hb dd_X11_element_4 (by decide) (fun _ => ?_) (fun c => absurd c (by decide))
    refine lv_lconst (v := 0) hx hb dd_X11_element_20 rfl ?_
    exact pc_lret Sx hr hlocks dd_X11_element_21 rfl
set_option maxHeartbeats 4000000 in
set_option maxRecDepth 100000 in
theorem c_X_holds (l : Launch) (D : va_G) (cy : Nat → ClassId) (q : Nat → Nat) (sf : Int32) : PC l my_X11_holds mb_X11_holds 2 ((some .int)) (rmD 3 0 0) D (TY cy) [.ref (q 0), .int sf] NS [(q 0, .inr (11, fX q)), (q 1, .inl (cy 4, 8, .inr (.inr (.inr (.inr (shv q)))))), (q 97, .inr (7, fShelf (fun k => q (97 + k)))), (q 98, .inl (cy 2, 40, .inr (.inl (fun _ => 0)))), (q 99, .inr (7, fShelf (fun k => q (99 + k)))), (q 100, .inl (cy 2, 40, .inr (.inl (fun _ => 0)))), (q 101, .inr (7, fShelf (fun k => q (101 + k)))), (q 102, .inl (cy 2, 40, .inr (.inl (fun _ => 0)))), (q 103, .inr (7, fShelf (fun k => q (103 + k)))), (q 104, .inl (cy 2, 40, .inr (.inl (fun _ => 0)))), (q 105, .inr (7, fShelf (fun k => q (105 + k)))), (q 106, .inl (cy 2, 40, .inr (.inl (fun _ => 0)))), (q 107, .inr (7, fShelf (fun k => q (107 + k)))), (q 108, .inl (cy 2, 40, .inr (.inl (fun _ => 0)))), (q 109, .inr (7, fShelf (fun k => q (109 + k)))), (q 110, .inl (cy 2, 40, .inr (.inl (fun _ => 0)))), (q 111, .inr (7, fShelf (fun k => q (111 + k)))), (q 112, .inl (cy 2, 40, .inr (.inl (fun _ => 0))))] (vp_Si (fun r => r = (-1))) := by
  refine pc_intro (by decide) (Nat.le_of_ble_eq_true rfl) (fun p e s m below meth c ls Sx hr hlocks hl hP hK hX => ?_)
  have hx := Sx.1
  have hb := Sx.2.1
  have hl : lv_has ls 2 [(0, .ref (q 0)), (1, .int sf)] := hl
  refine lv_iload_n hx hb dd_X11_holds_0 rfl (lv_at hl 1 rfl) ?_
  refine pk_i (pc_T [.int sf] [] Sx hl.1 ws_X_55 md_X11_isShelf (c_isShelf l D cy sf) ⟨rfl, rfl⟩ ⟨Nat.le_of_ble_eq_true rfl, Nat.le_of_ble_eq_true rfl⟩ p_nil hK ns_b (ns_w hX) rfl rfl (Nat.le_of_ble_eq_true rfl) dd_X11_holds_1 ⟨Nat.le_of_ble_eq_true rfl, Nat.le_of_ble_eq_true rfl⟩) (fun r1 hw2 => ?_)
  rcases hw2 with ⟨hw2, ehw2⟩ | ⟨hw2, ehw2⟩
  · subst ehw2
    refine lv_if_eq (tgt := 19) hx hb dd_X11_holds_4 (by decide) (fun c => absurd c (by decide)) (fun _ => ?_)
    refine lv_aload_n hx hb dd_X11_holds_7 rfl (lv_at hl 0 rfl) ?_
    refine wk_get (v := .ref (q 1)) Sx ef_11 hK hP 0 rfl rfl 0 (by decide) kk_382 rfl dd_X11_holds_8 ?_
    refine lv_iload_n hx hb dd_X11_holds_11 rfl (lv_at hl 1 rfl) ?_
    have hi3 : vp_in sf 8 := (vi_of (by omega))
    refine va_aldq hx hb hK hP 1 4 rfl rfl hi3 dd_X11_holds_12 ?_
    obtain ⟨j4, hjj4, ejj4⟩ : ∃ y, y < 8 ∧ sf.toNatClampNeg = y := ⟨_, vi_lt hi3, rfl⟩
    have hpj4 := sh_p (cy := cy) (q := q) (hP.sub [2, 3, 4, 5, 6, 7, 8, 9, 10, 11, 12, 13, 14, 15, 16, 17] rfl) j4 hjj4
    refine wk_val (v := .ref (q (97 + 2 * j4))) (by rw [ejj4, shv_at _ _ hjj4]; rfl) ?_
    refine wk_get (v := .int (-1)) Sx ef_7 hK hpj4 0 rfl rfl 1 (by decide) kk_371 rfl dd_X11_holds_13 ?_
    refine lv_goto (tgt := 20) hx hb dd_X11_holds_16 (by decide) ?_
    exact pc_ret Sx hr hlocks rfl dd_X11_holds_20 rfl
  · subst ehw2
    refine lv_if_eq (tgt := 19) hx hb dd_X11_holds_4 (by decide) (fun _ => ?_) (fun c => absurd c (by decide))
    refine lv_iconst (v := (-1)) hx hb dd_X11_holds_19 (by decide) ?_
    exact pc_ret Sx hr hlocks rfl dd_X11_holds_20 rfl
set_option maxHeartbeats 4000000 in
set_option maxRecDepth 100000 in
theorem c_X_show (l : Launch) (D : va_G) (cy : Nat → ClassId) (q : Nat → Nat) (sf : Int32) (th : Int32) : HC l my_X11_show mb_X11_show 3 ((some .int)) (rmD 3 0 0) D (TY cy) [.ref (q 0), .int sf, .int th] NX [(q 0, .inr (11, fX q)), (q 1, .inl (cy 4, 8, .inr (.inr (.inr (.inr (shv q)))))), (q 2, .inl (cy 0, 5, .inl (fun _ => 0))), (q 5, .inr (1, fHall (fun k => q (5 + k)))), (q 6, .inr (10, fThings (fun k => q (6 + k)))), (q 97, .inr (7, fShelf (fun k => q (97 + k)))), (q 98, .inl (cy 2, 40, .inr (.inl (fun _ => 0)))), (q 99, .inr (7, fShelf (fun k => q (99 + k)))), (q 100, .inl (cy 2, 40, .inr (.inl (fun _ => 0)))), (q 101, .inr (7, fShelf (fun k => q (101 + k)))), (q 102, .inl (cy 2, 40, .inr (.inl (fun _ => 0)))), (q 103, .inr (7, fShelf (fun k => q (103 + k)))), (q 104, .inl (cy 2, 40, .inr (.inl (fun _ => 0)))), (q 105, .inr (7, fShelf (fun k => q (105 + k)))), (q 106, .inl (cy 2, 40, .inr (.inl (fun _ => 0)))), (q 107, .inr (7, fShelf (fun k => q (107 + k)))), (q 108, .inl (cy 2, 40, .inr (.inl (fun _ => 0)))), (q 109, .inr (7, fShelf (fun k => q (109 + k)))), (q 110, .inl (cy 2, 40, .inr (.inl (fun _ => 0)))), (q 111, .inr (7, fShelf (fun k => q (111 + k)))), (q 112, .inl (cy 2, 40, .inr (.inl (fun _ => 0))))] (QI (S := Unit) D (fun r _ => if2 (0 ≤ sf.toInt ∧ sf.toInt ≤ 7 ∧ (-1) ≤ th.toInt ∧ th.toInt ≤ (-1)) 1 (-2) r) (fun _ => [])) := by
  refine hc_intro (by decide) (Nat.le_of_ble_eq_true rfl) (fun p e s m below meth c A ls Sx hr hlocks hin hl hP hD hK hS hA hX => ?_)
  have hx := Sx.1
  have hb := Sx.2.1
  have hl : lv_has ls 3 [(0, .ref (q 0)), (1, .int sf), (2, .int th)] := hl
  have hP : va_P D cls [(q 0, .inr (11, fX q)), (q 1, .inl (cy 4, 8, .inr (.inr (.inr (.inr (shv q)))))), (q 2, .inl (cy 0, 5, .inl (fun _ => 0))), (q 5, .inr (1, fHall (fun k => q (5 + k)))), (q 6, .inr (10, fThings (fun k => q (6 + k)))), (q 97, .inr (7, fShelf (fun k => q (97 + k)))), (q 98, .inl (cy 2, 40, .inr (.inl (fun _ => 0)))), (q 99, .inr (7, fShelf (fun k => q (99 + k)))), (q 100, .inl (cy 2, 40, .inr (.inl (fun _ => 0)))), (q 101, .inr (7, fShelf (fun k => q (101 + k)))), (q 102, .inl (cy 2, 40, .inr (.inl (fun _ => 0)))), (q 103, .inr (7, fShelf (fun k => q (103 + k)))), (q 104, .inl (cy 2, 40, .inr (.inl (fun _ => 0)))), (q 105, .inr (7, fShelf (fun k => q (105 + k)))), (q 106, .inl (cy 2, 40, .inr (.inl (fun _ => 0)))), (q 107, .inr (7, fShelf (fun k => q (107 + k)))), (q 108, .inl (cy 2, 40, .inr (.inl (fun _ => 0)))), (q 109, .inr (7, fShelf (fun k => q (109 + k)))), (q 110, .inl (cy 2, 40, .inr (.inl (fun _ => 0)))), (q 111, .inr (7, fShelf (fun k => q (111 + k)))), (q 112, .inl (cy 2, 40, .inr (.inl (fun _ => 0))))] s.heap := hP
  have hD : va_D A [(q 0, .inr (11, fX q)), (q 1, .inl (cy 4, 8, .inr (.inr (.inr (.inr (shv q)))))), (q 2, .inl (cy 0, 5, .inl (fun _ => 0))), (q 5, .inr (1, fHall (fun k => q (5 + k)))), (q 6, .inr (10, fThings (fun k => q (6 + k)))), (q 97, .inr (7, fShelf (fun k => q (97 + k)))), (q 98, .inl (cy 2, 40, .inr (.inl (fun _ => 0)))), (q 99, .inr (7, fShelf (fun k => q (99 + k)))), (q 100, .inl (cy 2, 40, .inr (.inl (fun _ => 0)))), (q 101, .inr (7, fShelf (fun k => q (101 + k)))), (q 102, .inl (cy 2, 40, .inr (.inl (fun _ => 0)))), (q 103, .inr (7, fShelf (fun k => q (103 + k)))), (q 104, .inl (cy 2, 40, .inr (.inl (fun _ => 0)))), (q 105, .inr (7, fShelf (fun k => q (105 + k)))), (q 106, .inl (cy 2, 40, .inr (.inl (fun _ => 0)))), (q 107, .inr (7, fShelf (fun k => q (107 + k)))), (q 108, .inl (cy 2, 40, .inr (.inl (fun _ => 0)))), (q 109, .inr (7, fShelf (fun k => q (109 + k)))), (q 110, .inl (cy 2, 40, .inr (.inl (fun _ => 0)))), (q 111, .inr (7, fShelf (fun k => q (111 + k)))), (q 112, .inl (cy 2, 40, .inr (.inl (fun _ => 0))))] := hD
  refine lv_iload_n hx hb dd_X11_show_0 rfl (lv_at hl 1 rfl) ?_
  refine pk_i (pc_T [.int sf] [] Sx hl.1 ws_X_55 md_X11_isShelf (c_isShelf l D cy sf) ⟨rfl, rfl⟩ ⟨Nat.le_of_ble_eq_true rfl, Nat.le_of_ble_eq_true rfl⟩ p_nil hK ns_b (ns_w hX) rfl rfl (Nat.le_of_ble_eq_true rfl) dd_X11_show_1 ⟨Nat.le_of_ble_eq_true rfl, Nat.le_of_ble_eq_true rfl⟩) (fun r1 hw2 => ?_)
  rcases hw2 with ⟨hw2, ehw2⟩ | ⟨hw2, ehw2⟩
  · subst ehw2
    refine lv_if_eq (tgt := 26) hx hb dd_X11_show_4 (by decide) (fun c => absurd c (by decide)) (fun _ => ?_)
    refine lv_iload_n hx hb dd_X11_show_7 rfl (lv_at hl 2 rfl) ?_
    refine lv_iconst (v := (-1)) hx hb dd_X11_show_8 (by decide) ?_
    refine lv_icmp_eq (tgt := 33) hx hb dd_X11_show_9 (by decide) (fun c3 => ?_) (fun c3 => ?_)
    · have fc3 := ci_eq (a := th.toInt) (b := (-1)) rfl rfl c3
      refine lv_aload_n hx hb dd_X11_show_33 rfl (lv_at hl 0 rfl) ?_
      refine wk_get (v := .ref (q 1)) Sx ef_11 hK hP 0 rfl rfl 0 (by decide) kk_382 rfl dd_X11_show_34 ?_
      refine lv_iload_n hx hb dd_X11_show_37 rfl (lv_at hl 1 rfl) ?_
      have hi4 : vp_in sf 8 := (vi_of (by omega))
      refine va_aldq hx hb hK hP 1 4 rfl rfl hi4 dd_X11_show_38 ?_
      obtain ⟨j5, hjj5, ejj5⟩ : ∃ y, y < 8 ∧ sf.toNatClampNeg = y := ⟨_, vi_lt hi4, rfl⟩
      have hpj5 := sh_p (cy := cy) (q := q) (hP.sub [5, 6, 7, 8, 9, 10, 11, 12, 13, 14, 15, 16, 17, 18, 19, 20] rfl) j5 hjj5
      have hdj5 := sh_d (cy := cy) (q := q) (hD.sub [5, 6, 7, 8, 9, 10, 11, 12, 13, 14, 15, 16, 17, 18, 19, 20] (by decide) rfl) j5 hjj5
      refine wk_val (v := .ref (q (97 + 2 * j5))) (by rw [ejj5, shv_at _ _ hjj5]; rfl) ?_
      refine lv_iload_n hx hb dd_X11_show_39 rfl (lv_at hl 2 rfl) ?_
      refine lv_iconst (v := (-1)) hx hb dd_X11_show_40 (by decide) ?_
      refine lv_icmp_ne (tgt := 48) hx hb dd_X11_show_41 (by decide) (fun c6 => ?_) (fun c6 => ?_)
      · have fc6 := ci_ne (a := th.toInt) (b := (-1)) rfl rfl c6
        exfalso; omega
      · have fc6 := ci_eq (a := th.toInt) (b := (-1)) rfl rfl c6
        refine lv_iconst (v := (-1)) hx hb dd_X11_show_44 (by decide) ?_
        refine lv_goto (tgt := 52) hx hb dd_X11_show_45 (by decide) ?_
        have hP := hpj5
        have hD := hdj5
        refine wk_put (ws' := [(q (97 + 2 * j5), .inr (7, fShelf (fun k => q (97 + 2 * j5 + k)))), (q (97 + 2 * j5 + 1), .inl (cy 2, 40, .inr (.inl (fun _ => 0))))]) Sx ef_7 hK hP hD hS 0 rfl rfl 1 (by decide) kk_371 rfl rfl rfl (Nat.le_of_ble_eq_true rfl) dd_X11_show_52 rfl (fun H locs hP hD hS => ?_)
        refine lv_iconst (v := 1) hx hb dd_X11_show_55 (by decide) ?_
        exact hc_ret Sx hr hlocks dd_X11_show_56 hS () (Or.inl ⟨by omega, rfl⟩) p_nil d_nil
    · have fc3 := ci_ne (a := th.toInt) (b := (-1)) rfl rfl c3
      refine lv_aload_n hx hb dd_X11_show_12 rfl (lv_at hl 0 rfl) ?_
      refine wk_get (v := .ref (q 5)) Sx ef_11 hK hP 0 rfl rfl 3 (by decide) kk_385 rfl dd_X11_show_13 ?_
      refine wk_get (v := .ref (q 6)) Sx ef_1 hK hP 3 rfl rfl 0 (by decide) kk_260 rfl dd_X11_show_16 ?_
      refine lv_iload_n hx hb dd_X11_show_19 rfl (lv_at hl 2 rfl) ?_
      refine pk_i (pc_V [.int th] [] Sx hl.1 ws_X_117 md_X10_has (c_Things_has l D cy (fun k => q (6 + k)) th) ⟨rfl, rfl⟩ ⟨Nat.le_of_ble_eq_true rfl, Nat.le_of_ble_eq_true rfl⟩ (hP.sub [4] rfl) hK ns_b (ns_w hX) (va_recv hK hP (ci := 10) (q0 := 4) rfl rfl) rfl rfl (Nat.le_of_ble_eq_true rfl) dd_X11_show_20 ⟨Nat.le_of_ble_eq_true rfl, Nat.le_of_ble_eq_true rfl⟩) (fun r7 hw8 => ?_)
      subst hw8
      refine lv_if_ne (tgt := 33) hx hb dd_X11_show_23 (by decide) (fun c => absurd c (by decide)) (fun _ => ?_)
      refine lv_aload_n hx hb dd_X11_show_26 rfl (lv_at hl 0 rfl) ?_
      refine lv_bipush (v := (-2)) hx hb dd_X11_show_27 (by decide) ?_
      refine hk_i (wr := [(q 1, .inl (cy 4, 8, .inr (.inr (.inr (.inr (shv q)))))), (q 5, .inr (1, fHall (fun k => q (5 + k)))), (q 6, .inr (10, fThings (fun k => q (6 + k)))), (q 97, .inr (7, fShelf (fun k => q (97 + k)))), (q 98, .inl (cy 2, 40, .inr (.inl (fun _ => 0)))), (q 99, .inr (7, fShelf (fun k => q (99 + k)))), (q 100, .inl (cy 2, 40, .inr (.inl (fun _ => 0)))), (q 101, .inr (7, fShelf (fun k => q (101 + k)))), (q 102, .inl (cy 2, 40, .inr (.inl (fun _ => 0)))), (q 103, .inr (7, fShelf (fun k => q (103 + k)))), (q 104, .inl (cy 2, 40, .inr (.inl (fun _ => 0)))), (q 105, .inr (7, fShelf (fun k => q (105 + k)))), (q 106, .inl (cy 2, 40, .inr (.inl (fun _ => 0)))), (q 107, .inr (7, fShelf (fun k => q (107 + k)))), (q 108, .inl (cy 2, 40, .inr (.inl (fun _ => 0)))), (q 109, .inr (7, fShelf (fun k => q (109 + k)))), (q 110, .inl (cy 2, 40, .inr (.inl (fun _ => 0)))), (q 111, .inr (7, fShelf (fun k => q (111 + k)))), (q 112, .inl (cy 2, 40, .inr (.inl (fun _ => 0))))]) (c1 := 0) (s1 := 0) [0, 2] [1, 3, 4, 5, 6, 7, 8, 9, 10, 11, 12, 13, 14, 15, 16, 17, 18, 19, 20] (hc_V [.int (-2)] [] [0, 2] Sx hl.1 ws_X_63 md_X11_refuse (c_refuse_2 l D cy q) ⟨Nat.le_of_ble_eq_true rfl, Nat.le_of_ble_eq_true rfl⟩ hP hD rfl (by decide) hK nx_b (nx_w hX) (va_recv hK hP (ci := 11) (q0 := 0) rfl rfl) rfl rfl (Nat.le_of_ble_eq_true rfl) dd_X11_show_29 ⟨Nat.le_of_ble_eq_true rfl, Nat.le_of_ble_eq_true rfl⟩) hS hA hP hD rfl rfl (by decide) (by decide) rfl rfl (fun r9 u10 H locs hw11 hP hD hS => ?_)
      have hP : va_P D cls [(q 1, .inl (cy 4, 8, .inr (.inr (.inr (.inr (shv q)))))), (q 5, .inr (1, fHall (fun k => q (5 + k)))), (q 6, .inr (10, fThings (fun k => q (6 + k)))), (q 97, .inr (7, fShelf (fun k => q (97 + k)))), (q 98, .inl (cy 2, 40, .inr (.inl (fun _ => 0)))), (q 99, .inr (7, fShelf (fun k => q (99 + k)))), (q 100, .inl (cy 2, 40, .inr (.inl (fun _ => 0)))), (q 101, .inr (7, fShelf (fun k => q (101 + k)))), (q 102, .inl (cy 2, 40, .inr (.inl (fun _ => 0)))), (q 103, .inr (7, fShelf (fun k => q (103 + k)))), (q 104, .inl (cy 2, 40, .inr (.inl (fun _ => 0)))), (q 105, .inr (7, fShelf (fun k => q (105 + k)))), (q 106, .inl (cy 2, 40, .inr (.inl (fun _ => 0)))), (q 107, .inr (7, fShelf (fun k => q (107 + k)))), (q 108, .inl (cy 2, 40, .inr (.inl (fun _ => 0)))), (q 109, .inr (7, fShelf (fun k => q (109 + k)))), (q 110, .inl (cy 2, 40, .inr (.inl (fun _ => 0)))), (q 111, .inr (7, fShelf (fun k => q (111 + k)))), (q 112, .inl (cy 2, 40, .inr (.inl (fun _ => 0))))] H := hP
      have hD : va_D A [(q 1, .inl (cy 4, 8, .inr (.inr (.inr (.inr (shv q)))))), (q 5, .inr (1, fHall (fun k => q (5 + k)))), (q 6, .inr (10, fThings (fun k => q (6 + k)))), (q 97, .inr (7, fShelf (fun k => q (97 + k)))), (q 98, .inl (cy 2, 40, .inr (.inl (fun _ => 0)))), (q 99, .inr (7, fShelf (fun k => q (99 + k)))), (q 100, .inl (cy 2, 40, .inr (.inl (fun _ => 0)))), (q 101, .inr (7, fShelf (fun k => q (101 + k)))), (q 102, .inl (cy 2, 40, .inr (.inl (fun _ => 0)))), (q 103, .inr (7, fShelf (fun k => q (103 + k)))), (q 104, .inl (cy 2, 40, .inr (.inl (fun _ => 0)))), (q 105, .inr (7, fShelf (fun k => q (105 + k)))), (q 106, .inl (cy 2, 40, .inr (.inl (fun _ => 0)))), (q 107, .inr (7, fShelf (fun k => q (107 + k)))), (q 108, .inl (cy 2, 40, .inr (.inl (fun _ => 0)))), (q 109, .inr (7, fShelf (fun k => q (109 + k)))), (q 110, .inl (cy 2, 40, .inr (.inl (fun _ => 0)))), (q 111, .inr (7, fShelf (fun k => q (111 + k)))), (q 112, .inl (cy 2, 40, .inr (.inl (fun _ => 0))))] := hD
      subst hw11
      exact hc_ret Sx hr hlocks dd_X11_show_32 hS () (Or.inr ⟨by omega, rfl⟩) p_nil d_nil
  · subst ehw2
    refine lv_if_eq (tgt := 26) hx hb dd_X11_show_4 (by decide) (fun _ => ?_) (fun c => absurd c (by decide))
    refine lv_aload_n hx hb dd_X11_show_26 rfl (lv_at hl 0 rfl) ?_
    refine lv_bipush (v := (-2)) hx hb dd_X11_show_27 (by decide) ?_
    refine hk_i (wr := [(q 1, .inl (cy 4, 8, .inr (.inr (.inr (.inr (shv q)))))), (q 5, .inr (1, fHall (fun k => q (5 + k)))), (q 6, .inr (10, fThings (fun k => q (6 + k)))), (q 97, .inr (7, fShelf (fun k => q (97 + k)))), (q 98, .inl (cy 2, 40, .inr (.inl (fun _ => 0)))), (q 99, .inr (7, fShelf (fun k => q (99 + k)))), (q 100, .inl (cy 2, 40, .inr (.inl (fun _ => 0)))), (q 101, .inr (7, fShelf (fun k => q (101 + k)))), (q 102, .inl (cy 2, 40, .inr (.inl (fun _ => 0)))), (q 103, .inr (7, fShelf (fun k => q (103 + k)))), (q 104, .inl (cy 2, 40, .inr (.inl (fun _ => 0)))), (q 105, .inr (7, fShelf (fun k => q (105 + k)))), (q 106, .inl (cy 2, 40, .inr (.inl (fun _ => 0)))), (q 107, .inr (7, fShelf (fun k => q (107 + k)))), (q 108, .inl (cy 2, 40, .inr (.inl (fun _ => 0)))), (q 109, .inr (7, fShelf (fun k => q (109 + k)))), (q 110, .inl (cy 2, 40, .inr (.inl (fun _ => 0)))), (q 111, .inr (7, fShelf (fun k => q (111 + k)))), (q 112, .inl (cy 2, 40, .inr (.inl (fun _ => 0))))]) (c1 := 0) (s1 := 0) [0, 2] [1, 3, 4, 5, 6, 7, 8, 9, 10, 11, 12, 13, 14, 15, 16, 17, 18, 19, 20] (hc_V [.int (-2)] [] [0, 2] Sx hl.1 ws_X_63 md_X11_refuse (c_refuse_2 l D cy q) ⟨Nat.le_of_ble_eq_true rfl, Nat.le_of_ble_eq_true rfl⟩ hP hD rfl (by decide) hK nx_b (nx_w hX) (va_recv hK hP (ci := 11) (q0 := 0) rfl rfl) rfl rfl (Nat.le_of_ble_eq_true rfl) dd_X11_show_29 ⟨Nat.le_of_ble_eq_true rfl, Nat.le_of_ble_eq_true rfl⟩) hS hA hP hD rfl rfl (by decide) (by decide) rfl rfl (fun r12 u13 H locs hw14 hP hD hS => ?_)
    have hP : va_P D cls [(q 1, .inl (cy 4, 8, .inr (.inr (.inr (.inr (shv q)))))), (q 5, .inr (1, fHall (fun k => q (5 + k)))), (q 6, .inr (10, fThings (fun k => q (6 + k)))), (q 97, .inr (7, fShelf (fun k => q (97 + k)))), (q 98, .inl (cy 2, 40, .inr (.inl (fun _ => 0)))), (q 99, .inr (7, fShelf (fun k => q (99 + k)))), (q 100, .inl (cy 2, 40, .inr (.inl (fun _ => 0)))), (q 101, .inr (7, fShelf (fun k => q (101 + k)))), (q 102, .inl (cy 2, 40, .inr (.inl (fun _ => 0)))), (q 103, .inr (7, fShelf (fun k => q (103 + k)))), (q 104, .inl (cy 2, 40, .inr (.inl (fun _ => 0)))), (q 105, .inr (7, fShelf (fun k => q (105 + k)))), (q 106, .inl (cy 2, 40, .inr (.inl (fun _ => 0)))), (q 107, .inr (7, fShelf (fun k => q (107 + k)))), (q 108, .inl (cy 2, 40, .inr (.inl (fun _ => 0)))), (q 109, .inr (7, fShelf (fun k => q (109 + k)))), (q 110, .inl (cy 2, 40, .inr (.inl (fun _ => 0)))), (q 111, .inr (7, fShelf (fun k => q (111 + k)))), (q 112, .inl (cy 2, 40, .inr (.inl (fun _ => 0))))] H := hP
    have hD : va_D A [(q 1, .inl (cy 4, 8, .inr (.inr (.inr (.inr (shv q)))))), (q 5, .inr (1, fHall (fun k => q (5 + k)))), (q 6, .inr (10, fThings (fun k => q (6 + k)))), (q 97, .inr (7, fShelf (fun k => q (97 + k)))), (q 98, .inl (cy 2, 40, .inr (.inl (fun _ => 0)))), (q 99, .inr (7, fShelf (fun k => q (99 + k)))), (q 100, .inl (cy 2, 40, .inr (.inl (fun _ => 0)))), (q 101, .inr (7, fShelf (fun k => q (101 + k)))), (q 102, .inl (cy 2, 40, .inr (.inl (fun _ => 0)))), (q 103, .inr (7, fShelf (fun k => q (103 + k)))), (q 104, .inl (cy 2, 40, .inr (.inl (fun _ => 0)))), (q 105, .inr (7, fShelf (fun k => q (105 + k)))), (q 106, .inl (cy 2, 40, .inr (.inl (fun _ => 0)))), (q 107, .inr (7, fShelf (fun k => q (107 + k)))), (q 108, .inl (cy 2, 40, .inr (.inl (fun _ => 0)))), (q 109, .inr (7, fShelf (fun k => q (109 + k)))), (q 110, .inl (cy 2, 40, .inr (.inl (fun _ => 0)))), (q 111, .inr (7, fShelf (fun k => q (111 + k)))), (q 112, .inl (cy 2, 40, .inr (.inl (fun _ => 0))))] := hD
    subst hw14
    exact hc_ret Sx hr hlocks dd_X11_show_32 hS () (Or.inr ⟨by omega, rfl⟩) p_nil d_nil
set_option maxHeartbeats 4000000 in
set_option maxRecDepth 100000 in
theorem c_X_says (l : Launch) (D : va_G) (cy : Nat → ClassId) (q : Nat → Nat) (sf : Int32) (ki : Int32) : HC l my_X11_says mb_X11_says 5 ((some .int)) (rmD 3 0 0) D (TY cy) [.ref (q 0), .int sf, .int ki] NX [(q 0, .inr (11, fX q)), (q 1, .inl (cy 4, 8, .inr (.inr (.inr (.inr (shv q)))))), (q 2, .inl (cy 0, 5, .inl (fun _ => 0))), (q 97, .inr (7, fShelf (fun k => q (97 + k)))), (q 98, .inl (cy 2, 40, .inr (.inl (fun _ => 0)))), (q 99, .inr (7, fShelf (fun k => q (99 + k)))), (q 100, .inl (cy 2, 40, .inr (.inl (fun _ => 0)))), (q 101, .inr (7, fShelf (fun k => q (101 + k)))), (q 102, .inl (cy 2, 40, .inr (.inl (fun _ => 0)))), (q 103, .inr (7, fShelf (fun k => q (103 + k)))), (q 104, .inl (cy 2, 40, .inr (.inl (fun _ => 0)))), (q 105, .inr (7, fShelf (fun k => q (105 + k)))), (q 106, .inl (cy 2, 40, .inr (.inl (fun _ => 0)))), (q 107, .inr (7, fShelf (fun k => q (107 + k)))), (q 108, .inl (cy 2, 40, .inr (.inl (fun _ => 0)))), (q 109, .inr (7, fShelf (fun k => q (109 + k)))), (q 110, .inl (cy 2, 40, .inr (.inl (fun _ => 0)))), (q 111, .inr (7, fShelf (fun k => q (111 + k)))), (q 112, .inl (cy 2, 40, .inr (.inl (fun _ => 0))))] (QI (S := Unit) D (fun r _ => if2 (0 ≤ sf.toInt ∧ sf.toInt ≤ 7 ∧ 0 ≤ ki.toInt ∧ ki.toInt ≤ 5) (-4) (-2) r) (fun _ => [])) := by
  refine hc_intro (by decide) (Nat.le_of_ble_eq_true rfl) (fun p e s m below meth c A ls Sx hr hlocks hin hl hP hD hK hS hA hX => ?_)
  have hx := Sx.1
  have hb := Sx.2.1
  have hl : lv_has ls 5 [(0, .ref (q 0)), (1, .int sf), (2, .int ki)] := hl
  have hP : va_P D cls [(q 0, .inr (11, fX q)), (q 1, .inl (cy 4, 8, .inr (.inr (.inr (.inr (shv q)))))), (q 2, .inl (cy 0, 5, .inl (fun _ => 0))), (q 97, .inr (7, fShelf (fun k => q (97 + k)))), (q 98, .inl (cy 2, 40, .inr (.inl (fun _ => 0)))), (q 99, .inr (7, fShelf (fun k => q (99 + k)))), (q 100, .inl (cy 2, 40, .inr (.inl (fun _ => 0)))), (q 101, .inr (7, fShelf (fun k => q (101 + k)))), (q 102, .inl (cy 2, 40, .inr (.inl (fun _ => 0)))), (q 103, .inr (7, fShelf (fun k => q (103 + k)))), (q 104, .inl (cy 2, 40, .inr (.inl (fun _ => 0)))), (q 105, .inr (7, fShelf (fun k => q (105 + k)))), (q 106, .inl (cy 2, 40, .inr (.inl (fun _ => 0)))), (q 107, .inr (7, fShelf (fun k => q (107 + k)))), (q 108, .inl (cy 2, 40, .inr (.inl (fun _ => 0)))), (q 109, .inr (7, fShelf (fun k => q (109 + k)))), (q 110, .inl (cy 2, 40, .inr (.inl (fun _ => 0)))), (q 111, .inr (7, fShelf (fun k => q (111 + k)))), (q 112, .inl (cy 2, 40, .inr (.inl (fun _ => 0))))] s.heap := hP
  have hD : va_D A [(q 0, .inr (11, fX q)), (q 1, .inl (cy 4, 8, .inr (.inr (.inr (.inr (shv q)))))), (q 2, .inl (cy 0, 5, .inl (fun _ => 0))), (q 97, .inr (7, fShelf (fun k => q (97 + k)))), (q 98, .inl (cy 2, 40, .inr (.inl (fun _ => 0)))), (q 99, .inr (7, fShelf (fun k => q (99 + k)))), (q 100, .inl (cy 2, 40, .inr (.inl (fun _ => 0)))), (q 101, .inr (7, fShelf (fun k => q (101 + k)))), (q 102, .inl (cy 2, 40, .inr (.inl (fun _ => 0)))), (q 103, .inr (7, fShelf (fun k => q (103 + k)))), (q 104, .inl (cy 2, 40, .inr (.inl (fun _ => 0)))), (q 105, .inr (7, fShelf (fun k => q (105 + k)))), (q 106, .inl (cy 2, 40, .inr (.inl (fun _ => 0)))), (q 107, .inr (7, fShelf (fun k => q (107 + k)))), (q 108, .inl (cy 2, 40, .inr (.inl (fun _ => 0)))), (q 109, .inr (7, fShelf (fun k => q (109 + k)))), (q 110, .inl (cy 2, 40, .inr (.inl (fun _ => 0)))), (q 111, .inr (7, fShelf (fun k => q (111 + k)))), (q 112, .inl (cy 2, 40, .inr (.inl (fun _ => 0))))] := hD
  refine lv_iload_n hx hb dd_X11_says_0 rfl (lv_at hl 1 rfl) ?_
  refine pk_i (pc_T [.int sf] [] Sx hl.1 ws_X_55 md_X11_isShelf (c_isShelf l D cy sf) ⟨rfl, rfl⟩ ⟨Nat.le_of_ble_eq_true rfl, Nat.le_of_ble_eq_true rfl⟩ p_nil hK ns_b (ns_w hX) rfl rfl (Nat.le_of_ble_eq_true rfl) dd_X11_says_1 ⟨Nat.le_of_ble_eq_true rfl, Nat.le_of_ble_eq_true rfl⟩) (fun r1 hw2 => ?_)
  rcases hw2 with ⟨hw2, ehw2⟩ | ⟨hw2, ehw2⟩
  · subst ehw2
    refine lv_if_eq (tgt := 14) hx hb dd_X11_says_4 (by decide) (fun c => absurd c (by decide)) (fun _ => ?_)
    refine lv_iload_n hx hb dd_X11_says_7 rfl (lv_at hl 2 rfl) ?_
    refine pk_i (pc_T [.int ki] [] Sx hl.1 ws_X_122 md_X11_isKind (c_isKind l D cy ki) ⟨rfl, rfl⟩ ⟨Nat.le_of_ble_eq_true rfl, Nat.le_of_ble_eq_true rfl⟩ p_nil hK ns_b (ns_w hX) rfl rfl (Nat.le_of_ble_eq_true rfl) dd_X11_says_8 ⟨Nat.le_of_ble_eq_true rfl, Nat.le_of_ble_eq_true rfl⟩) (fun r3 hw4 => ?_)
    rcases hw4 with ⟨hw4, ehw4⟩ | ⟨hw4, ehw4⟩
    · subst ehw4
      refine lv_if_ne (tgt := 21) hx hb dd_X11_says_11 (by decide) (fun _ => ?_) (fun c => absurd c (by decide))
      refine lv_aload_n hx hb dd_X11_says_21 rfl (lv_at hl 0 rfl) ?_
      refine wk_get (v := .ref (q 1)) Sx ef_11 hK hP 0 rfl rfl 0 (by decide) kk_382 rfl dd_X11_says_22 ?_
      refine lv_iload_n hx hb dd_X11_says_25 rfl (lv_at hl 1 rfl) ?_
      have hi5 : vp_in sf 8 := (vi_of (by omega))
      refine va_aldq hx hb hK hP 1 4 rfl rfl hi5 dd_X11_says_26 ?_
      obtain ⟨j6, hjj6, ejj6⟩ : ∃ y, y < 8 ∧ sf.toNatClampNeg = y := ⟨_, vi_lt hi5, rfl⟩
      have hpj6 := sh_p (cy := cy) (q := q) (hP.sub [3, 4, 5, 6, 7, 8, 9, 10, 11, 12, 13, 14, 15, 16, 17, 18] rfl) j6 hjj6
      have hdj6 := sh_d (cy := cy) (q := q) (hD.sub [3, 4, 5, 6, 7, 8, 9, 10, 11, 12, 13, 14, 15, 16, 17, 18] (by decide) rfl) j6 hjj6
      refine wk_val (v := .ref (q (97 + 2 * j6))) (by rw [ejj6, shv_at _ _ hjj6]; rfl) ?_
      refine lv_astore_n (lv' := [(3, .ref (q (97 + 2 * j6))), (0, .ref (q 0)), (1, .int sf), (2, .int ki)]) hx hb dd_X11_says_27 rfl hl (by decide) rfl (fun ls hl => ?_)
      refine lv_aload_n hx hb dd_X11_says_28 rfl (lv_at hl 0 rfl) ?_
      refine pk_i (pc_V [] [] Sx hl.1 ws_X_92 md_X7_isEmpty (c_Shelf_isEmpty l D cy (fun k => q (97 + 2 * j6 + k))) ⟨rfl, rfl⟩ ⟨Nat.le_of_ble_eq_true rfl, Nat.le_of_ble_eq_true rfl⟩ (hpj6.sub [0] rfl) hK ns_b (ns_w hX) (va_recv hK hpj6 (ci := 7) (q0 := 0) rfl rfl) rfl rfl (Nat.le_of_ble_eq_true rfl) dd_X11_says_29 ⟨Nat.le_of_ble_eq_true rfl, Nat.le_of_ble_eq_true rfl⟩) (fun r7 hw8 => ?_)
      subst hw8
      refine lv_if_eq (tgt := 42) hx hb dd_X11_says_32 (by decide) (fun c => absurd c (by decide)) (fun _ => ?_)
      refine lv_aload_n hx hb dd_X11_says_35 rfl (lv_at hl 1 rfl) ?_
      refine lv_bipush (v := (-4)) hx hb dd_X11_says_36 (by decide) ?_
      refine hk_i (wr := [(q 1, .inl (cy 4, 8, .inr (.inr (.inr (.inr (shv q)))))), (q 97, .inr (7, fShelf (fun k => q (97 + k)))), (q 98, .inl (cy 2, 40, .inr (.inl (fun _ => 0)))), (q 99, .inr (7, fShelf (fun k => q (99 + k)))), (q 100, .inl (cy 2, 40, .inr (.inl (fun _ => 0)))), (q 101, .inr (7, fShelf (fun k => q (101 + k)))), (q 102, .inl (cy 2, 40, .inr (.inl (fun _ => 0)))), (q 103, .inr (7, fShelf (fun k => q (103 + k)))), (q 104, .inl (cy 2, 40, .inr (.inl (fun _ => 0)))), (q 105, .inr (7, fShelf (fun k => q (105 + k)))), (q 106, .inl (cy 2, 40, .inr (.inl (fun _ => 0)))), (q 107, .inr (7, fShelf (fun k => q (107 + k)))), (q 108, .inl (cy 2, 40, .inr (.inl (fun _ => 0)))), (q 109, .inr (7, fShelf (fun k => q (109 + k)))), (q 110, .inl (cy 2, 40, .inr (.inl (fun _ => 0)))), (q 111, .inr (7, fShelf (fun k => q (111 + k)))), (q 112, .inl (cy 2, 40, .inr (.inl (fun _ => 0))))]) (c1 := 0) (s1 := 0) [0, 2] [1, 3, 4, 5, 6, 7, 8, 9, 10, 11, 12, 13, 14, 15, 16, 17, 18] (hc_V [.int (-4)] [] [0, 2] Sx hl.1 ws_X_63 md_X11_refuse (c_refuse_4 l D cy q) ⟨Nat.le_of_ble_eq_true rfl, Nat.le_of_ble_eq_true rfl⟩ hP hD rfl (by decide) hK nx_b (nx_w hX) (va_recv hK hP (ci := 11) (q0 := 0) rfl rfl) rfl rfl (Nat.le_of_ble_eq_true rfl) dd_X11_says_38 ⟨Nat.le_of_ble_eq_true rfl, Nat.le_of_ble_eq_true rfl⟩) hS hA hP hD rfl rfl (by decide) (by decide) rfl rfl (fun r9 u10 H locs hw11 hP hD hS => ?_)
      have hP : va_P D cls [(q 1, .inl (cy 4, 8, .inr (.inr (.inr (.inr (shv q)))))), (q 97, .inr (7, fShelf (fun k => q (97 + k)))), (q 98, .inl (cy 2, 40, .inr (.inl (fun _ => 0)))), (q 99, .inr (7, fShelf (fun k => q (99 + k)))), (q 100, .inl (cy 2, 40, .inr (.inl (fun _ => 0)))), (q 101, .inr (7, fShelf (fun k => q (101 + k)))), (q 102, .inl (cy 2, 40, .inr (.inl (fun _ => 0)))), (q 103, .inr (7, fShelf (fun k => q (103 + k)))), (q 104, .inl (cy 2, 40, .inr (.inl (fun _ => 0)))), (q 105, .inr (7, fShelf (fun k => q (105 + k)))), (q 106, .inl (cy 2, 40, .inr (.inl (fun _ => 0)))), (q 107, .inr (7, fShelf (fun k => q (107 + k)))), (q 108, .inl (cy 2, 40, .inr (.inl (fun _ => 0)))), (q 109, .inr (7, fShelf (fun k => q (109 + k)))), (q 110, .inl (cy 2, 40, .inr (.inl (fun _ => 0)))), (q 111, .inr (7, fShelf (fun k => q (111 + k)))), (q 112, .inl (cy 2, 40, .inr (.inl (fun _ => 0))))] H := hP
      have hD : va_D A [(q 1, .inl (cy 4, 8, .inr (.inr (.inr (.inr (shv q)))))), (q 97, .inr (7, fShelf (fun k => q (97 + k)))), (q 98, .inl (cy 2, 40, .inr (.inl (fun _ => 0)))), (q 99, .inr (7, fShelf (fun k => q (99 + k)))), (q 100, .inl (cy 2, 40, .inr (.inl (fun _ => 0)))), (q 101, .inr (7, fShelf (fun k => q (101 + k)))), (q 102, .inl (cy 2, 40, .inr (.inl (fun _ => 0)))), (q 103, .inr (7, fShelf (fun k => q (103 + k)))), (q 104, .inl (cy 2, 40, .inr (.inl (fun _ => 0)))), (q 105, .inr (7, fShelf (fun k => q (105 + k)))), (q 106, .inl (cy 2, 40, .inr (.inl (fun _ => 0)))), (q 107, .inr (7, fShelf (fun k => q (107 + k)))), (q 108, .inl (cy 2, 40, .inr (.inl (fun _ => 0)))), (q 109, .inr (7, fShelf (fun k => q (109 + k)))), (q 110, .inl (cy 2, 40, .inr (.inl (fun _ => 0)))), (q 111, .inr (7, fShelf (fun k => q (111 + k)))), (q 112, .inl (cy 2, 40, .inr (.inl (fun _ => 0))))] := hD
      subst hw11
      exact hc_ret Sx hr hlocks dd_X11_says_41 hS () (Or.inl ⟨by omega, rfl⟩) p_nil d_nil
    · subst ehw4
      refine lv_if_ne (tgt := 21) hx hb dd_X11_says_11 (by decide) (fun c => absurd c (by decide)) (fun _ => ?_)
      refine lv_aload_n hx hb dd_X11_says_14 rfl (lv_at hl 0 rfl) ?_
      refine lv_bipush (v := (-2)) hx hb dd_X11_says_15 (by decide) ?_
      refine hk_i (wr := [(q 1, .inl (cy 4, 8, .inr (.inr (.inr (.inr (shv q)))))), (q 97, .inr (7, fShelf (fun k => q (97 + k)))), (q 98, .inl (cy 2, 40, .inr (.inl (fun _ => 0)))), (q 99, .inr (7, fShelf (fun k => q (99 + k)))), (q 100, .inl (cy 2, 40, .inr (.inl (fun _ => 0)))), (q 101, .inr (7, fShelf (fun k => q (101 + k)))), (q 102, .inl (cy 2, 40, .inr (.inl (fun _ => 0)))), (q 103, .inr (7, fShelf (fun k => q (103 + k)))), (q 104, .inl (cy 2, 40, .inr (.inl (fun _ => 0)))), (q 105, .inr (7, fShelf (fun k => q (105 + k)))), (q 106, .inl (cy 2, 40, .inr (.inl (fun _ => 0)))), (q 107, .inr (7, fShelf (fun k => q (107 + k)))), (q 108, .inl (cy 2, 40, .inr (.inl (fun _ => 0)))), (q 109, .inr (7, fShelf (fun k => q (109 + k)))), (q 110, .inl (cy 2, 40, .inr (.inl (fun _ => 0)))), (q 111, .inr (7, fShelf (fun k => q (111 + k)))), (q 112, .inl (cy 2, 40, .inr (.inl (fun _ => 0))))]) (c1 := 0) (s1 := 0) [0, 2] [1, 3, 4, 5, 6, 7, 8, 9, 10, 11, 12, 13, 14, 15, 16, 17, 18] (hc_V [.int (-2)] [] [0, 2] Sx hl.1 ws_X_63 md_X11_refuse (c_refuse_2 l D cy q) ⟨Nat.le_of_ble_eq_true rfl, Nat.le_of_ble_eq_true rfl⟩ hP hD rfl (by decide) hK nx_b (nx_w hX) (va_recv hK hP (ci := 11) (q0 := 0) rfl rfl) rfl rfl (Nat.le_of_ble_eq_true rfl) dd_X11_says_17 ⟨Nat.le_of_ble_eq_true rfl, Nat.le_of_ble_eq_true rfl⟩) hS hA hP hD rfl rfl (by decide) (by decide) rfl rfl (fun r12 u13 H locs hw14 hP hD hS => ?_)
      have hP : va_P D cls [(q 1, .inl (cy 4, 8, .inr (.inr (.inr (.inr (shv q)))))), (q 97, .inr (7, fShelf (fun k => q (97 + k)))), (q 98, .inl (cy 2, 40, .inr (.inl (fun _ => 0)))), (q 99, .inr (7, fShelf (fun k => q (99 + k)))), (q 100, .inl (cy 2, 40, .inr (.inl (fun _ => 0)))), (q 101, .inr (7, fShelf (fun k => q (101 + k)))), (q 102, .inl (cy 2, 40, .inr (.inl (fun _ => 0)))), (q 103, .inr (7, fShelf (fun k => q (103 + k)))), (q 104, .inl (cy 2, 40, .inr (.inl (fun _ => 0)))), (q 105, .inr (7, fShelf (fun k => q (105 + k)))), (q 106, .inl (cy 2, 40, .inr (.inl (fun _ => 0)))), (q 107, .inr (7, fShelf (fun k => q (107 + k)))), (q 108, .inl (cy 2, 40, .inr (.inl (fun _ => 0)))), (q 109, .inr (7, fShelf (fun k => q (109 + k)))), (q 110, .inl (cy 2, 40, .inr (.inl (fun _ => 0)))), (q 111, .inr (7, fShelf (fun k => q (111 + k)))), (q 112, .inl (cy 2, 40, .inr (.inl (fun _ => 0))))] H := hP
      have hD : va_D A [(q 1, .inl (cy 4, 8, .inr (.inr (.inr (.inr (shv q)))))), (q 97, .inr (7, fShelf (fun k => q (97 + k)))), (q 98, .inl (cy 2, 40, .inr (.inl (fun _ => 0)))), (q 99, .inr (7, fShelf (fun k => q (99 + k)))), (q 100, .inl (cy 2, 40, .inr (.inl (fun _ => 0)))), (q 101, .inr (7, fShelf (fun k => q (101 + k)))), (q 102, .inl (cy 2, 40, .inr (.inl (fun _ => 0)))), (q 103, .inr (7, fShelf (fun k => q (103 + k)))), (q 104, .inl (cy 2, 40, .inr (.inl (fun _ => 0)))), (q 105, .inr (7, fShelf (fun k => q (105 + k)))), (q 106, .inl (cy 2, 40, .inr (.inl (fun _ => 0)))), (q 107, .inr (7, fShelf (fun k => q (107 + k)))), (q 108, .inl (cy 2, 40, .inr (.inl (fun _ => 0)))), (q 109, .inr (7, fShelf (fun k => q (109 + k)))), (q 110, .inl (cy 2, 40, .inr (.inl (fun _ => 0)))), (q 111, .inr (7, fShelf (fun k => q (111 + k)))), (q 112, .inl (cy 2, 40, .inr (.inl (fun _ => 0))))] := hD
      subst hw14
      exact hc_ret Sx hr hlocks dd_X11_says_20 hS () (Or.inr ⟨by omega, rfl⟩) p_nil d_nil
  · subst ehw2
    refine lv_if_eq (tgt := 14) hx hb dd_X11_says_4 (by decide) (fun _ => ?_) (fun c => absurd c (by decide))
    refine lv_aload_n hx hb dd_X11_says_14 rfl (lv_at hl 0 rfl) ?_
    refine lv_bipush (v := (-2)) hx hb dd_X11_says_15 (by decide) ?_
    refine hk_i (wr := [(q 1, .inl (cy 4, 8, .inr (.inr (.inr (.inr (shv q)))))), (q 97, .inr (7, fShelf (fun k => q (97 + k)))), (q 98, .inl (cy 2, 40, .inr (.inl (fun _ => 0)))), (q 99, .inr (7, fShelf (fun k => q (99 + k)))), (q 100, .inl (cy 2, 40, .inr (.inl (fun _ => 0)))), (q 101, .inr (7, fShelf (fun k => q (101 + k)))), (q 102, .inl (cy 2, 40, .inr (.inl (fun _ => 0)))), (q 103, .inr (7, fShelf (fun k => q (103 + k)))), (q 104, .inl (cy 2, 40, .inr (.inl (fun _ => 0)))), (q 105, .inr (7, fShelf (fun k => q (105 + k)))), (q 106, .inl (cy 2, 40, .inr (.inl (fun _ => 0)))), (q 107, .inr (7, fShelf (fun k => q (107 + k)))), (q 108, .inl (cy 2, 40, .inr (.inl (fun _ => 0)))), (q 109, .inr (7, fShelf (fun k => q (109 + k)))), (q 110, .inl (cy 2, 40, .inr (.inl (fun _ => 0)))), (q 111, .inr (7, fShelf (fun k => q (111 + k)))), (q 112, .inl (cy 2, 40, .inr (.inl (fun _ => 0))))]) (c1 := 0) (s1 := 0) [0, 2] [1, 3, 4, 5, 6, 7, 8, 9, 10, 11, 12, 13, 14, 15, 16, 17, 18] (hc_V [.int (-2)] [] [0, 2] Sx hl.1 ws_X_63 md_X11_refuse (c_refuse_2 l D cy q) ⟨Nat.le_of_ble_eq_true rfl, Nat.le_of_ble_eq_true rfl⟩ hP hD rfl (by decide) hK nx_b (nx_w hX) (va_recv hK hP (ci := 11) (q0 := 0) rfl rfl) rfl rfl (Nat.le_of_ble_eq_true rfl) dd_X11_says_17 ⟨Nat.le_of_ble_eq_true rfl, Nat.le_of_ble_eq_true rfl⟩) hS hA hP hD rfl rfl (by decide) (by decide) rfl rfl (fun r15 u16 H locs hw17 hP hD hS => ?_)
    have hP : va_P D cls [(q 1, .inl (cy 4, 8, .inr (.inr (.inr (.inr (shv q)))))), (q 97, .inr (7, fShelf (fun k => q (97 + k)))), (q 98, .inl (cy 2, 40, .inr (.inl (fun _ => 0)))), (q 99, .inr (7, fShelf (fun k => q (99 + k)))), (q 100, .inl (cy 2, 40, .inr (.inl (fun _ => 0)))), (q 101, .inr (7, fShelf (fun k => q (101 + k)))), (q 102, .inl (cy 2, 40, .inr (.inl (fun _ => 0)))), (q 103, .inr (7, fShelf (fun k => q (103 + k)))), (q 104, .inl (cy 2, 40, .inr (.inl (fun _ => 0)))), (q 105, .inr (7, fShelf (fun k => q (105 + k)))), (q 106, .inl (cy 2, 40, .inr (.inl (fun _ => 0)))), (q 107, .inr (7, fShelf (fun k => q (107 + k)))), (q 108, .inl (cy 2, 40, .inr (.inl (fun _ => 0)))), (q 109, .inr (7, fShelf (fun k => q (109 + k)))), (q 110, .inl (cy 2, 40, .inr (.inl (fun _ => 0)))), (q 111, .inr (7, fShelf (fun k => q (111 + k)))), (q 112, .inl (cy 2, 40, .inr (.inl (fun _ => 0))))] H := hP
    have hD : va_D A [(q 1, .inl (cy 4, 8, .inr (.inr (.inr (.inr (shv q)))))), (q 97, .inr (7, fShelf (fun k => q (97 + k)))), (q 98, .inl (cy 2, 40, .inr (.inl (fun _ => 0)))), (q 99, .inr (7, fShelf (fun k => q (99 + k)))), (q 100, .inl (cy 2, 40, .inr (.inl (fun _ => 0)))), (q 101, .inr (7, fShelf (fun k => q (101 + k)))), (q 102, .inl (cy 2, 40, .inr (.inl (fun _ => 0)))), (q 103, .inr (7, fShelf (fun k => q (103 + k)))), (q 104, .inl (cy 2, 40, .inr (.inl (fun _ => 0)))), (q 105, .inr (7, fShelf (fun k => q (105 + k)))), (q 106, .inl (cy 2, 40, .inr (.inl (fun _ => 0)))), (q 107, .inr (7, fShelf (fun k => q (107 + k)))), (q 108, .inl (cy 2, 40, .inr (.inl (fun _ => 0)))), (q 109, .inr (7, fShelf (fun k => q (109 + k)))), (q 110, .inl (cy 2, 40, .inr (.inl (fun _ => 0)))), (q 111, .inr (7, fShelf (fun k => q (111 + k)))), (q 112, .inl (cy 2, 40, .inr (.inl (fun _ => 0))))] := hD
    subst hw17
    exact hc_ret Sx hr hlocks dd_X11_says_20 hS () (Or.inr ⟨by omega, rfl⟩) p_nil d_nil
set_option maxHeartbeats 4000000 in
set_option maxRecDepth 100000 in
theorem c_X_thing (l : Launch) (D : va_G) (cy : Nat → ClassId) (q : Nat → Nat) (ki : Int32) (wo : Int32) (ch : Int32) : HC l my_X11_thing mb_X11_thing 4 ((some .int)) (rmD 3 0 0) D (TY cy) [.ref (q 0), .int ki, .int wo, .int ch] NX [(q 0, .inr (11, fX q)), (q 2, .inl (cy 0, 5, .inl (fun _ => 0))), (q 5, .inr (1, fHall (fun k => q (5 + k)))), (q 6, .inr (10, fThings (fun k => q (6 + k)))), (q 7, .inl (cy 0, 30, .inl (fun _ => 0))), (q 8, .inl (cy 0, 30, .inl (fun _ => 0))), (q 9, .inl (cy 0, 30, .inl (fun _ => 0))), (q 10, .inl (cy 0, 30, .inl (fun _ => 0))), (q 11, .inl (cy 0, 30, .inl (fun _ => 0))), (q 12, .inl (cy 0, 30, .inl (fun _ => 0))), (q 13, .inl (cy 0, 30, .inl (fun _ => 0)))] (QI (S := Unit) D (fun r _ => if2 (0 ≤ ki.toInt ∧ ki.toInt ≤ 5 ∧ 0 ≤ wo.toInt ∧ wo.toInt ≤ 999 ∧ 0 ≤ ch.toInt ∧ ch.toInt ≤ 255) 0 (-2) r) (fun _ => [])) := by
  refine hc_intro (by decide) (Nat.le_of_ble_eq_true rfl) (fun p e s m below meth c A ls Sx hr hlocks hin hl hP hD hK hS hA hX => ?_)
  have hx := Sx.1
  have hb := Sx.2.1
  have hl : lv_has ls 4 [(0, .ref (q 0)), (1, .int ki), (2, .int wo), (3, .int ch)] := hl
  have hP : va_P D cls [(q 0, .inr (11, fX q)), (q 2, .inl (cy 0, 5, .inl (fun _ => 0))), (q 5, .inr (1, fHall (fun k => q (5 + k)))), (q 6, .inr (10, fThings (fun k => q (6 + k)))), (q 7, .inl (cy 0, 30, .inl (fun _ => 0))), (q 8, .inl (cy 0, 30, .inl (fun _ => 0))), (q 9, .inl (cy 0, 30, .inl (fun _ => 0))), (q 10, .inl (cy 0, 30, .inl (fun _ => 0))), (q 11, .inl (cy 0, 30, .inl (fun _ => 0))), (q 12, .inl (cy 0, 30, .inl (fun _ => 0))), (q 13, .inl (cy 0, 30, .inl (fun _ => 0)))] s.heap := hP
  have hD : va_D A [(q 0, .inr (11, fX q)), (q 2, .inl (cy 0, 5, .inl (fun _ => 0))), (q 5, .inr (1, fHall (fun k => q (5 + k)))), (q 6, .inr (10, fThings (fun k => q (6 + k)))), (q 7, .inl (cy 0, 30, .inl (fun _ => 0))), (q 8, .inl (cy 0, 30, .inl (fun _ => 0))), (q 9, .inl (cy 0, 30, .inl (fun _ => 0))), (q 10, .inl (cy 0, 30, .inl (fun _ => 0))), (q 11, .inl (cy 0, 30, .inl (fun _ => 0))), (q 12, .inl (cy 0, 30, .inl (fun _ => 0))), (q 13, .inl (cy 0, 30, .inl (fun _ => 0)))] := hD
  refine lv_iload_n hx hb dd_X11_thing_0 rfl (lv_at hl 1 rfl) ?_
  refine pk_i (pc_T [.int ki] [] Sx hl.1 ws_X_122 md_X11_isKind (c_isKind l D cy ki) ⟨rfl, rfl⟩ ⟨Nat.le_of_ble_eq_true rfl, Nat.le_of_ble_eq_true rfl⟩ p_nil hK ns_b (ns_w hX) rfl rfl (Nat.le_of_ble_eq_true rfl) dd_X11_thing_1 ⟨Nat.le_of_ble_eq_true rfl, Nat.le_of_ble_eq_true rfl⟩) (fun r1 hw2 => ?_)
  rcases hw2 with ⟨hw2, ehw2⟩ | ⟨hw2, ehw2⟩
  · subst ehw2
    refine lv_if_eq (tgt := 29) hx hb dd_X11_thing_4 (by decide) (fun c => absurd c (by decide)) (fun _ => ?_)
    refine lv_iload_n hx hb dd_X11_thing_7 rfl (lv_at hl 2 rfl) ?_
    refine lv_iconst (v := 0) hx hb dd_X11_thing_8 (by decide) ?_
    refine lv_sipush (v := 999) hx hb dd_X11_thing_9 (by decide) ?_
    refine pk_i (pc_T [.int wo, .int 0, .int 999] [] Sx hl.1 ws_X_59 md_X11_within (c_within l D cy wo 0 999) ⟨rfl, rfl⟩ ⟨Nat.le_of_ble_eq_true rfl, Nat.le_of_ble_eq_true rfl⟩ p_nil hK ns_b (ns_w hX) rfl rfl (Nat.le_of_ble_eq_true rfl) dd_X11_thing_12 ⟨Nat.le_of_ble_eq_true rfl, Nat.le_of_ble_eq_true rfl⟩) (fun r3 hw4 => ?_)
    rcases hw4 with ⟨hw4, ehw4⟩ | ⟨hw4, ehw4⟩
    · have hl5 : Int32.toInt 0 = 0 := rfl
      have hl6 : Int32.toInt 999 = 999 := rfl
      subst ehw4
      refine lv_if_eq (tgt := 29) hx hb dd_X11_thing_15 (by decide) (fun c => absurd c (by decide)) (fun _ => ?_)
      refine lv_iload_n hx hb dd_X11_thing_18 rfl (lv_at hl 3 rfl) ?_
      refine lv_iconst (v := 0) hx hb dd_X11_thing_19 (by decide) ?_
      refine lv_sipush (v := 255) hx hb dd_X11_thing_20 (by decide) ?_
      refine pk_i (pc_T [.int ch, .int 0, .int 255] [] Sx hl.1 ws_X_59 md_X11_within (c_within l D cy ch 0 255) ⟨rfl, rfl⟩ ⟨Nat.le_of_ble_eq_true rfl, Nat.le_of_ble_eq_true rfl⟩ p_nil hK ns_b (ns_w hX) rfl rfl (Nat.le_of_ble_eq_true rfl) dd_X11_thing_23 ⟨Nat.le_of_ble_eq_true rfl, Nat.le_of_ble_eq_true rfl⟩) (fun r7 hw8 => ?_)
      rcases hw8 with ⟨hw8, ehw8⟩ | ⟨hw8, ehw8⟩
      · have hl9 : Int32.toInt 0 = 0 := rfl
        have hl10 : Int32.toInt 255 = 255 := rfl
        subst ehw8
        refine lv_if_ne (tgt := 36) hx hb dd_X11_thing_26 (by decide) (fun _ => ?_) (fun c => absurd c (by decide))
        refine lv_aload_n hx hb dd_X11_thing_36 rfl (lv_at hl 0 rfl) ?_
        refine wk_get (v := .ref (q 5)) Sx ef_11 hK hP 0 rfl rfl 3 (by decide) kk_385 rfl dd_X11_thing_37 ?_
        refine wk_get (v := .ref (q 6)) Sx ef_1 hK hP 2 rfl rfl 0 (by decide) kk_260 rfl dd_X11_thing_40 ?_
        refine wk_get (v := .int 0) Sx ef_10 hK hP 3 rfl rfl 6 (by decide) kk_90 rfl dd_X11_thing_43 ?_
        refine lv_bipush (v := 30) hx hb dd_X11_thing_46 (by decide) ?_
        refine lv_icmp_lt (tgt := 58) hx hb dd_X11_thing_48 (by decide) (fun _ => ?_) (fun c => absurd c (by decide))
        refine lv_aload_n hx hb dd_X11_thing_58 rfl (lv_at hl 0 rfl) ?_
        refine wk_get (v := .ref (q 5)) Sx ef_11 hK hP 0 rfl rfl 3 (by decide) kk_385 rfl dd_X11_thing_59 ?_
        refine wk_get (v := .ref (q 6)) Sx ef_1 hK hP 2 rfl rfl 0 (by decide) kk_260 rfl dd_X11_thing_62 ?_
        refine lv_iload_n hx hb dd_X11_thing_65 rfl (lv_at hl 1 rfl) ?_
        refine lv_iload_n hx hb dd_X11_thing_66 rfl (lv_at hl 2 rfl) ?_
        refine lv_iload_n hx hb dd_X11_thing_67 rfl (lv_at hl 3 rfl) ?_
        refine hk_i (wr := [(q 0, .inr (11, fX q)), (q 2, .inl (cy 0, 5, .inl (fun _ => 0))), (q 5, .inr (1, fHall (fun k => q (5 + k))))]) (c1 := 0) (s1 := 0) [3, 4, 5, 6, 7, 8, 9, 10] [0, 1, 2] (hc_V [.int ki, .int wo, .int ch] [] [3, 4, 5, 6, 7, 8, 9, 10] Sx hl.1 ws_X_135 md_X10_add (c_Things_add l D cy (fun k => q (6 + k)) ki wo ch) ⟨Nat.le_of_ble_eq_true rfl, Nat.le_of_ble_eq_true rfl⟩ hP hD rfl (by decide) hK nx_b (nx_w hX) (va_recv hK hP (ci := 10) (q0 := 3) rfl rfl) rfl rfl (Nat.le_of_ble_eq_true rfl) dd_X11_thing_68 ⟨Nat.le_of_ble_eq_true rfl, Nat.le_of_ble_eq_true rfl⟩) hS hA hP hD rfl rfl (by decide) (by decide) rfl rfl (fun r11 u12 H locs hw13 hP hD hS => ?_)
        have hP : va_P D cls [(q 0, .inr (11, fX q)), (q 2, .inl (cy 0, 5, .inl (fun _ => 0))), (q 5, .inr (1, fHall (fun k => q (5 + k))))] H := hP
        have hD : va_D A [(q 0, .inr (11, fX q)), (q 2, .inl (cy 0, 5, .inl (fun _ => 0))), (q 5, .inr (1, fHall (fun k => q (5 + k))))] := hD
        subst hw13
        exact hc_ret Sx hr hlocks dd_X11_thing_71 hS () (Or.inl ⟨by omega, rfl⟩) p_nil d_nil
      · have hl14 : Int32.toInt 0 = 0 := rfl
        have hl15 : Int32.toInt 255 = 255 := rfl
        subst ehw8
        refine lv_if_ne (tgt := 36) hx hb dd_X11_thing_26 (by decide) (fun c => absurd c (by decide)) (fun _ => ?_)
        refine lv_aload_n hx hb dd_X11_thing_29 rfl (lv_at hl 0 rfl) ?_
        refine lv_bipush (v := (-2)) hx hb dd_X11_thing_30 (by decide) ?_
        refine hk_i (wr := [(q 5, .inr (1, fHall (fun k => q (5 + k)))), (q 6, .inr (10, fThings (fun k => q (6 + k)))), (q 7, .inl (cy 0, 30, .inl (fun _ => 0))), (q 8, .inl (cy 0, 30, .inl (fun _ => 0))), (q 9, .inl (cy 0, 30, .inl (fun _ => 0))), (q 10, .inl (cy 0, 30, .inl (fun _ => 0))), (q 11, .inl (cy 0, 30, .inl (fun _ => 0))), (q 12, .inl (cy 0, 30, .inl (fun _ => 0))), (q 13, .inl (cy 0, 30, .inl (fun _ => 0)))]) (c1 := 0) (s1 := 0) [0, 1] [2, 3, 4, 5, 6, 7, 8, 9, 10] (hc_V [.int (-2)] [] [0, 1] Sx hl.1 ws_X_63 md_X11_refuse (c_refuse_2 l D cy q) ⟨Nat.le_of_ble_eq_true rfl, Nat.le_of_ble_eq_true rfl⟩ hP hD rfl (by decide) hK nx_b (nx_w hX) (va_recv hK hP (ci := 11) (q0 := 0) rfl rfl) rfl rfl (Nat.le_of_ble_eq_true rfl) dd_X11_thing_32 ⟨Nat.le_of_ble_eq_true rfl, Nat.le_of_ble_eq_true rfl⟩) hS hA hP hD rfl rfl (by decide) (by decide) rfl rfl (fun r16 u17 H locs hw18 hP hD hS => ?_)
        have hP : va_P D cls [(q 5, .inr (1, fHall (fun k => q (5 + k)))), (q 6, .inr (10, fThings (fun k => q (6 + k)))), (q 7, .inl (cy 0, 30, .inl (fun _ => 0))), (q 8, .inl (cy 0, 30, .inl (fun _ => 0))), (q 9, .inl (cy 0, 30, .inl (fun _ => 0))), (q 10, .inl (cy 0, 30, .inl (fun _ => 0))), (q 11, .inl (cy 0, 30, .inl (fun _ => 0))), (q 12, .inl (cy 0, 30, .inl (fun _ => 0))), (q 13, .inl (cy 0, 30, .inl (fun _ => 0)))] H := hP
        have hD : va_D A [(q 5, .inr (1, fHall (fun k => q (5 + k)))), (q 6, .inr (10, fThings (fun k => q (6 + k)))), (q 7, .inl (cy 0, 30, .inl (fun _ => 0))), (q 8, .inl (cy 0, 30, .inl (fun _ => 0))), (q 9, .inl (cy 0, 30, .inl (fun _ => 0))), (q 10, .inl (cy 0, 30, .inl (fun _ => 0))), (q 11, .inl (cy 0, 30, .inl (fun _ => 0))), (q 12, .inl (cy 0, 30, .inl (fun _ => 0))), (q 13, .inl (cy 0, 30, .inl (fun _ => 0)))] := hD
        subst hw18
        exact hc_ret Sx hr hlocks dd_X11_thing_35 hS () (Or.inr ⟨by omega, rfl⟩) p_nil d_nil
    · have hl19 : Int32.toInt 0 = 0 := rfl
      have hl20 : Int32.toInt 999 = 999 := rfl
      subst ehw4
      refine lv_if_eq (tgt := 29) hx hb dd_X11_thing_15 (by decide) (fun _ => ?_) (fun c => absurd c (by decide))
      refine lv_aload_n hx hb dd_X11_thing_29 rfl (lv_at hl 0 rfl) ?_
      refine lv_bipush (v := (-2)) hx hb dd_X11_thing_30 (by decide) ?_
      refine hk_i (wr := [(q 5, .inr (1, fHall (fun k => q (5 + k)))), (q 6, .inr (10, fThings (fun k => q (6 + k)))), (q 7, .inl (cy 0, 30, .inl (fun _ => 0))), (q 8, .inl (cy 0, 30, .inl (fun _ => 0))), (q 9, .inl (cy 0, 30, .inl (fun _ => 0))), (q 10, .inl (cy 0, 30, .inl (fun _ => 0))), (q 11, .inl (cy 0, 30, .inl (fun _ => 0))), (q 12, .inl (cy 0, 30, .inl (fun _ => 0))), (q 13, .inl (cy 0, 30, .inl (fun _ => 0)))]) (c1 := 0) (s1 := 0) [0, 1] [2, 3, 4, 5, 6, 7, 8, 9, 10] (hc_V [.int (-2)] [] [0, 1] Sx hl.1 ws_X_63 md_X11_refuse (c_refuse_2 l D cy q) ⟨Nat.le_of_ble_eq_true rfl, Nat.le_of_ble_eq_true rfl⟩ hP hD rfl (by decide) hK nx_b (nx_w hX) (va_recv hK hP (ci := 11) (q0 := 0) rfl rfl) rfl rfl (Nat.le_of_ble_eq_true rfl) dd_X11_thing_32 ⟨Nat.le_of_ble_eq_true rfl, Nat.le_of_ble_eq_true rfl⟩) hS hA hP hD rfl rfl (by decide) (by decide) rfl rfl (fun r21 u22 H locs hw23 hP hD hS => ?_)
      have hP : va_P D cls [(q 5, .inr (1, fHall (fun k => q (5 + k)))), (q 6, .inr (10, fThings (fun k => q (6 + k)))), (q 7, .inl (cy 0, 30, .inl (fun _ => 0))), (q 8, .inl (cy 0, 30, .inl (fun _ => 0))), (q 9, .inl (cy 0, 30, .inl (fun _ => 0))), (q 10, .inl (cy 0, 30, .inl (fun _ => 0))), (q 11, .inl (cy 0, 30, .inl (fun _ => 0))), (q 12, .inl (cy 0, 30, .inl (fun _ => 0))), (q 13, .inl (cy 0, 30, .inl (fun _ => 0)))] H := hP
      have hD : va_D A [(q 5, .inr (1, fHall (fun k => q (5 + k)))), (q 6, .inr (10, fThings (fun k => q (6 + k)))), (q 7, .inl (cy 0, 30, .inl (fun _ => 0))), (q 8, .inl (cy 0, 30, .inl (fun _ => 0))), (q 9, .inl (cy 0, 30, .inl (fun _ => 0))), (q 10, .inl (cy 0, 30, .inl (fun _ => 0))), (q 11, .inl (cy 0, 30, .inl (fun _ => 0))), (q 12, .inl (cy 0, 30, .inl (fun _ => 0))), (q 13, .inl (cy 0, 30, .inl (fun _ => 0)))] := hD
      subst hw23
      exact hc_ret Sx hr hlocks dd_X11_thing_35 hS () (Or.inr ⟨by omega, rfl⟩) p_nil d_nil
  · subst ehw2
    refine lv_if_eq (tgt := 29) hx hb dd_X11_thing_4 (by decide) (fun _ => ?_) (fun c => absurd c (by decide))
    refine lv_aload_n hx hb dd_X11_thing_29 rfl (lv_at hl 0 rfl) ?_
    refine lv_bipush (v := (-2)) hx hb dd_X11_thing_30 (by decide) ?_
    refine hk_i (wr := [(q 5, .inr (1, fHall (fun k => q (5 + k)))), (q 6, .inr (10, fThings (fun k => q (6 + k)))), (q 7, .inl (cy 0, 30, .inl (fun _ => 0))), (q 8, .inl (cy 0, 30, .inl (fun _ => 0))), (q 9, .inl (cy 0, 30, .inl (fun _ => 0))), (q 10, .inl (cy 0, 30, .inl (fun _ => 0))), (q 11, .inl (cy 0, 30, .inl (fun _ => 0))), (q 12, .inl (cy 0, 30, .inl (fun _ => 0))), (q 13, .inl (cy 0, 30, .inl (fun _ => 0)))]) (c1 := 0) (s1 := 0) [0, 1] [2, 3, 4, 5, 6, 7, 8, 9, 10] (hc_V [.int (-2)] [] [0, 1] Sx hl.1 ws_X_63 md_X11_refuse (c_refuse_2 l D cy q) ⟨Nat.le_of_ble_eq_true rfl, Nat.le_of_ble_eq_true rfl⟩ hP hD rfl (by decide) hK nx_b (nx_w hX) (va_recv hK hP (ci := 11) (q0 := 0) rfl rfl) rfl rfl (Nat.le_of_ble_eq_true rfl) dd_X11_thing_32 ⟨Nat.le_of_ble_eq_true rfl, Nat.le_of_ble_eq_true rfl⟩) hS hA hP hD rfl rfl (by decide) (by decide) rfl rfl (fun r24 u25 H locs hw26 hP hD hS => ?_)
    have hP : va_P D cls [(q 5, .inr (1, fHall (fun k => q (5 + k)))), (q 6, .inr (10, fThings (fun k => q (6 + k)))), (q 7, .inl (cy 0, 30, .inl (fun _ => 0))), (q 8, .inl (cy 0, 30, .inl (fun _ => 0))), (q 9, .inl (cy 0, 30, .inl (fun _ => 0))), (q 10, .inl (cy 0, 30, .inl (fun _ => 0))), (q 11, .inl (cy 0, 30, .inl (fun _ => 0))), (q 12, .inl (cy 0, 30, .inl (fun _ => 0))), (q 13, .inl (cy 0, 30, .inl (fun _ => 0)))] H := hP
    have hD : va_D A [(q 5, .inr (1, fHall (fun k => q (5 + k)))), (q 6, .inr (10, fThings (fun k => q (6 + k)))), (q 7, .inl (cy 0, 30, .inl (fun _ => 0))), (q 8, .inl (cy 0, 30, .inl (fun _ => 0))), (q 9, .inl (cy 0, 30, .inl (fun _ => 0))), (q 10, .inl (cy 0, 30, .inl (fun _ => 0))), (q 11, .inl (cy 0, 30, .inl (fun _ => 0))), (q 12, .inl (cy 0, 30, .inl (fun _ => 0))), (q 13, .inl (cy 0, 30, .inl (fun _ => 0)))] := hD
    subst hw26
    exact hc_ret Sx hr hlocks dd_X11_thing_35 hS () (Or.inr ⟨by omega, rfl⟩) p_nil d_nil
set_option maxHeartbeats 4000000 in
set_option maxRecDepth 100000 in
theorem c_X_things (l : Launch) (D : va_G) (cy : Nat → ClassId) (q : Nat → Nat) (sf : Int32) (ki : Int32) (nn : Int32) : HC l my_X11_things mb_X11_things 9 ((some .int)) (rmD 4 0 0) D (TY cy) [.ref (q 0), .int sf, .int ki, .int nn] NX [(q 0, .inr (11, fX q)), (q 1, .inl (cy 4, 8, .inr (.inr (.inr (.inr (shv q)))))), (q 2, .inl (cy 0, 5, .inl (fun _ => 0))), (q 97, .inr (7, fShelf (fun k => q (97 + k)))), (q 98, .inl (cy 2, 40, .inr (.inl (fun _ => 0)))), (q 99, .inr (7, fShelf (fun k => q (99 + k)))), (q 100, .inl (cy 2, 40, .inr (.inl (fun _ => 0)))), (q 101, .inr (7, fShelf (fun k => q (101 + k)))), (q 102, .inl (cy 2, 40, .inr (.inl (fun _ => 0)))), (q 103, .inr (7, fShelf (fun k => q (103 + k)))), (q 104, .inl (cy 2, 40, .inr (.inl (fun _ => 0)))), (q 105, .inr (7, fShelf (fun k => q (105 + k)))), (q 106, .inl (cy 2, 40, .inr (.inl (fun _ => 0)))), (q 107, .inr (7, fShelf (fun k => q (107 + k)))), (q 108, .inl (cy 2, 40, .inr (.inl (fun _ => 0)))), (q 109, .inr (7, fShelf (fun k => q (109 + k)))), (q 110, .inl (cy 2, 40, .inr (.inl (fun _ => 0)))), (q 111, .inr (7, fShelf (fun k => q (111 + k)))), (q 112, .inl (cy 2, 40, .inr (.inl (fun _ => 0))))] (QI (S := Unit) D (fun r _ => if2 (0 ≤ sf.toInt ∧ sf.toInt ≤ 7 ∧ 0 ≤ ki.toInt ∧ ki.toInt ≤ 5) (-4) (-2) r) (fun _ => [])) := by
  refine hc_intro (by decide) (Nat.le_of_ble_eq_true rfl) (fun p e s m below meth c A ls Sx hr hlocks hin hl hP hD hK hS hA hX => ?_)
  have hx := Sx.1
  have hb := Sx.2.1
  have hl : lv_has ls 9 [(0, .ref (q 0)), (1, .int sf), (2, .int ki), (3, .int nn)] := hl
  have hP : va_P D cls [(q 0, .inr (11, fX q)), (q 1, .inl (cy 4, 8, .inr (.inr (.inr (.inr (shv q)))))), (q 2, .inl (cy 0, 5, .inl (fun _ => 0))), (q 97, .inr (7, fShelf (fun k => q (97 + k)))), (q 98, .inl (cy 2, 40, .inr (.inl (fun _ => 0)))), (q 99, .inr (7, fShelf (fun k => q (99 + k)))), (q 100, .inl (cy 2, 40, .inr (.inl (fun _ => 0)))), (q 101, .inr (7, fShelf (fun k => q (101 + k)))), (q 102, .inl (cy 2, 40, .inr (.inl (fun _ => 0)))), (q 103, .inr (7, fShelf (fun k => q (103 + k)))), (q 104, .inl (cy 2, 40, .inr (.inl (fun _ => 0)))), (q 105, .inr (7, fShelf (fun k => q (105 + k)))), (q 106, .inl (cy 2, 40, .inr (.inl (fun _ => 0)))), (q 107, .inr (7, fShelf (fun k => q (107 + k)))), (q 108, .inl (cy 2, 40, .inr (.inl (fun _ => 0)))), (q 109, .inr (7, fShelf (fun k => q (109 + k)))), (q 110, .inl (cy 2, 40, .inr (.inl (fun _ => 0)))), (q 111, .inr (7, fShelf (fun k => q (111 + k)))), (q 112, .inl (cy 2, 40, .inr (.inl (fun _ => 0))))] s.heap := hP
  have hD : va_D A [(q 0, .inr (11, fX q)), (q 1, .inl (cy 4, 8, .inr (.inr (.inr (.inr (shv q)))))), (q 2, .inl (cy 0, 5, .inl (fun _ => 0))), (q 97, .inr (7, fShelf (fun k => q (97 + k)))), (q 98, .inl (cy 2, 40, .inr (.inl (fun _ => 0)))), (q 99, .inr (7, fShelf (fun k => q (99 + k)))), (q 100, .inl (cy 2, 40, .inr (.inl (fun _ => 0)))), (q 101, .inr (7, fShelf (fun k => q (101 + k)))), (q 102, .inl (cy 2, 40, .inr (.inl (fun _ => 0)))), (q 103, .inr (7, fShelf (fun k => q (103 + k)))), (q 104, .inl (cy 2, 40, .inr (.inl (fun _ => 0)))), (q 105, .inr (7, fShelf (fun k => q (105 + k)))), (q 106, .inl (cy 2, 40, .inr (.inl (fun _ => 0)))), (q 107, .inr (7, fShelf (fun k => q (107 + k)))), (q 108, .inl (cy 2, 40, .inr (.inl (fun _ => 0)))), (q 109, .inr (7, fShelf (fun k => q (109 + k)))), (q 110, .inl (cy 2, 40, .inr (.inl (fun _ => 0)))), (q 111, .inr (7, fShelf (fun k => q (111 + k)))), (q 112, .inl (cy 2, 40, .inr (.inl (fun _ => 0))))] := hD
  refine lv_iload_n hx hb dd_X11_things_0 rfl (lv_at hl 1 rfl) ?_
  refine pk_i (pc_T [.int sf] [] Sx hl.1 ws_X_55 md_X11_isShelf (c_isShelf l D cy sf) ⟨rfl, rfl⟩ ⟨Nat.le_of_ble_eq_true rfl, Nat.le_of_ble_eq_true rfl⟩ p_nil hK ns_b (ns_w hX) rfl rfl (Nat.le_of_ble_eq_true rfl) dd_X11_things_1 ⟨Nat.le_of_ble_eq_true rfl, Nat.le_of_ble_eq_true rfl⟩) (fun r1 hw2 => ?_)
  rcases hw2 with ⟨hw2, ehw2⟩ | ⟨hw2, ehw2⟩
  · subst ehw2
    refine lv_if_eq (tgt := 14) hx hb dd_X11_things_4 (by decide) (fun c => absurd c (by decide)) (fun _ => ?_)
    refine lv_iload_n hx hb dd_X11_things_7 rfl (lv_at hl 2 rfl) ?_
    refine pk_i (pc_T [.int ki] [] Sx hl.1 ws_X_122 md_X11_isKind (c_isKind l D cy ki) ⟨rfl, rfl⟩ ⟨Nat.le_of_ble_eq_true rfl, Nat.le_of_ble_eq_true rfl⟩ p_nil hK ns_b (ns_w hX) rfl rfl (Nat.le_of_ble_eq_true rfl) dd_X11_things_8 ⟨Nat.le_of_ble_eq_true rfl, Nat.le_of_ble_eq_true rfl⟩) (fun r3 hw4 => ?_)
    rcases hw4 with ⟨hw4, ehw4⟩ | ⟨hw4, ehw4⟩
    · subst ehw4
      refine lv_if_ne (tgt := 21) hx hb dd_X11_things_11 (by decide) (fun _ => ?_) (fun c => absurd c (by decide))
      refine lv_aload_n hx hb dd_X11_things_21 rfl (lv_at hl 0 rfl) ?_
      refine lv_iload_n hx hb dd_X11_things_22 rfl (lv_at hl 1 rfl) ?_
      refine pk_i (pc_V [.int sf] [] Sx hl.1 ws_X_71 md_X11_refusalOfRow (c_refusalOfRow l D cy q sf) ⟨rfl, rfl⟩ ⟨Nat.le_of_ble_eq_true rfl, Nat.le_of_ble_eq_true rfl⟩ (hP.sub [0, 1, 3, 4, 5, 6, 7, 8, 9, 10, 11, 12, 13, 14, 15, 16, 17, 18] rfl) hK ns_b (ns_w hX) (va_recv hK hP (ci := 11) (q0 := 0) rfl rfl) rfl rfl (Nat.le_of_ble_eq_true rfl) dd_X11_things_23 ⟨Nat.le_of_ble_eq_true rfl, Nat.le_of_ble_eq_true rfl⟩) (fun r5 hw6 => ?_)
      rcases hw6 with ⟨hw6, ehw6⟩ | ⟨hw6, ehw6⟩
      · subst ehw6
        refine lv_istore (lv' := [(4, .int (-4)), (0, .ref (q 0)), (1, .int sf), (2, .int ki), (3, .int nn)]) hx hb dd_X11_things_26 hl (by decide) rfl (fun ls hl => ?_)
        refine lv_iload hx hb dd_X11_things_28 (lv_at hl 0 rfl) ?_
        refine lv_if_eq (tgt := 40) hx hb dd_X11_things_30 (by decide) (fun c => absurd c (by decide)) (fun _ => ?_)
        refine lv_aload_n hx hb dd_X11_things_33 rfl (lv_at hl 1 rfl) ?_
        refine lv_iload hx hb dd_X11_things_34 (lv_at hl 0 rfl) ?_
        refine hk_i (wr := [(q 1, .inl (cy 4, 8, .inr (.inr (.inr (.inr (shv q)))))), (q 97, .inr (7, fShelf (fun k => q (97 + k)))), (q 98, .inl (cy 2, 40, .inr (.inl (fun _ => 0)))), (q 99, .inr (7, fShelf (fun k => q (99 + k)))), (q 100, .inl (cy 2, 40, .inr (.inl (fun _ => 0)))), (q 101, .inr (7, fShelf (fun k => q (101 + k)))), (q 102, .inl (cy 2, 40, .inr (.inl (fun _ => 0)))), (q 103, .inr (7, fShelf (fun k => q (103 + k)))), (q 104, .inl (cy 2, 40, .inr (.inl (fun _ => 0)))), (q 105, .inr (7, fShelf (fun k => q (105 + k)))), (q 106, .inl (cy 2, 40, .inr (.inl (fun _ => 0)))), (q 107, .inr (7, fShelf (fun k => q (107 + k)))), (q 108, .inl (cy 2, 40, .inr (.inl (fun _ => 0)))), (q 109, .inr (7, fShelf (fun k => q (109 + k)))), (q 110, .inl (cy 2, 40, .inr (.inl (fun _ => 0)))), (q 111, .inr (7, fShelf (fun k => q (111 + k)))), (q 112, .inl (cy 2, 40, .inr (.inl (fun _ => 0))))]) (c1 := 0) (s1 := 0) [0, 2] [1, 3, 4, 5, 6, 7, 8, 9, 10, 11, 12, 13, 14, 15, 16, 17, 18] (hc_V [.int (-4)] [] [0, 2] Sx hl.1 ws_X_63 md_X11_refuse (c_refuse_4 l D cy q) ⟨Nat.le_of_ble_eq_true rfl, Nat.le_of_ble_eq_true rfl⟩ hP hD rfl (by decide) hK nx_b (nx_w hX) (va_recv hK hP (ci := 11) (q0 := 0) rfl rfl) rfl rfl (Nat.le_of_ble_eq_true rfl) dd_X11_things_36 ⟨Nat.le_of_ble_eq_true rfl, Nat.le_of_ble_eq_true rfl⟩) hS hA hP hD rfl rfl (by decide) (by decide) rfl rfl (fun r7 u8 H locs hw9 hP hD hS => ?_)
        have hP : va_P D cls [(q 1, .inl (cy 4, 8, .inr (.inr (.inr (.inr (shv q)))))), (q 97, .inr (7, fShelf (fun k => q (97 + k)))), (q 98, .inl (cy 2, 40, .inr (.inl (fun _ => 0)))), (q 99, .inr (7, fShelf (fun k => q (99 + k)))), (q 100, .inl (cy 2, 40, .inr (.inl (fun _ => 0)))), (q 101, .inr (7, fShelf (fun k => q (101 + k)))), (q 102, .inl (cy 2, 40, .inr (.inl (fun _ => 0)))), (q 103, .inr (7, fShelf (fun k => q (103 + k)))), (q 104, .inl (cy 2, 40, .inr (.inl (fun _ => 0)))), (q 105, .inr (7, fShelf (fun k => q (105 + k)))), (q 106, .inl (cy 2, 40, .inr (.inl (fun _ => 0)))), (q 107, .inr (7, fShelf (fun k => q (107 + k)))), (q 108, .inl (cy 2, 40, .inr (.inl (fun _ => 0)))), (q 109, .inr (7, fShelf (fun k => q (109 + k)))), (q 110, .inl (cy 2, 40, .inr (.inl (fun _ => 0)))), (q 111, .inr (7, fShelf (fun k => q (111 + k)))), (q 112, .inl (cy 2, 40, .inr (.inl (fun _ => 0))))] H := hP
        have hD : va_D A [(q 1, .inl (cy 4, 8, .inr (.inr (.inr (.inr (shv q)))))), (q 97, .inr (7, fShelf (fun k => q (97 + k)))), (q 98, .inl (cy 2, 40, .inr (.inl (fun _ => 0)))), (q 99, .inr (7, fShelf (fun k => q (99 + k)))), (q 100, .inl (cy 2, 40, .inr (.inl (fun _ => 0)))), (q 101, .inr (7, fShelf (fun k => q (101 + k)))), (q 102, .inl (cy 2, 40, .inr (.inl (fun _ => 0)))), (q 103, .inr (7, fShelf (fun k => q (103 + k)))), (q 104, .inl (cy 2, 40, .inr (.inl (fun _ => 0)))), (q 105, .inr (7, fShelf (fun k => q (105 + k)))), (q 106, .inl (cy 2, 40, .inr (.inl (fun _ => 0)))), (q 107, .inr (7, fShelf (fun k => q (107 + k)))), (q 108, .inl (cy 2, 40, .inr (.inl (fun _ => 0)))), (q 109, .inr (7, fShelf (fun k => q (109 + k)))), (q 110, .inl (cy 2, 40, .inr (.inl (fun _ => 0)))), (q 111, .inr (7, fShelf (fun k => q (111 + k)))), (q 112, .inl (cy 2, 40, .inr (.inl (fun _ => 0))))] := hD
        subst hw9
        exact hc_ret Sx hr hlocks dd_X11_things_39 hS () (Or.inl ⟨by omega, rfl⟩) p_nil d_nil
      · exfalso; omega
    · subst ehw4
      refine lv_if_ne (tgt := 21) hx hb dd_X11_things_11 (by decide) (fun c => absurd c (by decide)) (fun _ => ?_)
      refine lv_aload_n hx hb dd_X11_things_14 rfl (lv_at hl 0 rfl) ?_
      refine lv_bipush (v := (-2)) hx hb dd_X11_things_15 (by decide) ?_
      refine hk_i (wr := [(q 1, .inl (cy 4, 8, .inr (.inr (.inr (.inr (shv q)))))), (q 97, .inr (7, fShelf (fun k => q (97 + k)))), (q 98, .inl (cy 2, 40, .inr (.inl (fun _ => 0)))), (q 99, .inr (7, fShelf (fun k => q (99 + k)))), (q 100, .inl (cy 2, 40, .inr (.inl (fun _ => 0)))), (q 101, .inr (7, fShelf (fun k => q (101 + k)))), (q 102, .inl (cy 2, 40, .inr (.inl (fun _ => 0)))), (q 103, .inr (7, fShelf (fun k => q (103 + k)))), (q 104, .inl (cy 2, 40, .inr (.inl (fun _ => 0)))), (q 105, .inr (7, fShelf (fun k => q (105 + k)))), (q 106, .inl (cy 2, 40, .inr (.inl (fun _ => 0)))), (q 107, .inr (7, fShelf (fun k => q (107 + k)))), (q 108, .inl (cy 2, 40, .inr (.inl (fun _ => 0)))), (q 109, .inr (7, fShelf (fun k => q (109 + k)))), (q 110, .inl (cy 2, 40, .inr (.inl (fun _ => 0)))), (q 111, .inr (7, fShelf (fun k => q (111 + k)))), (q 112, .inl (cy 2, 40, .inr (.inl (fun _ => 0))))]) (c1 := 0) (s1 := 0) [0, 2] [1, 3, 4, 5, 6, 7, 8, 9, 10, 11, 12, 13, 14, 15, 16, 17, 18] (hc_V [.int (-2)] [] [0, 2] Sx hl.1 ws_X_63 md_X11_refuse (c_refuse_2 l D cy q) ⟨Nat.le_of_ble_eq_true rfl, Nat.le_of_ble_eq_true rfl⟩ hP hD rfl (by decide) hK nx_b (nx_w hX) (va_recv hK hP (ci := 11) (q0 := 0) rfl rfl) rfl rfl (Nat.le_of_ble_eq_true rfl) dd_X11_things_17 ⟨Nat.le_of_ble_eq_true rfl, Nat.le_of_ble_eq_true rfl⟩) hS hA hP hD rfl rfl (by decide) (by decide) rfl rfl (fun r10 u11 H locs hw12 hP hD hS => ?_)
      have hP : va_P D cls [(q 1, .inl (cy 4, 8, .inr (.inr (.inr (.inr (shv q)))))), (q 97, .inr (7, fShelf (fun k => q (97 + k)))), (q 98, .inl (cy 2, 40, .inr (.inl (fun _ => 0)))), (q 99, .inr (7, fShelf (fun k => q (99 + k)))), (q 100, .inl (cy 2, 40, .inr (.inl (fun _ => 0)))), (q 101, .inr (7, fShelf (fun k => q (101 + k)))), (q 102, .inl (cy 2, 40, .inr (.inl (fun _ => 0)))), (q 103, .inr (7, fShelf (fun k => q (103 + k)))), (q 104, .inl (cy 2, 40, .inr (.inl (fun _ => 0)))), (q 105, .inr (7, fShelf (fun k => q (105 + k)))), (q 106, .inl (cy 2, 40, .inr (.inl (fun _ => 0)))), (q 107, .inr (7, fShelf (fun k => q (107 + k)))), (q 108, .inl (cy 2, 40, .inr (.inl (fun _ => 0)))), (q 109, .inr (7, fShelf (fun k => q (109 + k)))), (q 110, .inl (cy 2, 40, .inr (.inl (fun _ => 0)))), (q 111, .inr (7, fShelf (fun k => q (111 + k)))), (q 112, .inl (cy 2, 40, .inr (.inl (fun _ => 0))))] H := hP
      have hD : va_D A [(q 1, .inl (cy 4, 8, .inr (.inr (.inr (.inr (shv q)))))), (q 97, .inr (7, fShelf (fun k => q (97 + k)))), (q 98, .inl (cy 2, 40, .inr (.inl (fun _ => 0)))), (q 99, .inr (7, fShelf (fun k => q (99 + k)))), (q 100, .inl (cy 2, 40, .inr (.inl (fun _ => 0)))), (q 101, .inr (7, fShelf (fun k => q (101 + k)))), (q 102, .inl (cy 2, 40, .inr (.inl (fun _ => 0)))), (q 103, .inr (7, fShelf (fun k => q (103 + k)))), (q 104, .inl (cy 2, 40, .inr (.inl (fun _ => 0)))), (q 105, .inr (7, fShelf (fun k => q (105 + k)))), (q 106, .inl (cy 2, 40, .inr (.inl (fun _ => 0)))), (q 107, .inr (7, fShelf (fun k => q (107 + k)))), (q 108, .inl (cy 2, 40, .inr (.inl (fun _ => 0)))), (q 109, .inr (7, fShelf (fun k => q (109 + k)))), (q 110, .inl (cy 2, 40, .inr (.inl (fun _ => 0)))), (q 111, .inr (7, fShelf (fun k => q (111 + k)))), (q 112, .inl (cy 2, 40, .inr (.inl (fun _ => 0))))] := hD
      subst hw12
      exact hc_ret Sx hr hlocks dd_X11_things_20 hS () (Or.inr ⟨by omega, rfl⟩) p_nil d_nil
  · subst ehw2
    refine lv_if_eq (tgt := 14) hx hb dd_X11_things_4 (by decide) (fun _ => ?_) (fun c => absurd c (by decide))
    refine lv_aload_n hx hb dd_X11_things_14 rfl (lv_at hl 0 rfl) ?_
    refine lv_bipush (v := (-2)) hx hb dd_X11_things_15 (by decide) ?_
    refine hk_i (wr := [(q 1, .inl (cy 4, 8, .inr (.inr (.inr (.inr (shv q)))))), (q 97, .inr (7, fShelf (fun k => q (97 + k)))), (q 98, .inl (cy 2, 40, .inr (.inl (fun _ => 0)))), (q 99, .inr (7, fShelf (fun k => q (99 + k)))), (q 100, .inl (cy 2, 40, .inr (.inl (fun _ => 0)))), (q 101, .inr (7, fShelf (fun k => q (101 + k)))), (q 102, .inl (cy 2, 40, .inr (.inl (fun _ => 0)))), (q 103, .inr (7, fShelf (fun k => q (103 + k)))), (q 104, .inl (cy 2, 40, .inr (.inl (fun _ => 0)))), (q 105, .inr (7, fShelf (fun k => q (105 + k)))), (q 106, .inl (cy 2, 40, .inr (.inl (fun _ => 0)))), (q 107, .inr (7, fShelf (fun k => q (107 + k)))), (q 108, .inl (cy 2, 40, .inr (.inl (fun _ => 0)))), (q 109, .inr (7, fShelf (fun k => q (109 + k)))), (q 110, .inl (cy 2, 40, .inr (.inl (fun _ => 0)))), (q 111, .inr (7, fShelf (fun k => q (111 + k)))), (q 112, .inl (cy 2, 40, .inr (.inl (fun _ => 0))))]) (c1 := 0) (s1 := 0) [0, 2] [1, 3, 4, 5, 6, 7, 8, 9, 10, 11, 12, 13, 14, 15, 16, 17, 18] (hc_V [.int (-2)] [] [0, 2] Sx hl.1 ws_X_63 md_X11_refuse (c_refuse_2 l D cy q) ⟨Nat.le_of_ble_eq_true rfl, Nat.le_of_ble_eq_true rfl⟩ hP hD rfl (by decide) hK nx_b (nx_w hX) (va_recv hK hP (ci := 11) (q0 := 0) rfl rfl) rfl rfl (Nat.le_of_ble_eq_true rfl) dd_X11_things_17 ⟨Nat.le_of_ble_eq_true rfl, Nat.le_of_ble_eq_true rfl⟩) hS hA hP hD rfl rfl (by decide) (by decide) rfl rfl (fun r13 u14 H locs hw15 hP hD hS => ?_)
    have hP : va_P D cls [(q 1, .inl (cy 4, 8, .inr (.inr (.inr (.inr (shv q)))))), (q 97, .inr (7, fShelf (fun k => q (97 + k)))), (q 98, .inl (cy 2, 40, .inr (.inl (fun _ => 0)))), (q 99, .inr (7, fShelf (fun k => q (99 + k)))), (q 100, .inl (cy 2, 40, .inr (.inl (fun _ => 0)))), (q 101, .inr (7, fShelf (fun k => q (101 + k)))), (q 102, .inl (cy 2, 40, .inr (.inl (fun _ => 0)))), (q 103, .inr (7, fShelf (fun k => q (103 + k)))), (q 104, .inl (cy 2, 40, .inr (.inl (fun _ => 0)))), (q 105, .inr (7, fShelf (fun k => q (105 + k)))), (q 106, .inl (cy 2, 40, .inr (.inl (fun _ => 0)))), (q 107, .inr (7, fShelf (fun k => q (107 + k)))), (q 108, .inl (cy 2, 40, .inr (.inl (fun _ => 0)))), (q 109, .inr (7, fShelf (fun k => q (109 + k)))), (q 110, .inl (cy 2, 40, .inr (.inl (fun _ => 0)))), (q 111, .inr (7, fShelf (fun k => q (111 + k)))), (q 112, .inl (cy 2, 40, .inr (.inl (fun _ => 0))))] H := hP
    have hD : va_D A [(q 1, .inl (cy 4, 8, .inr (.inr (.inr (.inr (shv q)))))), (q 97, .inr (7, fShelf (fun k => q (97 + k)))), (q 98, .inl (cy 2, 40, .inr (.inl (fun _ => 0)))), (q 99, .inr (7, fShelf (fun k => q (99 + k)))), (q 100, .inl (cy 2, 40, .inr (.inl (fun _ => 0)))), (q 101, .inr (7, fShelf (fun k => q (101 + k)))), (q 102, .inl (cy 2, 40, .inr (.inl (fun _ => 0)))), (q 103, .inr (7, fShelf (fun k => q (103 + k)))), (q 104, .inl (cy 2, 40, .inr (.inl (fun _ => 0)))), (q 105, .inr (7, fShelf (fun k => q (105 + k)))), (q 106, .inl (cy 2, 40, .inr (.inl (fun _ => 0)))), (q 107, .inr (7, fShelf (fun k => q (107 + k)))), (q 108, .inl (cy 2, 40, .inr (.inl (fun _ => 0)))), (q 109, .inr (7, fShelf (fun k => q (109 + k)))), (q 110, .inl (cy 2, 40, .inr (.inl (fun _ => 0)))), (q 111, .inr (7, fShelf (fun k => q (111 + k)))), (q 112, .inl (cy 2, 40, .inr (.inl (fun _ => 0))))] := hD
    subst hw15
    exact hc_ret Sx hr hlocks dd_X11_things_20 hS () (Or.inr ⟨by omega, rfl⟩) p_nil d_nil
set_option maxHeartbeats 4000000 in
set_option maxRecDepth 100000 in
theorem c_X_thingOf (l : Launch) (D : va_G) (cy : Nat → ClassId) (q : Nat → Nat) (th : Int32) (wh : Int32) : HC l my_X11_thingOf mb_X11_thingOf 3 ((some .int)) (rmD 3 0 0) D (TY cy) [.ref (q 0), .int th, .int wh] NX [(q 0, .inr (11, fX q)), (q 2, .inl (cy 0, 5, .inl (fun _ => 0))), (q 5, .inr (1, fHall (fun k => q (5 + k)))), (q 6, .inr (10, fThings (fun k => q (6 + k))))] (QI (S := Unit) D (fun r _ => r = (-2)) (fun _ => [])) := by
  refine hc_intro (by decide) (Nat.le_of_ble_eq_true rfl) (fun p e s m below meth c A ls Sx hr hlocks hin hl hP hD hK hS hA hX => ?_)
  have hx := Sx.1
  have hb := Sx.2.1
  have hl : lv_has ls 3 [(0, .ref (q 0)), (1, .int th), (2, .int wh)] := hl
  have hP : va_P D cls [(q 0, .inr (11, fX q)), (q 2, .inl (cy 0, 5, .inl (fun _ => 0))), (q 5, .inr (1, fHall (fun k => q (5 + k)))), (q 6, .inr (10, fThings (fun k => q (6 + k))))] s.heap := hP
  have hD : va_D A [(q 0, .inr (11, fX q)), (q 2, .inl (cy 0, 5, .inl (fun _ => 0))), (q 5, .inr (1, fHall (fun k => q (5 + k)))), (q 6, .inr (10, fThings (fun k => q (6 + k))))] := hD
  refine lv_aload_n hx hb dd_X11_thingOf_0 rfl (lv_at hl 0 rfl) ?_
  refine wk_get (v := .ref (q 5)) Sx ef_11 hK hP 0 rfl rfl 3 (by decide) kk_385 rfl dd_X11_thingOf_1 ?_
  refine wk_get (v := .ref (q 6)) Sx ef_1 hK hP 2 rfl rfl 0 (by decide) kk_260 rfl dd_X11_thingOf_4 ?_
  refine lv_iload_n hx hb dd_X11_thingOf_7 rfl (lv_at hl 1 rfl) ?_
  refine pk_i (pc_V [.int th] [] Sx hl.1 ws_X_117 md_X10_has (c_Things_has l D cy (fun k => q (6 + k)) th) ⟨rfl, rfl⟩ ⟨Nat.le_of_ble_eq_true rfl, Nat.le_of_ble_eq_true rfl⟩ (hP.sub [3] rfl) hK ns_b (ns_w hX) (va_recv hK hP (ci := 10) (q0 := 3) rfl rfl) rfl rfl (Nat.le_of_ble_eq_true rfl) dd_X11_thingOf_8 ⟨Nat.le_of_ble_eq_true rfl, Nat.le_of_ble_eq_true rfl⟩) (fun r1 hw2 => ?_)
  subst hw2
  refine lv_if_ne (tgt := 21) hx hb dd_X11_thingOf_11 (by decide) (fun c => absurd c (by decide)) (fun _ => ?_)
  refine lv_aload_n hx hb dd_X11_thingOf_14 rfl (lv_at hl 0 rfl) ?_
  refine lv_bipush (v := (-2)) hx hb dd_X11_thingOf_15 (by decide) ?_
  refine hk_i (wr := [(q 5, .inr (1, fHall (fun k => q (5 + k)))), (q 6, .inr (10, fThings (fun k => q (6 + k))))]) (c1 := 0) (s1 := 0) [0, 1] [2, 3] (hc_V [.int (-2)] [] [0, 1] Sx hl.1 ws_X_63 md_X11_refuse (c_refuse_2 l D cy q) ⟨Nat.le_of_ble_eq_true rfl, Nat.le_of_ble_eq_true rfl⟩ hP hD rfl (by decide) hK nx_b (nx_w hX) (va_recv hK hP (ci := 11) (q0 := 0) rfl rfl) rfl rfl (Nat.le_of_ble_eq_true rfl) dd_X11_thingOf_17 ⟨Nat.le_of_ble_eq_true rfl, Nat.le_of_ble_eq_true rfl⟩) hS hA hP hD rfl rfl (by decide) (by decide) rfl rfl (fun r3 u4 H locs hw5 hP hD hS => ?_)
  have hP : va_P D cls [(q 5, .inr (1, fHall (fun k => q (5 + k)))), (q 6, .inr (10, fThings (fun k => q (6 + k))))] H := hP
  have hD : va_D A [(q 5, .inr (1, fHall (fun k => q (5 + k)))), (q 6, .inr (10, fThings (fun k => q (6 + k))))] := hD
  subst hw5
  exact hc_ret Sx hr hlocks dd_X11_thingOf_20 hS () rfl p_nil d_nil
set_option maxHeartbeats 4000000 in
set_option maxRecDepth 100000 in
theorem c_X_chip (l : Launch) (D : va_G) (cy : Nat → ClassId) (q : Nat → Nat) (th : Int32) (ch : Int32) : HC l my_X11_chip mb_X11_chip 3 ((some .int)) (rmD 3 0 0) D (TY cy) [.ref (q 0), .int th, .int ch] NX [(q 0, .inr (11, fX q)), (q 2, .inl (cy 0, 5, .inl (fun _ => 0))), (q 5, .inr (1, fHall (fun k => q (5 + k)))), (q 6, .inr (10, fThings (fun k => q (6 + k))))] (QI (S := Unit) D (fun r _ => r = (-2)) (fun _ => [])) := by
  refine hc_intro (by decide) (Nat.le_of_ble_eq_true rfl) (fun p e s m below meth c A ls Sx hr hlocks hin hl hP hD hK hS hA hX => ?_)
  have hx := Sx.1
  have hb := Sx.2.1
  have hl : lv_has ls 3 [(0, .ref (q 0)), (1, .int th), (2, .int ch)] := hl
  have hP : va_P D cls [(q 0, .inr (11, fX q)), (q 2, .inl (cy 0, 5, .inl (fun _ => 0))), (q 5, .inr (1, fHall (fun k => q (5 + k)))), (q 6, .inr (10, fThings (fun k => q (6 + k))))] s.heap := hP
  have hD : va_D A [(q 0, .inr (11, fX q)), (q 2, .inl (cy 0, 5, .inl (fun _ => 0))), (q 5, .inr (1, fHall (fun k => q (5 + k)))), (q 6, .inr (10, fThings (fun k => q (6 + k))))] := hD
  refine lv_aload_n hx hb dd_X11_chip_0 rfl (lv_at hl 0 rfl) ?_
  refine wk_get (v := .ref (q 5)) Sx ef_11 hK hP 0 rfl rfl 3 (by decide) kk_385 rfl dd_X11_chip_1 ?_
  refine wk_get (v := .ref (q 6)) Sx ef_1 hK hP 2 rfl rfl 0 (by decide) kk_260 rfl dd_X11_chip_4 ?_
  refine lv_iload_n hx hb dd_X11_chip_7 rfl (lv_at hl 1 rfl) ?_
  refine pk_i (pc_V [.int th] [] Sx hl.1 ws_X_117 md_X10_has (c_Things_has l D cy (fun k => q (6 + k)) th) ⟨rfl, rfl⟩ ⟨Nat.le_of_ble_eq_true rfl, Nat.le_of_ble_eq_true rfl⟩ (hP.sub [3] rfl) hK ns_b (ns_w hX) (va_recv hK hP (ci := 10) (q0 := 3) rfl rfl) rfl rfl (Nat.le_of_ble_eq_true rfl) dd_X11_chip_8 ⟨Nat.le_of_ble_eq_true rfl, Nat.le_of_ble_eq_true rfl⟩) (fun r1 hw2 => ?_)
  subst hw2
  refine lv_if_eq (tgt := 24) hx hb dd_X11_chip_11 (by decide) (fun _ => ?_) (fun c => absurd c (by decide))
  refine lv_aload_n hx hb dd_X11_chip_24 rfl (lv_at hl 0 rfl) ?_
  refine lv_bipush (v := (-2)) hx hb dd_X11_chip_25 (by decide) ?_
  refine hk_i (wr := [(q 5, .inr (1, fHall (fun k => q (5 + k)))), (q 6, .inr (10, fThings (fun k => q (6 + k))))]) (c1 := 0) (s1 := 0) [0, 1] [2, 3] (hc_V [.int (-2)] [] [0, 1] Sx hl.1 ws_X_63 md_X11_refuse (c_refuse_2 l D cy q) ⟨Nat.le_of_ble_eq_true rfl, Nat.le_of_ble_eq_true rfl⟩ hP hD rfl (by decide) hK nx_b (nx_w hX) (va_recv hK hP (ci := 11) (q0 := 0) rfl rfl) rfl rfl (Nat.le_of_ble_eq_true rfl) dd_X11_chip_27 ⟨Nat.le_of_ble_eq_true rfl, Nat.le_of_ble_eq_true rfl⟩) hS hA hP hD rfl rfl (by decide) (by decide) rfl rfl (fun r3 u4 H locs hw5 hP hD hS => ?_)
  have hP : va_P D cls [(q 5, .inr (1, fHall (fun k => q (5 + k)))), (q 6, .inr (10, fThings (fun k => q (6 + k))))] H := hP
  have hD : va_D A [(q 5, .inr (1, fHall (fun k => q (5 + k)))), (q 6, .inr (10, fThings (fun k => q (6 + k))))] := hD
  subst hw5
  exact hc_ret Sx hr hlocks dd_X11_chip_30 hS () rfl p_nil d_nil
set_option maxHeartbeats 4000000 in
set_option maxRecDepth 100000 in
theorem c_X_goes (l : Launch) (D : va_G) (cy : Nat → ClassId) (q : Nat → Nat) (la : Int32) (lw : Int32) : HC l my_X11_goes mb_X11_goes 4 ((some .int)) (rmD 3 0 0) D (TY cy) [.ref (q 0), .int la, .int lw] NX [(q 0, .inr (11, fX q)), (q 2, .inl (cy 0, 5, .inl (fun _ => 0))), (q 5, .inr (1, fHall (fun k => q (5 + k)))), (q 14, .inr (2, fLadies (fun k => q (14 + k))))] (QI (S := Unit) D (fun r _ => r = (-2)) (fun _ => [])) := by
  refine hc_intro (by decide) (Nat.le_of_ble_eq_true rfl) (fun p e s m below meth c A ls Sx hr hlocks hin hl hP hD hK hS hA hX => ?_)
  have hx := Sx.1
  have hb := Sx.2.1
  have hl : lv_has ls 4 [(0, .ref (q 0)), (1, .int la), (2, .int lw)] := hl
  have hP : va_P D cls [(q 0, .inr (11, fX q)), (q 2, .inl (cy 0, 5, .inl (fun _ => 0))), (q 5, .inr (1, fHall (fun k => q (5 + k)))), (q 14, .inr (2, fLadies (fun k => q (14 + k))))] s.heap := hP
  have hD : va_D A [(q 0, .inr (11, fX q)), (q 2, .inl (cy 0, 5, .inl (fun _ => 0))), (q 5, .inr (1, fHall (fun k => q (5 + k)))), (q 14, .inr (2, fLadies (fun k => q (14 + k))))] := hD
  refine lv_aload_n hx hb dd_X11_goes_0 rfl (lv_at hl 0 rfl) ?_
  refine wk_get (v := .ref (q 5)) Sx ef_11 hK hP 0 rfl rfl 3 (by decide) kk_385 rfl dd_X11_goes_1 ?_
  refine wk_get (v := .ref (q 14)) Sx ef_1 hK hP 2 rfl rfl 1 (by decide) kk_262 rfl dd_X11_goes_4 ?_
  refine lv_iload_n hx hb dd_X11_goes_7 rfl (lv_at hl 1 rfl) ?_
  refine pk_i (pc_V [.int la] [] Sx hl.1 ws_X_177 md_X2_has (c_Ladies_has l D cy (fun k => q (14 + k)) la) ⟨rfl, rfl⟩ ⟨Nat.le_of_ble_eq_true rfl, Nat.le_of_ble_eq_true rfl⟩ (hP.sub [3] rfl) hK ns_b (ns_w hX) (va_recv hK hP (ci := 2) (q0 := 3) rfl rfl) rfl rfl (Nat.le_of_ble_eq_true rfl) dd_X11_goes_8 ⟨Nat.le_of_ble_eq_true rfl, Nat.le_of_ble_eq_true rfl⟩) (fun r1 hw2 => ?_)
  subst hw2
  refine lv_if_eq (tgt := 33) hx hb dd_X11_goes_11 (by decide) (fun _ => ?_) (fun c => absurd c (by decide))
  refine lv_aload_n hx hb dd_X11_goes_33 rfl (lv_at hl 0 rfl) ?_
  refine lv_bipush (v := (-2)) hx hb dd_X11_goes_34 (by decide) ?_
  refine hk_i (wr := [(q 5, .inr (1, fHall (fun k => q (5 + k)))), (q 14, .inr (2, fLadies (fun k => q (14 + k))))]) (c1 := 0) (s1 := 0) [0, 1] [2, 3] (hc_V [.int (-2)] [] [0, 1] Sx hl.1 ws_X_63 md_X11_refuse (c_refuse_2 l D cy q) ⟨Nat.le_of_ble_eq_true rfl, Nat.le_of_ble_eq_true rfl⟩ hP hD rfl (by decide) hK nx_b (nx_w hX) (va_recv hK hP (ci := 11) (q0 := 0) rfl rfl) rfl rfl (Nat.le_of_ble_eq_true rfl) dd_X11_goes_36 ⟨Nat.le_of_ble_eq_true rfl, Nat.le_of_ble_eq_true rfl⟩) hS hA hP hD rfl rfl (by decide) (by decide) rfl rfl (fun r3 u4 H locs hw5 hP hD hS => ?_)
  have hP : va_P D cls [(q 5, .inr (1, fHall (fun k => q (5 + k)))), (q 14, .inr (2, fLadies (fun k => q (14 + k))))] H := hP
  have hD : va_D A [(q 5, .inr (1, fHall (fun k => q (5 + k)))), (q 14, .inr (2, fLadies (fun k => q (14 + k))))] := hD
  subst hw5
  exact hc_ret Sx hr hlocks dd_X11_goes_39 hS () rfl p_nil d_nil
set_option maxHeartbeats 4000000 in
set_option maxRecDepth 100000 in
theorem c_X_lawOf (l : Launch) (D : va_G) (cy : Nat → ClassId) (q : Nat → Nat) (lw : Int32) (wh : Int32) : HC l my_X11_lawOf mb_X11_lawOf 3 ((some .int)) (rmD 3 0 0) D (TY cy) [.ref (q 0), .int lw, .int wh] NX [(q 0, .inr (11, fX q)), (q 2, .inl (cy 0, 5, .inl (fun _ => 0))), (q 5, .inr (1, fHall (fun k => q (5 + k)))), (q 18, .inr (3, fLaws (fun k => q (18 + k))))] (QI (S := Unit) D (fun r _ => r = (-2)) (fun _ => [])) := by
  refine hc_intro (by decide) (Nat.le_of_ble_eq_true rfl) (fun p e s m below meth c A ls Sx hr hlocks hin hl hP hD hK hS hA hX => ?_)
  have hx := Sx.1
  have hb := Sx.2.1
  have hl : lv_has ls 3 [(0, .ref (q 0)), (1, .int lw), (2, .int wh)] := hl
  have hP : va_P D cls [(q 0, .inr (11, fX q)), (q 2, .inl (cy 0, 5, .inl (fun _ => 0))), (q 5, .inr (1, fHall (fun k => q (5 + k)))), (q 18, .inr (3, fLaws (fun k => q (18 + k))))] s.heap := hP
  have hD : va_D A [(q 0, .inr (11, fX q)), (q 2, .inl (cy 0, 5, .inl (fun _ => 0))), (q 5, .inr (1, fHall (fun k => q (5 + k)))), (q 18, .inr (3, fLaws (fun k => q (18 + k))))] := hD
  refine lv_aload_n hx hb dd_X11_lawOf_0 rfl (lv_at hl 0 rfl) ?_
  refine wk_get (v := .ref (q 5)) Sx ef_11 hK hP 0 rfl rfl 3 (by decide) kk_385 rfl dd_X11_lawOf_1 ?_
  refine wk_get (v := .ref (q 18)) Sx ef_1 hK hP 2 rfl rfl 2 (by decide) kk_264 rfl dd_X11_lawOf_4 ?_
  refine lv_iload_n hx hb dd_X11_lawOf_7 rfl (lv_at hl 1 rfl) ?_
  refine pk_i (pc_V [.int lw] [] Sx hl.1 ws_X_182 md_X3_has (c_Laws_has l D cy (fun k => q (18 + k)) lw) ⟨rfl, rfl⟩ ⟨Nat.le_of_ble_eq_true rfl, Nat.le_of_ble_eq_true rfl⟩ (hP.sub [3] rfl) hK ns_b (ns_w hX) (va_recv hK hP (ci := 3) (q0 := 3) rfl rfl) rfl rfl (Nat.le_of_ble_eq_true rfl) dd_X11_lawOf_8 ⟨Nat.le_of_ble_eq_true rfl, Nat.le_of_ble_eq_true rfl⟩) (fun r1 hw2 => ?_)
  subst hw2
  refine lv_if_eq (tgt := 23) hx hb dd_X11_lawOf_11 (by decide) (fun _ => ?_) (fun c => absurd c (by decide))
  refine lv_aload_n hx hb dd_X11_lawOf_23 rfl (lv_at hl 0 rfl) ?_
  refine lv_bipush (v := (-2)) hx hb dd_X11_lawOf_24 (by decide) ?_
  refine hk_i (wr := [(q 5, .inr (1, fHall (fun k => q (5 + k)))), (q 18, .inr (3, fLaws (fun k => q (18 + k))))]) (c1 := 0) (s1 := 0) [0, 1] [2, 3] (hc_V [.int (-2)] [] [0, 1] Sx hl.1 ws_X_63 md_X11_refuse (c_refuse_2 l D cy q) ⟨Nat.le_of_ble_eq_true rfl, Nat.le_of_ble_eq_true rfl⟩ hP hD rfl (by decide) hK nx_b (nx_w hX) (va_recv hK hP (ci := 11) (q0 := 0) rfl rfl) rfl rfl (Nat.le_of_ble_eq_true rfl) dd_X11_lawOf_26 ⟨Nat.le_of_ble_eq_true rfl, Nat.le_of_ble_eq_true rfl⟩) hS hA hP hD rfl rfl (by decide) (by decide) rfl rfl (fun r3 u4 H locs hw5 hP hD hS => ?_)
  have hP : va_P D cls [(q 5, .inr (1, fHall (fun k => q (5 + k)))), (q 18, .inr (3, fLaws (fun k => q (18 + k))))] H := hP
  have hD : va_D A [(q 5, .inr (1, fHall (fun k => q (5 + k)))), (q 18, .inr (3, fLaws (fun k => q (18 + k))))] := hD
  subst hw5
  exact hc_ret Sx hr hlocks dd_X11_lawOf_29 hS () rfl p_nil d_nil
set_option maxHeartbeats 4000000 in
set_option maxRecDepth 100000 in
theorem c_X_thinks (l : Launch) (D : va_G) (cy : Nat → ClassId) (q : Nat → Nat) (la : Int32) (th : Int32) (lo : Int32) : HC l my_X11_thinks mb_X11_thinks 4 ((some .int)) (rmD 3 0 0) D (TY cy) [.ref (q 0), .int la, .int th, .int lo] NX [(q 0, .inr (11, fX q)), (q 2, .inl (cy 0, 5, .inl (fun _ => 0))), (q 5, .inr (1, fHall (fun k => q (5 + k)))), (q 14, .inr (2, fLadies (fun k => q (14 + k))))] (QI (S := Unit) D (fun r _ => r = (-2)) (fun _ => [])) := by
  refine hc_intro (by decide) (Nat.le_of_ble_eq_true rfl) (fun p e s m below meth c A ls Sx hr hlocks hin hl hP hD hK hS hA hX => ?_)
  have hx := Sx.1
  have hb := Sx.2.1
  have hl : lv_has ls 4 [(0, .ref (q 0)), (1, .int la), (2, .int th), (3, .int lo)] := hl
  have hP : va_P D cls [(q 0, .inr (11, fX q)), (q 2, .inl (cy 0, 5, .inl (fun _ => 0))), (q 5, .inr (1, fHall (fun k => q (5 + k)))), (q 14, .inr (2, fLadies (fun k => q (14 + k))))] s.heap := hP
  have hD : va_D A [(q 0, .inr (11, fX q)), (q 2, .inl (cy 0, 5, .inl (fun _ => 0))), (q 5, .inr (1, fHall (fun k => q (5 + k)))), (q 14, .inr (2, fLadies (fun k => q (14 + k))))] := hD
  refine lv_aload_n hx hb dd_X11_thinks_0 rfl (lv_at hl 0 rfl) ?_
  refine wk_get (v := .ref (q 5)) Sx ef_11 hK hP 0 rfl rfl 3 (by decide) kk_385 rfl dd_X11_thinks_1 ?_
  refine wk_get (v := .ref (q 14)) Sx ef_1 hK hP 2 rfl rfl 1 (by decide) kk_262 rfl dd_X11_thinks_4 ?_
  refine lv_iload_n hx hb dd_X11_thinks_7 rfl (lv_at hl 1 rfl) ?_
  refine pk_i (pc_V [.int la] [] Sx hl.1 ws_X_177 md_X2_has (c_Ladies_has l D cy (fun k => q (14 + k)) la) ⟨rfl, rfl⟩ ⟨Nat.le_of_ble_eq_true rfl, Nat.le_of_ble_eq_true rfl⟩ (hP.sub [3] rfl) hK ns_b (ns_w hX) (va_recv hK hP (ci := 2) (q0 := 3) rfl rfl) rfl rfl (Nat.le_of_ble_eq_true rfl) dd_X11_thinks_8 ⟨Nat.le_of_ble_eq_true rfl, Nat.le_of_ble_eq_true rfl⟩) (fun r1 hw2 => ?_)
  subst hw2
  refine lv_if_eq (tgt := 28) hx hb dd_X11_thinks_11 (by decide) (fun _ => ?_) (fun c => absurd c (by decide))
  refine lv_aload_n hx hb dd_X11_thinks_28 rfl (lv_at hl 0 rfl) ?_
  refine lv_bipush (v := (-2)) hx hb dd_X11_thinks_29 (by decide) ?_
  refine hk_i (wr := [(q 5, .inr (1, fHall (fun k => q (5 + k)))), (q 14, .inr (2, fLadies (fun k => q (14 + k))))]) (c1 := 0) (s1 := 0) [0, 1] [2, 3] (hc_V [.int (-2)] [] [0, 1] Sx hl.1 ws_X_63 md_X11_refuse (c_refuse_2 l D cy q) ⟨Nat.le_of_ble_eq_true rfl, Nat.le_of_ble_eq_true rfl⟩ hP hD rfl (by decide) hK nx_b (nx_w hX) (va_recv hK hP (ci := 11) (q0 := 0) rfl rfl) rfl rfl (Nat.le_of_ble_eq_true rfl) dd_X11_thinks_31 ⟨Nat.le_of_ble_eq_true rfl, Nat.le_of_ble_eq_true rfl⟩) hS hA hP hD rfl rfl (by decide) (by decide) rfl rfl (fun r3 u4 H locs hw5 hP hD hS => ?_)
  have hP : va_P D cls [(q 5, .inr (1, fHall (fun k => q (5 + k)))), (q 14, .inr (2, fLadies (fun k => q (14 + k))))] H := hP
  have hD : va_D A [(q 5, .inr (1, fHall (fun k => q (5 + k)))), (q 14, .inr (2, fLadies (fun k => q (14 + k))))] := hD
  subst hw5
  exact hc_ret Sx hr hlocks dd_X11_thinks_34 hS () rfl p_nil d_nil
set_option maxHeartbeats 4000000 in
set_option maxRecDepth 100000 in
theorem c_X_price (l : Launch) (D : va_G) (cy : Nat → ClassId) (q : Nat → Nat) (la : Int32) (ki : Int32) : HC l my_X11_price mb_X11_price 3 ((some .int)) (rmD 3 0 0) D (TY cy) [.ref (q 0), .int la, .int ki] NX [(q 0, .inr (11, fX q)), (q 2, .inl (cy 0, 5, .inl (fun _ => 0))), (q 5, .inr (1, fHall (fun k => q (5 + k)))), (q 14, .inr (2, fLadies (fun k => q (14 + k))))] (QI (S := Unit) D (fun r _ => r = (-2)) (fun _ => [])) := by
  refine hc_intro (by decide) (Nat.le_of_ble_eq_true rfl) (fun p e s m below meth c A ls Sx hr hlocks hin hl hP hD hK hS hA hX => ?_)
  have hx := Sx.1
  have hb := Sx.2.1
  have hl : lv_has ls 3 [(0, .ref (q 0)), (1, .int la), (2, .int ki)] := hl
  have hP : va_P D cls [(q 0, .inr (11, fX q)), (q 2, .inl (cy 0, 5, .inl (fun _ => 0))), (q 5, .inr (1, fHall (fun k => q (5 + k)))), (q 14, .inr (2, fLadies (fun k => q (14 + k))))] s.heap := hP
  have hD : va_D A [(q 0, .inr (11, fX q)), (q 2, .inl (cy 0, 5, .inl (fun _ => 0))), (q 5, .inr (1, fHall (fun k => q (5 + k)))), (q 14, .inr (2, fLadies (fun k => q (14 + k))))] := hD
  refine lv_aload_n hx hb dd_X11_price_0 rfl (lv_at hl 0 rfl) ?_
  refine wk_get (v := .ref (q 5)) Sx ef_11 hK hP 0 rfl rfl 3 (by decide) kk_385 rfl dd_X11_price_1 ?_
  refine wk_get (v := .ref (q 14)) Sx ef_1 hK hP 2 rfl rfl 1 (by decide) kk_262 rfl dd_X11_price_4 ?_
  refine lv_iload_n hx hb dd_X11_price_7 rfl (lv_at hl 1 rfl) ?_
  refine pk_i (pc_V [.int la] [] Sx hl.1 ws_X_177 md_X2_has (c_Ladies_has l D cy (fun k => q (14 + k)) la) ⟨rfl, rfl⟩ ⟨Nat.le_of_ble_eq_true rfl, Nat.le_of_ble_eq_true rfl⟩ (hP.sub [3] rfl) hK ns_b (ns_w hX) (va_recv hK hP (ci := 2) (q0 := 3) rfl rfl) rfl rfl (Nat.le_of_ble_eq_true rfl) dd_X11_price_8 ⟨Nat.le_of_ble_eq_true rfl, Nat.le_of_ble_eq_true rfl⟩) (fun r1 hw2 => ?_)
  subst hw2
  refine lv_if_eq (tgt := 21) hx hb dd_X11_price_11 (by decide) (fun _ => ?_) (fun c => absurd c (by decide))
  refine lv_aload_n hx hb dd_X11_price_21 rfl (lv_at hl 0 rfl) ?_
  refine lv_bipush (v := (-2)) hx hb dd_X11_price_22 (by decide) ?_
  refine hk_i (wr := [(q 5, .inr (1, fHall (fun k => q (5 + k)))), (q 14, .inr (2, fLadies (fun k => q (14 + k))))]) (c1 := 0) (s1 := 0) [0, 1] [2, 3] (hc_V [.int (-2)] [] [0, 1] Sx hl.1 ws_X_63 md_X11_refuse (c_refuse_2 l D cy q) ⟨Nat.le_of_ble_eq_true rfl, Nat.le_of_ble_eq_true rfl⟩ hP hD rfl (by decide) hK nx_b (nx_w hX) (va_recv hK hP (ci := 11) (q0 := 0) rfl rfl) rfl rfl (Nat.le_of_ble_eq_true rfl) dd_X11_price_24 ⟨Nat.le_of_ble_eq_true rfl, Nat.le_of_ble_eq_true rfl⟩) hS hA hP hD rfl rfl (by decide) (by decide) rfl rfl (fun r3 u4 H locs hw5 hP hD hS => ?_)
  have hP : va_P D cls [(q 5, .inr (1, fHall (fun k => q (5 + k)))), (q 14, .inr (2, fLadies (fun k => q (14 + k))))] H := hP
  have hD : va_D A [(q 5, .inr (1, fHall (fun k => q (5 + k)))), (q 14, .inr (2, fLadies (fun k => q (14 + k))))] := hD
  subst hw5
  exact hc_ret Sx hr hlocks dd_X11_price_27 hS () rfl p_nil d_nil
set_option maxHeartbeats 4000000 in
set_option maxRecDepth 100000 in
theorem c_X_mark (l : Launch) (D : va_G) (cy : Nat → ClassId) (q : Nat → Nat) (th : Int32) (va : Int32) : HC l my_X11_mark mb_X11_mark 4 ((some .int)) (rmD 3 0 0) D (TY cy) [.ref (q 0), .int th, .int va] NX [(q 0, .inr (11, fX q)), (q 2, .inl (cy 0, 5, .inl (fun _ => 0))), (q 5, .inr (1, fHall (fun k => q (5 + k)))), (q 6, .inr (10, fThings (fun k => q (6 + k))))] (QI (S := Unit) D (fun r _ => r = (-2)) (fun _ => [])) := by
  refine hc_intro (by decide) (Nat.le_of_ble_eq_true rfl) (fun p e s m below meth c A ls Sx hr hlocks hin hl hP hD hK hS hA hX => ?_)
  have hx := Sx.1
  have hb := Sx.2.1
  have hl : lv_has ls 4 [(0, .ref (q 0)), (1, .int th), (2, .int va)] := hl
  have hP : va_P D cls [(q 0, .inr (11, fX q)), (q 2, .inl (cy 0, 5, .inl (fun _ => 0))), (q 5, .inr (1, fHall (fun k => q (5 + k)))), (q 6, .inr (10, fThings (fun k => q (6 + k))))] s.heap := hP
  have hD : va_D A [(q 0, .inr (11, fX q)), (q 2, .inl (cy 0, 5, .inl (fun _ => 0))), (q 5, .inr (1, fHall (fun k => q (5 + k)))), (q 6, .inr (10, fThings (fun k => q (6 + k))))] := hD
  refine lv_aload_n hx hb dd_X11_mark_0 rfl (lv_at hl 0 rfl) ?_
  refine wk_get (v := .ref (q 5)) Sx ef_11 hK hP 0 rfl rfl 3 (by decide) kk_385 rfl dd_X11_mark_1 ?_
  refine wk_get (v := .ref (q 6)) Sx ef_1 hK hP 2 rfl rfl 0 (by decide) kk_260 rfl dd_X11_mark_4 ?_
  refine lv_iload_n hx hb dd_X11_mark_7 rfl (lv_at hl 1 rfl) ?_
  refine pk_i (pc_V [.int th] [] Sx hl.1 ws_X_117 md_X10_has (c_Things_has l D cy (fun k => q (6 + k)) th) ⟨rfl, rfl⟩ ⟨Nat.le_of_ble_eq_true rfl, Nat.le_of_ble_eq_true rfl⟩ (hP.sub [3] rfl) hK ns_b (ns_w hX) (va_recv hK hP (ci := 10) (q0 := 3) rfl rfl) rfl rfl (Nat.le_of_ble_eq_true rfl) dd_X11_mark_8 ⟨Nat.le_of_ble_eq_true rfl, Nat.le_of_ble_eq_true rfl⟩) (fun r1 hw2 => ?_)
  subst hw2
  refine lv_if_eq (tgt := 30) hx hb dd_X11_mark_11 (by decide) (fun _ => ?_) (fun c => absurd c (by decide))
  refine lv_aload_n hx hb dd_X11_mark_30 rfl (lv_at hl 0 rfl) ?_
  refine lv_bipush (v := (-2)) hx hb dd_X11_mark_31 (by decide) ?_
  refine hk_i (wr := [(q 5, .inr (1, fHall (fun k => q (5 + k)))), (q 6, .inr (10, fThings (fun k => q (6 + k))))]) (c1 := 0) (s1 := 0) [0, 1] [2, 3] (hc_V [.int (-2)] [] [0, 1] Sx hl.1 ws_X_63 md_X11_refuse (c_refuse_2 l D cy q) ⟨Nat.le_of_ble_eq_true rfl, Nat.le_of_ble_eq_true rfl⟩ hP hD rfl (by decide) hK nx_b (nx_w hX) (va_recv hK hP (ci := 11) (q0 := 0) rfl rfl) rfl rfl (Nat.le_of_ble_eq_true rfl) dd_X11_mark_33 ⟨Nat.le_of_ble_eq_true rfl, Nat.le_of_ble_eq_true rfl⟩) hS hA hP hD rfl rfl (by decide) (by decide) rfl rfl (fun r3 u4 H locs hw5 hP hD hS => ?_)
  have hP : va_P D cls [(q 5, .inr (1, fHall (fun k => q (5 + k)))), (q 6, .inr (10, fThings (fun k => q (6 + k))))] H := hP
  have hD : va_D A [(q 5, .inr (1, fHall (fun k => q (5 + k)))), (q 6, .inr (10, fThings (fun k => q (6 + k))))] := hD
  subst hw5
  exact hc_ret Sx hr hlocks dd_X11_mark_36 hS () rfl p_nil d_nil
set_option maxHeartbeats 4000000 in
set_option maxRecDepth 100000 in
theorem c_X_buyerOf (l : Launch) (D : va_G) (cy : Nat → ClassId) (q : Nat → Nat) (bu : Int32) (wh : Int32) : HC l my_X11_buyerOf mb_X11_buyerOf 3 ((some .int)) (rmD 3 0 0) D (TY cy) [.ref (q 0), .int bu, .int wh] NX [(q 0, .inr (11, fX q)), (q 2, .inl (cy 0, 5, .inl (fun _ => 0))), (q 5, .inr (1, fHall (fun k => q (5 + k)))), (q 21, .inr (0, fBuyers (fun k => q (21 + k))))] (QI (S := Unit) D (fun r _ => r = (-2)) (fun _ => [])) := by
  refine hc_intro (by decide) (Nat.le_of_ble_eq_true rfl) (fun p e s m below meth c A ls Sx hr hlocks hin hl hP hD hK hS hA hX => ?_)
  have hx := Sx.1
  have hb := Sx.2.1
  have hl : lv_has ls 3 [(0, .ref (q 0)), (1, .int bu), (2, .int wh)] := hl
  have hP : va_P D cls [(q 0, .inr (11, fX q)), (q 2, .inl (cy 0, 5, .inl (fun _ => 0))), (q 5, .inr (1, fHall (fun k => q (5 + k)))), (q 21, .inr (0, fBuyers (fun k => q (21 + k))))] s.heap := hP
  have hD : va_D A [(q 0, .inr (11, fX q)), (q 2, .inl (cy 0, 5, .inl (fun _ => 0))), (q 5, .inr (1, fHall (fun k => q (5 + k)))), (q 21, .inr (0, fBuyers (fun k => q (21 + k))))] := hD
  refine lv_aload_n hx hb dd_X11_buyerOf_0 rfl (lv_at hl 0 rfl) ?_
  refine wk_get (v := .ref (q 5)) Sx ef_11 hK hP 0 rfl rfl 3 (by decide) kk_385 rfl dd_X11_buyerOf_1 ?_
  refine wk_get (v := .ref (q 21)) Sx ef_1 hK hP 2 rfl rfl 3 (by decide) kk_267 rfl dd_X11_buyerOf_4 ?_
  refine lv_iload_n hx hb dd_X11_buyerOf_7 rfl (lv_at hl 1 rfl) ?_
  refine pk_i (pc_V [.int bu] [] Sx hl.1 ws_X_229 md_X0_has (c_Buyers_has l D cy (fun k => q (21 + k)) bu) ⟨rfl, rfl⟩ ⟨Nat.le_of_ble_eq_true rfl, Nat.le_of_ble_eq_true rfl⟩ (hP.sub [3] rfl) hK ns_b (ns_w hX) (va_recv hK hP (ci := 0) (q0 := 3) rfl rfl) rfl rfl (Nat.le_of_ble_eq_true rfl) dd_X11_buyerOf_8 ⟨Nat.le_of_ble_eq_true rfl, Nat.le_of_ble_eq_true rfl⟩) (fun r1 hw2 => ?_)
  subst hw2
  refine lv_if_ne (tgt := 21) hx hb dd_X11_buyerOf_11 (by decide) (fun c => absurd c (by decide)) (fun _ => ?_)
  refine lv_aload_n hx hb dd_X11_buyerOf_14 rfl (lv_at hl 0 rfl) ?_
  refine lv_bipush (v := (-2)) hx hb dd_X11_buyerOf_15 (by decide) ?_
  refine hk_i (wr := [(q 5, .inr (1, fHall (fun k => q (5 + k)))), (q 21, .inr (0, fBuyers (fun k => q (21 + k))))]) (c1 := 0) (s1 := 0) [0, 1] [2, 3] (hc_V [.int (-2)] [] [0, 1] Sx hl.1 ws_X_63 md_X11_refuse (c_refuse_2 l D cy q) ⟨Nat.le_of_ble_eq_true rfl, Nat.le_of_ble_eq_true rfl⟩ hP hD rfl (by decide) hK nx_b (nx_w hX) (va_recv hK hP (ci := 11) (q0 := 0) rfl rfl) rfl rfl (Nat.le_of_ble_eq_true rfl) dd_X11_buyerOf_17 ⟨Nat.le_of_ble_eq_true rfl, Nat.le_of_ble_eq_true rfl⟩) hS hA hP hD rfl rfl (by decide) (by decide) rfl rfl (fun r3 u4 H locs hw5 hP hD hS => ?_)
  have hP : va_P D cls [(q 5, .inr (1, fHall (fun k => q (5 + k)))), (q 21, .inr (0, fBuyers (fun k => q (21 + k))))] H := hP
  have hD : va_D A [(q 5, .inr (1, fHall (fun k => q (5 + k)))), (q 21, .inr (0, fBuyers (fun k => q (21 + k))))] := hD
  subst hw5
  exact hc_ret Sx hr hlocks dd_X11_buyerOf_20 hS () rfl p_nil d_nil
set_option maxHeartbeats 4000000 in
set_option maxRecDepth 100000 in
theorem c_X_costs (l : Launch) (D : va_G) (cy : Nat → ClassId) (q : Nat → Nat) (th : Int32) (ho : Int32) : HC l my_X11_costs mb_X11_costs 3 ((some .int)) (rmD 3 0 0) D (TY cy) [.ref (q 0), .int th, .int ho] NX [(q 0, .inr (11, fX q)), (q 2, .inl (cy 0, 5, .inl (fun _ => 0))), (q 5, .inr (1, fHall (fun k => q (5 + k)))), (q 6, .inr (10, fThings (fun k => q (6 + k))))] (QI (S := Unit) D (fun r _ => r = (-2)) (fun _ => [])) := by
  refine hc_intro (by decide) (Nat.le_of_ble_eq_true rfl) (fun p e s m below meth c A ls Sx hr hlocks hin hl hP hD hK hS hA hX => ?_)
  have hx := Sx.1
  have hb := Sx.2.1
  have hl : lv_has ls 3 [(0, .ref (q 0)), (1, .int th), (2, .int ho)] := hl
  have hP : va_P D cls [(q 0, .inr (11, fX q)), (q 2, .inl (cy 0, 5, .inl (fun _ => 0))), (q 5, .inr (1, fHall (fun k => q (5 + k)))), (q 6, .inr (10, fThings (fun k => q (6 + k))))] s.heap := hP
  have hD : va_D A [(q 0, .inr (11, fX q)), (q 2, .inl (cy 0, 5, .inl (fun _ => 0))), (q 5, .inr (1, fHall (fun k => q (5 + k)))), (q 6, .inr (10, fThings (fun k => q (6 + k))))] := hD
  refine lv_aload_n hx hb dd_X11_costs_0 rfl (lv_at hl 0 rfl) ?_
  refine wk_get (v := .ref (q 5)) Sx ef_11 hK hP 0 rfl rfl 3 (by decide) kk_385 rfl dd_X11_costs_1 ?_
  refine wk_get (v := .ref (q 6)) Sx ef_1 hK hP 2 rfl rfl 0 (by decide) kk_260 rfl dd_X11_costs_4 ?_
  refine lv_iload_n hx hb dd_X11_costs_7 rfl (lv_at hl 1 rfl) ?_
  refine pk_i (pc_V [.int th] [] Sx hl.1 ws_X_117 md_X10_has (c_Things_has l D cy (fun k => q (6 + k)) th) ⟨rfl, rfl⟩ ⟨Nat.le_of_ble_eq_true rfl, Nat.le_of_ble_eq_true rfl⟩ (hP.sub [3] rfl) hK ns_b (ns_w hX) (va_recv hK hP (ci := 10) (q0 := 3) rfl rfl) rfl rfl (Nat.le_of_ble_eq_true rfl) dd_X11_costs_8 ⟨Nat.le_of_ble_eq_true rfl, Nat.le_of_ble_eq_true rfl⟩) (fun r1 hw2 => ?_)
  subst hw2
  refine lv_if_eq (tgt := 21) hx hb dd_X11_costs_11 (by decide) (fun _ => ?_) (fun c => absurd c (by decide))
  refine lv_aload_n hx hb dd_X11_costs_21 rfl (lv_at hl 0 rfl) ?_
  refine lv_bipush (v := (-2)) hx hb dd_X11_costs_22 (by decide) ?_
  refine hk_i (wr := [(q 5, .inr (1, fHall (fun k => q (5 + k)))), (q 6, .inr (10, fThings (fun k => q (6 + k))))]) (c1 := 0) (s1 := 0) [0, 1] [2, 3] (hc_V [.int (-2)] [] [0, 1] Sx hl.1 ws_X_63 md_X11_refuse (c_refuse_2 l D cy q) ⟨Nat.le_of_ble_eq_true rfl, Nat.le_of_ble_eq_true rfl⟩ hP hD rfl (by decide) hK nx_b (nx_w hX) (va_recv hK hP (ci := 11) (q0 := 0) rfl rfl) rfl rfl (Nat.le_of_ble_eq_true rfl) dd_X11_costs_24 ⟨Nat.le_of_ble_eq_true rfl, Nat.le_of_ble_eq_true rfl⟩) hS hA hP hD rfl rfl (by decide) (by decide) rfl rfl (fun r3 u4 H locs hw5 hP hD hS => ?_)
  have hP : va_P D cls [(q 5, .inr (1, fHall (fun k => q (5 + k)))), (q 6, .inr (10, fThings (fun k => q (6 + k))))] H := hP
  have hD : va_D A [(q 5, .inr (1, fHall (fun k => q (5 + k)))), (q 6, .inr (10, fThings (fun k => q (6 + k))))] := hD
  subst hw5
  exact hc_ret Sx hr hlocks dd_X11_costs_27 hS () rfl p_nil d_nil
set_option maxHeartbeats 4000000 in
set_option maxRecDepth 100000 in
theorem c_X_takes (l : Launch) (D : va_G) (cy : Nat → ClassId) (q : Nat → Nat) (bu : Int32) (ho : Int32) : HC l my_X11_takes mb_X11_takes 3 ((some .int)) (rmD 3 0 0) D (TY cy) [.ref (q 0), .int bu, .int ho] NX [(q 0, .inr (11, fX q)), (q 2, .inl (cy 0, 5, .inl (fun _ => 0))), (q 5, .inr (1, fHall (fun k => q (5 + k)))), (q 21, .inr (0, fBuyers (fun k => q (21 + k))))] (QI (S := Unit) D (fun r _ => r = (-2)) (fun _ => [])) := by
  refine hc_intro (by decide) (Nat.le_of_ble_eq_true rfl) (fun p e s m below meth c A ls Sx hr hlocks hin hl hP hD hK hS hA hX => ?_)
  have hx := Sx.1
  have hb := Sx.2.1
  have hl : lv_has ls 3 [(0, .ref (q 0)), (1, .int bu), (2, .int ho)] := hl
  have hP : va_P D cls [(q 0, .inr (11, fX q)), (q 2, .inl (cy 0, 5, .inl (fun _ => 0))), (q 5, .inr (1, fHall (fun k => q (5 + k)))), (q 21, .inr (0, fBuyers (fun k => q (21 + k))))] s.heap := hP
  have hD : va_D A [(q 0, .inr (11, fX q)), (q 2, .inl (cy 0, 5, .inl (fun _ => 0))), (q 5, .inr (1, fHall (fun k => q (5 + k)))), (q 21, .inr (0, fBuyers (fun k => q (21 + k))))] := hD
  refine lv_aload_n hx hb dd_X11_takes_0 rfl (lv_at hl 0 rfl) ?_
  refine wk_get (v := .ref (q 5)) Sx ef_11 hK hP 0 rfl rfl 3 (by decide) kk_385 rfl dd_X11_takes_1 ?_
  refine wk_get (v := .ref (q 21)) Sx ef_1 hK hP 2 rfl rfl 3 (by decide) kk_267 rfl dd_X11_takes_4 ?_
  refine lv_iload_n hx hb dd_X11_takes_7 rfl (lv_at hl 1 rfl) ?_
  refine pk_i (pc_V [.int bu] [] Sx hl.1 ws_X_229 md_X0_has (c_Buyers_has l D cy (fun k => q (21 + k)) bu) ⟨rfl, rfl⟩ ⟨Nat.le_of_ble_eq_true rfl, Nat.le_of_ble_eq_true rfl⟩ (hP.sub [3] rfl) hK ns_b (ns_w hX) (va_recv hK hP (ci := 0) (q0 := 3) rfl rfl) rfl rfl (Nat.le_of_ble_eq_true rfl) dd_X11_takes_8 ⟨Nat.le_of_ble_eq_true rfl, Nat.le_of_ble_eq_true rfl⟩) (fun r1 hw2 => ?_)
  subst hw2
  refine lv_if_eq (tgt := 21) hx hb dd_X11_takes_11 (by decide) (fun _ => ?_) (fun c => absurd c (by decide))
  refine lv_aload_n hx hb dd_X11_takes_21 rfl (lv_at hl 0 rfl) ?_
  refine lv_bipush (v := (-2)) hx hb dd_X11_takes_22 (by decide) ?_
  refine hk_i (wr := [(q 5, .inr (1, fHall (fun k => q (5 + k)))), (q 21, .inr (0, fBuyers (fun k => q (21 + k))))]) (c1 := 0) (s1 := 0) [0, 1] [2, 3] (hc_V [.int (-2)] [] [0, 1] Sx hl.1 ws_X_63 md_X11_refuse (c_refuse_2 l D cy q) ⟨Nat.le_of_ble_eq_true rfl, Nat.le_of_ble_eq_true rfl⟩ hP hD rfl (by decide) hK nx_b (nx_w hX) (va_recv hK hP (ci := 11) (q0 := 0) rfl rfl) rfl rfl (Nat.le_of_ble_eq_true rfl) dd_X11_takes_24 ⟨Nat.le_of_ble_eq_true rfl, Nat.le_of_ble_eq_true rfl⟩) hS hA hP hD rfl rfl (by decide) (by decide) rfl rfl (fun r3 u4 H locs hw5 hP hD hS => ?_)
  have hP : va_P D cls [(q 5, .inr (1, fHall (fun k => q (5 + k)))), (q 21, .inr (0, fBuyers (fun k => q (21 + k))))] H := hP
  have hD : va_D A [(q 5, .inr (1, fHall (fun k => q (5 + k)))), (q 21, .inr (0, fBuyers (fun k => q (21 + k))))] := hD
  subst hw5
  exact hc_ret Sx hr hlocks dd_X11_takes_27 hS () rfl p_nil d_nil
set_option maxHeartbeats 4000000 in
set_option maxRecDepth 100000 in
theorem c_X_loses (l : Launch) (D : va_G) (cy : Nat → ClassId) (q : Nat → Nat) (la : Int32) (ki : Int32) : HC l my_X11_loses mb_X11_loses 3 ((some .int)) (rmD 3 0 0) D (TY cy) [.ref (q 0), .int la, .int ki] NX [(q 0, .inr (11, fX q)), (q 2, .inl (cy 0, 5, .inl (fun _ => 0))), (q 5, .inr (1, fHall (fun k => q (5 + k)))), (q 14, .inr (2, fLadies (fun k => q (14 + k))))] (QI (S := Unit) D (fun r _ => r = (-2)) (fun _ => [])) := by
  refine hc_intro (by decide) (Nat.le_of_ble_eq_true rfl) (fun p e s m below meth c A ls Sx hr hlocks hin hl hP hD hK hS hA hX => ?_)
  have hx := Sx.1
  have hb := Sx.2.1
  have hl : lv_has ls 3 [(0, .ref (q 0)), (1, .int la), (2, .int ki)] := hl
  have hP : va_P D cls [(q 0, .inr (11, fX q)), (q 2, .inl (cy 0, 5, .inl (fun _ => 0))), (q 5, .inr (1, fHall (fun k => q (5 + k)))), (q 14, .inr (2, fLadies (fun k => q (14 + k))))] s.heap := hP
  have hD : va_D A [(q 0, .inr (11, fX q)), (q 2, .inl (cy 0, 5, .inl (fun _ => 0))), (q 5, .inr (1, fHall (fun k => q (5 + k)))), (q 14, .inr (2, fLadies (fun k => q (14 + k))))] := hD
  refine lv_aload_n hx hb dd_X11_loses_0 rfl (lv_at hl 0 rfl) ?_
  refine wk_get (v := .ref (q 5)) Sx ef_11 hK hP 0 rfl rfl 3 (by decide) kk_385 rfl dd_X11_loses_1 ?_
  refine wk_get (v := .ref (q 14)) Sx ef_1 hK hP 2 rfl rfl 1 (by decide) kk_262 rfl dd_X11_loses_4 ?_
  refine lv_iload_n hx hb dd_X11_loses_7 rfl (lv_at hl 1 rfl) ?_
  refine pk_i (pc_V [.int la] [] Sx hl.1 ws_X_177 md_X2_has (c_Ladies_has l D cy (fun k => q (14 + k)) la) ⟨rfl, rfl⟩ ⟨Nat.le_of_ble_eq_true rfl, Nat.le_of_ble_eq_true rfl⟩ (hP.sub [3] rfl) hK ns_b (ns_w hX) (va_recv hK hP (ci := 2) (q0 := 3) rfl rfl) rfl rfl (Nat.le_of_ble_eq_true rfl) dd_X11_loses_8 ⟨Nat.le_of_ble_eq_true rfl, Nat.le_of_ble_eq_true rfl⟩) (fun r1 hw2 => ?_)
  subst hw2
  refine lv_if_eq (tgt := 21) hx hb dd_X11_loses_11 (by decide) (fun _ => ?_) (fun c => absurd c (by decide))
  refine lv_aload_n hx hb dd_X11_loses_21 rfl (lv_at hl 0 rfl) ?_
  refine lv_bipush (v := (-2)) hx hb dd_X11_loses_22 (by decide) ?_
  refine hk_i (wr := [(q 5, .inr (1, fHall (fun k => q (5 + k)))), (q 14, .inr (2, fLadies (fun k => q (14 + k))))]) (c1 := 0) (s1 := 0) [0, 1] [2, 3] (hc_V [.int (-2)] [] [0, 1] Sx hl.1 ws_X_63 md_X11_refuse (c_refuse_2 l D cy q) ⟨Nat.le_of_ble_eq_true rfl, Nat.le_of_ble_eq_true rfl⟩ hP hD rfl (by decide) hK nx_b (nx_w hX) (va_recv hK hP (ci := 11) (q0 := 0) rfl rfl) rfl rfl (Nat.le_of_ble_eq_true rfl) dd_X11_loses_24 ⟨Nat.le_of_ble_eq_true rfl, Nat.le_of_ble_eq_true rfl⟩) hS hA hP hD rfl rfl (by decide) (by decide) rfl rfl (fun r3 u4 H locs hw5 hP hD hS => ?_)
  have hP : va_P D cls [(q 5, .inr (1, fHall (fun k => q (5 + k)))), (q 14, .inr (2, fLadies (fun k => q (14 + k))))] H := hP
  have hD : va_D A [(q 5, .inr (1, fHall (fun k => q (5 + k)))), (q 14, .inr (2, fLadies (fun k => q (14 + k))))] := hD
  subst hw5
  exact hc_ret Sx hr hlocks dd_X11_loses_27 hS () rfl p_nil d_nil
set_option maxHeartbeats 4000000 in
set_option maxRecDepth 100000 in
theorem c_X_same (l : Launch) (D : va_G) (cy : Nat → ClassId) (q : Nat → Nat) (sa : Int32) (sb : Int32) : HC l my_X11_same mb_X11_same 3 ((some .int)) (rmD 3 0 0) D (TY cy) [.ref (q 0), .int sa, .int sb] NX [(q 0, .inr (11, fX q)), (q 2, .inl (cy 0, 5, .inl (fun _ => 0))), (q 5, .inr (1, fHall (fun k => q (5 + k)))), (q 27, .inr (8, fSightings (fun k => q (27 + k))))] (QI (S := Unit) D (fun r _ => r = (-2)) (fun _ => [])) := by
  refine hc_intro (by decide) (Nat.le_of_ble_eq_true rfl) (fun p e s m below meth c A ls Sx hr hlocks hin hl hP hD hK hS hA hX => ?_)
  have hx := Sx.1
  have hb := Sx.2.1
  have hl : lv_has ls 3 [(0, .ref (q 0)), (1, .int sa), (2, .int sb)] := hl
  have hP : va_P D cls [(q 0, .inr (11, fX q)), (q 2, .inl (cy 0, 5, .inl (fun _ => 0))), (q 5, .inr (1, fHall (fun k => q (5 + k)))), (q 27, .inr (8, fSightings (fun k => q (27 + k))))] s.heap := hP
  have hD : va_D A [(q 0, .inr (11, fX q)), (q 2, .inl (cy 0, 5, .inl (fun _ => 0))), (q 5, .inr (1, fHall (fun k => q (5 + k)))), (q 27, .inr (8, fSightings (fun k => q (27 + k))))] := hD
  refine lv_aload_n hx hb dd_X11_same_0 rfl (lv_at hl 0 rfl) ?_
  refine wk_get (v := .ref (q 5)) Sx ef_11 hK hP 0 rfl rfl 3 (by decide) kk_385 rfl dd_X11_same_1 ?_
  refine wk_get (v := .ref (q 27)) Sx ef_1 hK hP 2 rfl rfl 4 (by decide) kk_269 rfl dd_X11_same_4 ?_
  refine lv_iload_n hx hb dd_X11_same_7 rfl (lv_at hl 1 rfl) ?_
  refine pk_i (pc_V [.int sa] [] Sx hl.1 ws_X_329 md_X8_has (c_Sightings_has l D cy (fun k => q (27 + k)) sa) ⟨rfl, rfl⟩ ⟨Nat.le_of_ble_eq_true rfl, Nat.le_of_ble_eq_true rfl⟩ (hP.sub [3] rfl) hK ns_b (ns_w hX) (va_recv hK hP (ci := 8) (q0 := 3) rfl rfl) rfl rfl (Nat.le_of_ble_eq_true rfl) dd_X11_same_8 ⟨Nat.le_of_ble_eq_true rfl, Nat.le_of_ble_eq_true rfl⟩) (fun r1 hw2 => ?_)
  subst hw2
  refine lv_if_eq (tgt := 28) hx hb dd_X11_same_11 (by decide) (fun _ => ?_) (fun c => absurd c (by decide))
  refine lv_aload_n hx hb dd_X11_same_28 rfl (lv_at hl 0 rfl) ?_
  refine lv_bipush (v := (-2)) hx hb dd_X11_same_29 (by decide) ?_
  refine hk_i (wr := [(q 5, .inr (1, fHall (fun k => q (5 + k)))), (q 27, .inr (8, fSightings (fun k => q (27 + k))))]) (c1 := 0) (s1 := 0) [0, 1] [2, 3] (hc_V [.int (-2)] [] [0, 1] Sx hl.1 ws_X_63 md_X11_refuse (c_refuse_2 l D cy q) ⟨Nat.le_of_ble_eq_true rfl, Nat.le_of_ble_eq_true rfl⟩ hP hD rfl (by decide) hK nx_b (nx_w hX) (va_recv hK hP (ci := 11) (q0 := 0) rfl rfl) rfl rfl (Nat.le_of_ble_eq_true rfl) dd_X11_same_31 ⟨Nat.le_of_ble_eq_true rfl, Nat.le_of_ble_eq_true rfl⟩) hS hA hP hD rfl rfl (by decide) (by decide) rfl rfl (fun r3 u4 H locs hw5 hP hD hS => ?_)
  have hP : va_P D cls [(q 5, .inr (1, fHall (fun k => q (5 + k)))), (q 27, .inr (8, fSightings (fun k => q (27 + k))))] H := hP
  have hD : va_D A [(q 5, .inr (1, fHall (fun k => q (5 + k)))), (q 27, .inr (8, fSightings (fun k => q (27 + k))))] := hD
  subst hw5
  exact hc_ret Sx hr hlocks dd_X11_same_34 hS () rfl p_nil d_nil
set_option maxHeartbeats 4000000 in
set_option maxRecDepth 100000 in
theorem c_X_secret (l : Launch) (D : va_G) (cy : Nat → ClassId) (q : Nat → Nat) (th : Int32) (pe : Int32) : HC l my_X11_secret mb_X11_secret 3 ((some .int)) (rmD 3 0 0) D (TY cy) [.ref (q 0), .int th, .int pe] NX [(q 0, .inr (11, fX q)), (q 2, .inl (cy 0, 5, .inl (fun _ => 0))), (q 5, .inr (1, fHall (fun k => q (5 + k)))), (q 6, .inr (10, fThings (fun k => q (6 + k))))] (QI (S := Unit) D (fun r _ => r = (-2)) (fun _ => [])) := by
  refine hc_intro (by decide) (Nat.le_of_ble_eq_true rfl) (fun p e s m below meth c A ls Sx hr hlocks hin hl hP hD hK hS hA hX => ?_)
  have hx := Sx.1
  have hb := Sx.2.1
  have hl : lv_has ls 3 [(0, .ref (q 0)), (1, .int th), (2, .int pe)] := hl
  have hP : va_P D cls [(q 0, .inr (11, fX q)), (q 2, .inl (cy 0, 5, .inl (fun _ => 0))), (q 5, .inr (1, fHall (fun k => q (5 + k)))), (q 6, .inr (10, fThings (fun k => q (6 + k))))] s.heap := hP
  have hD : va_D A [(q 0, .inr (11, fX q)), (q 2, .inl (cy 0, 5, .inl (fun _ => 0))), (q 5, .inr (1, fHall (fun k => q (5 + k)))), (q 6, .inr (10, fThings (fun k => q (6 + k))))] := hD
  refine lv_aload_n hx hb dd_X11_secret_0 rfl (lv_at hl 0 rfl) ?_
  refine wk_get (v := .ref (q 5)) Sx ef_11 hK hP 0 rfl rfl 3 (by decide) kk_385 rfl dd_X11_secret_1 ?_
  refine wk_get (v := .ref (q 6)) Sx ef_1 hK hP 2 rfl rfl 0 (by decide) kk_260 rfl dd_X11_secret_4 ?_
  refine lv_iload_n hx hb dd_X11_secret_7 rfl (lv_at hl 1 rfl) ?_
  refine pk_i (pc_V [.int th] [] Sx hl.1 ws_X_117 md_X10_has (c_Things_has l D cy (fun k => q (6 + k)) th) ⟨rfl, rfl⟩ ⟨Nat.le_of_ble_eq_true rfl, Nat.le_of_ble_eq_true rfl⟩ (hP.sub [3] rfl) hK ns_b (ns_w hX) (va_recv hK hP (ci := 10) (q0 := 3) rfl rfl) rfl rfl (Nat.le_of_ble_eq_true rfl) dd_X11_secret_8 ⟨Nat.le_of_ble_eq_true rfl, Nat.le_of_ble_eq_true rfl⟩) (fun r1 hw2 => ?_)
  subst hw2
  refine lv_if_eq (tgt := 21) hx hb dd_X11_secret_11 (by decide) (fun _ => ?_) (fun c => absurd c (by decide))
  refine lv_aload_n hx hb dd_X11_secret_21 rfl (lv_at hl 0 rfl) ?_
  refine lv_bipush (v := (-2)) hx hb dd_X11_secret_22 (by decide) ?_
  refine hk_i (wr := [(q 5, .inr (1, fHall (fun k => q (5 + k)))), (q 6, .inr (10, fThings (fun k => q (6 + k))))]) (c1 := 0) (s1 := 0) [0, 1] [2, 3] (hc_V [.int (-2)] [] [0, 1] Sx hl.1 ws_X_63 md_X11_refuse (c_refuse_2 l D cy q) ⟨Nat.le_of_ble_eq_true rfl, Nat.le_of_ble_eq_true rfl⟩ hP hD rfl (by decide) hK nx_b (nx_w hX) (va_recv hK hP (ci := 11) (q0 := 0) rfl rfl) rfl rfl (Nat.le_of_ble_eq_true rfl) dd_X11_secret_24 ⟨Nat.le_of_ble_eq_true rfl, Nat.le_of_ble_eq_true rfl⟩) hS hA hP hD rfl rfl (by decide) (by decide) rfl rfl (fun r3 u4 H locs hw5 hP hD hS => ?_)
  have hP : va_P D cls [(q 5, .inr (1, fHall (fun k => q (5 + k)))), (q 6, .inr (10, fThings (fun k => q (6 + k))))] H := hP
  have hD : va_D A [(q 5, .inr (1, fHall (fun k => q (5 + k)))), (q 6, .inr (10, fThings (fun k => q (6 + k))))] := hD
  subst hw5
  exact hc_ret Sx hr hlocks dd_X11_secret_27 hS () rfl p_nil d_nil
set_option maxHeartbeats 4000000 in
set_option maxRecDepth 100000 in
theorem c_X_laid (l : Launch) (D : va_G) (cy : Nat → ClassId) (q : Nat → Nat) (ro : Int32) (th : Int32) : HC l my_X11_laid mb_X11_laid 3 ((some .int)) (rmD 3 0 0) D (TY cy) [.ref (q 0), .int ro, .int th] NX [(q 0, .inr (11, fX q)), (q 2, .inl (cy 0, 5, .inl (fun _ => 0))), (q 5, .inr (1, fHall (fun k => q (5 + k)))), (q 6, .inr (10, fThings (fun k => q (6 + k))))] (QI (S := Unit) D (fun r _ => r = (-2)) (fun _ => [])) := by
  refine hc_intro (by decide) (Nat.le_of_ble_eq_true rfl) (fun p e s m below meth c A ls Sx hr hlocks hin hl hP hD hK hS hA hX => ?_)
  have hx := Sx.1
  have hb := Sx.2.1
  have hl : lv_has ls 3 [(0, .ref (q 0)), (1, .int ro), (2, .int th)] := hl
  have hP : va_P D cls [(q 0, .inr (11, fX q)), (q 2, .inl (cy 0, 5, .inl (fun _ => 0))), (q 5, .inr (1, fHall (fun k => q (5 + k)))), (q 6, .inr (10, fThings (fun k => q (6 + k))))] s.heap := hP
  have hD : va_D A [(q 0, .inr (11, fX q)), (q 2, .inl (cy 0, 5, .inl (fun _ => 0))), (q 5, .inr (1, fHall (fun k => q (5 + k)))), (q 6, .inr (10, fThings (fun k => q (6 + k))))] := hD
  refine lv_iload_n hx hb dd_X11_laid_0 rfl (lv_at hl 1 rfl) ?_
  refine lv_iconst (v := 1) hx hb dd_X11_laid_1 (by decide) ?_
  refine lv_bipush (v := 10) hx hb dd_X11_laid_2 (by decide) ?_
  refine pk_i (pc_T [.int ro, .int 1, .int 10] [] Sx hl.1 ws_X_59 md_X11_within (c_within l D cy ro 1 10) ⟨rfl, rfl⟩ ⟨Nat.le_of_ble_eq_true rfl, Nat.le_of_ble_eq_true rfl⟩ p_nil hK ns_b (ns_w hX) rfl rfl (Nat.le_of_ble_eq_true rfl) dd_X11_laid_4 ⟨Nat.le_of_ble_eq_true rfl, Nat.le_of_ble_eq_true rfl⟩) (fun r1 hw2 => ?_)
  rcases hw2 with ⟨hw2, ehw2⟩ | ⟨hw2, ehw2⟩
  · have hl3 : Int32.toInt 1 = 1 := rfl
    have hl4 : Int32.toInt 10 = 10 := rfl
    subst ehw2
    refine lv_if_eq (tgt := 24) hx hb dd_X11_laid_7 (by decide) (fun c => absurd c (by decide)) (fun _ => ?_)
    refine lv_aload_n hx hb dd_X11_laid_10 rfl (lv_at hl 0 rfl) ?_
    refine wk_get (v := .ref (q 5)) Sx ef_11 hK hP 0 rfl rfl 3 (by decide) kk_385 rfl dd_X11_laid_11 ?_
    refine wk_get (v := .ref (q 6)) Sx ef_1 hK hP 2 rfl rfl 0 (by decide) kk_260 rfl dd_X11_laid_14 ?_
    refine lv_iload_n hx hb dd_X11_laid_17 rfl (lv_at hl 2 rfl) ?_
    refine pk_i (pc_V [.int th] [] Sx hl.1 ws_X_117 md_X10_has (c_Things_has l D cy (fun k => q (6 + k)) th) ⟨rfl, rfl⟩ ⟨Nat.le_of_ble_eq_true rfl, Nat.le_of_ble_eq_true rfl⟩ (hP.sub [3] rfl) hK ns_b (ns_w hX) (va_recv hK hP (ci := 10) (q0 := 3) rfl rfl) rfl rfl (Nat.le_of_ble_eq_true rfl) dd_X11_laid_18 ⟨Nat.le_of_ble_eq_true rfl, Nat.le_of_ble_eq_true rfl⟩) (fun r5 hw6 => ?_)
    subst hw6
    refine lv_if_ne (tgt := 31) hx hb dd_X11_laid_21 (by decide) (fun c => absurd c (by decide)) (fun _ => ?_)
    refine lv_aload_n hx hb dd_X11_laid_24 rfl (lv_at hl 0 rfl) ?_
    refine lv_bipush (v := (-2)) hx hb dd_X11_laid_25 (by decide) ?_
    refine hk_i (wr := [(q 5, .inr (1, fHall (fun k => q (5 + k)))), (q 6, .inr (10, fThings (fun k => q (6 + k))))]) (c1 := 0) (s1 := 0) [0, 1] [2, 3] (hc_V [.int (-2)] [] [0, 1] Sx hl.1 ws_X_63 md_X11_refuse (c_refuse_2 l D cy q) ⟨Nat.le_of_ble_eq_true rfl, Nat.le_of_ble_eq_true rfl⟩ hP hD rfl (by decide) hK nx_b (nx_w hX) (va_recv hK hP (ci := 11) (q0 := 0) rfl rfl) rfl rfl (Nat.le_of_ble_eq_true rfl) dd_X11_laid_27 ⟨Nat.le_of_ble_eq_true rfl, Nat.le_of_ble_eq_true rfl⟩) hS hA hP hD rfl rfl (by decide) (by decide) rfl rfl (fun r7 u8 H locs hw9 hP hD hS => ?_)
    have hP : va_P D cls [(q 5, .inr (1, fHall (fun k => q (5 + k)))), (q 6, .inr (10, fThings (fun k => q (6 + k))))] H := hP
    have hD : va_D A [(q 5, .inr (1, fHall (fun k => q (5 + k)))), (q 6, .inr (10, fThings (fun k => q (6 + k))))] := hD
    subst hw9
    exact hc_ret Sx hr hlocks dd_X11_laid_30 hS () rfl p_nil d_nil
  · have hl10 : Int32.toInt 1 = 1 := rfl
    have hl11 : Int32.toInt 10 = 10 := rfl
    subst ehw2
    refine lv_if_eq (tgt := 24) hx hb dd_X11_laid_7 (by decide) (fun _ => ?_) (fun c => absurd c (by decide))
    refine lv_aload_n hx hb dd_X11_laid_24 rfl (lv_at hl 0 rfl) ?_
    refine lv_bipush (v := (-2)) hx hb dd_X11_laid_25 (by decide) ?_
    refine hk_i (wr := [(q 5, .inr (1, fHall (fun k => q (5 + k)))), (q 6, .inr (10, fThings (fun k => q (6 + k))))]) (c1 := 0) (s1 := 0) [0, 1] [2, 3] (hc_V [.int (-2)] [] [0, 1] Sx hl.1 ws_X_63 md_X11_refuse (c_refuse_2 l D cy q) ⟨Nat.le_of_ble_eq_true rfl, Nat.le_of_ble_eq_true rfl⟩ hP hD rfl (by decide) hK nx_b (nx_w hX) (va_recv hK hP (ci := 11) (q0 := 0) rfl rfl) rfl rfl (Nat.le_of_ble_eq_true rfl) dd_X11_laid_27 ⟨Nat.le_of_ble_eq_true rfl, Nat.le_of_ble_eq_true rfl⟩) hS hA hP hD rfl rfl (by decide) (by decide) rfl rfl (fun r12 u13 H locs hw14 hP hD hS => ?_)
    have hP : va_P D cls [(q 5, .inr (1, fHall (fun k => q (5 + k)))), (q 6, .inr (10, fThings (fun k => q (6 + k))))] H := hP
    have hD : va_D A [(q 5, .inr (1, fHall (fun k => q (5 + k)))), (q 6, .inr (10, fThings (fun k => q (6 + k))))] := hD
    subst hw14
    exact hc_ret Sx hr hlocks dd_X11_laid_30 hS () rfl p_nil d_nil
set_option maxHeartbeats 4000000 in
set_option maxRecDepth 100000 in
theorem c_X_hall (l : Launch) (D : va_G) (cy : Nat → ClassId) (q : Nat → Nat) (fi : Int32) (th : Int32) : HC l my_X11_hall mb_X11_hall 3 ((some .int)) (rmD 3 0 0) D (TY cy) [.ref (q 0), .int fi, .int th] NX [(q 0, .inr (11, fX q)), (q 2, .inl (cy 0, 5, .inl (fun _ => 0))), (q 5, .inr (1, fHall (fun k => q (5 + k)))), (q 6, .inr (10, fThings (fun k => q (6 + k))))] (QI (S := Unit) D (fun r _ => r = (-2)) (fun _ => [])) := by
  refine hc_intro (by decide) (Nat.le_of_ble_eq_true rfl) (fun p e s m below meth c A ls Sx hr hlocks hin hl hP hD hK hS hA hX => ?_)
  have hx := Sx.1
  have hb := Sx.2.1
  have hl : lv_has ls 3 [(0, .ref (q 0)), (1, .int fi), (2, .int th)] := hl
  have hP : va_P D cls [(q 0, .inr (11, fX q)), (q 2, .inl (cy 0, 5, .inl (fun _ => 0))), (q 5, .inr (1, fHall (fun k => q (5 + k)))), (q 6, .inr (10, fThings (fun k => q (6 + k))))] s.heap := hP
  have hD : va_D A [(q 0, .inr (11, fX q)), (q 2, .inl (cy 0, 5, .inl (fun _ => 0))), (q 5, .inr (1, fHall (fun k => q (5 + k)))), (q 6, .inr (10, fThings (fun k => q (6 + k))))] := hD
  refine lv_iload_n hx hb dd_X11_hall_0 rfl (lv_at hl 1 rfl) ?_
  refine lv_iconst (v := 0) hx hb dd_X11_hall_1 (by decide) ?_
  refine lv_iconst (v := 2) hx hb dd_X11_hall_2 (by decide) ?_
  refine pk_i (pc_T [.int fi, .int 0, .int 2] [] Sx hl.1 ws_X_59 md_X11_within (c_within l D cy fi 0 2) ⟨rfl, rfl⟩ ⟨Nat.le_of_ble_eq_true rfl, Nat.le_of_ble_eq_true rfl⟩ p_nil hK ns_b (ns_w hX) rfl rfl (Nat.le_of_ble_eq_true rfl) dd_X11_hall_3 ⟨Nat.le_of_ble_eq_true rfl, Nat.le_of_ble_eq_true rfl⟩) (fun r1 hw2 => ?_)
  rcases hw2 with ⟨hw2, ehw2⟩ | ⟨hw2, ehw2⟩
  · have hl3 : Int32.toInt 0 = 0 := rfl
    have hl4 : Int32.toInt 2 = 2 := rfl
    subst ehw2
    refine lv_if_eq (tgt := 23) hx hb dd_X11_hall_6 (by decide) (fun c => absurd c (by decide)) (fun _ => ?_)
    refine lv_aload_n hx hb dd_X11_hall_9 rfl (lv_at hl 0 rfl) ?_
    refine wk_get (v := .ref (q 5)) Sx ef_11 hK hP 0 rfl rfl 3 (by decide) kk_385 rfl dd_X11_hall_10 ?_
    refine wk_get (v := .ref (q 6)) Sx ef_1 hK hP 2 rfl rfl 0 (by decide) kk_260 rfl dd_X11_hall_13 ?_
    refine lv_iload_n hx hb dd_X11_hall_16 rfl (lv_at hl 2 rfl) ?_
    refine pk_i (pc_V [.int th] [] Sx hl.1 ws_X_117 md_X10_has (c_Things_has l D cy (fun k => q (6 + k)) th) ⟨rfl, rfl⟩ ⟨Nat.le_of_ble_eq_true rfl, Nat.le_of_ble_eq_true rfl⟩ (hP.sub [3] rfl) hK ns_b (ns_w hX) (va_recv hK hP (ci := 10) (q0 := 3) rfl rfl) rfl rfl (Nat.le_of_ble_eq_true rfl) dd_X11_hall_17 ⟨Nat.le_of_ble_eq_true rfl, Nat.le_of_ble_eq_true rfl⟩) (fun r5 hw6 => ?_)
    subst hw6
    refine lv_if_ne (tgt := 30) hx hb dd_X11_hall_20 (by decide) (fun c => absurd c (by decide)) (fun _ => ?_)
    refine lv_aload_n hx hb dd_X11_hall_23 rfl (lv_at hl 0 rfl) ?_
    refine lv_bipush (v := (-2)) hx hb dd_X11_hall_24 (by decide) ?_
    refine hk_i (wr := [(q 5, .inr (1, fHall (fun k => q (5 + k)))), (q 6, .inr (10, fThings (fun k => q (6 + k))))]) (c1 := 0) (s1 := 0) [0, 1] [2, 3] (hc_V [.int (-2)] [] [0, 1] Sx hl.1 ws_X_63 md_X11_refuse (c_refuse_2 l D cy q) ⟨Nat.le_of_ble_eq_true rfl, Nat.le_of_ble_eq_true rfl⟩ hP hD rfl (by decide) hK nx_b (nx_w hX) (va_recv hK hP (ci := 11) (q0 := 0) rfl rfl) rfl rfl (Nat.le_of_ble_eq_true rfl) dd_X11_hall_26 ⟨Nat.le_of_ble_eq_true rfl, Nat.le_of_ble_eq_true rfl⟩) hS hA hP hD rfl rfl (by decide) (by decide) rfl rfl (fun r7 u8 H locs hw9 hP hD hS => ?_)
    have hP : va_P D cls [(q 5, .inr (1, fHall (fun k => q (5 + k)))), (q 6, .inr (10, fThings (fun k => q (6 + k))))] H := hP
    have hD : va_D A [(q 5, .inr (1, fHall (fun k => q (5 + k)))), (q 6, .inr (10, fThings (fun k => q (6 + k))))] := hD
    subst hw9
    exact hc_ret Sx hr hlocks dd_X11_hall_29 hS () rfl p_nil d_nil
  · have hl10 : Int32.toInt 0 = 0 := rfl
    have hl11 : Int32.toInt 2 = 2 := rfl
    subst ehw2
    refine lv_if_eq (tgt := 23) hx hb dd_X11_hall_6 (by decide) (fun _ => ?_) (fun c => absurd c (by decide))
    refine lv_aload_n hx hb dd_X11_hall_23 rfl (lv_at hl 0 rfl) ?_
    refine lv_bipush (v := (-2)) hx hb dd_X11_hall_24 (by decide) ?_
    refine hk_i (wr := [(q 5, .inr (1, fHall (fun k => q (5 + k)))), (q 6, .inr (10, fThings (fun k => q (6 + k))))]) (c1 := 0) (s1 := 0) [0, 1] [2, 3] (hc_V [.int (-2)] [] [0, 1] Sx hl.1 ws_X_63 md_X11_refuse (c_refuse_2 l D cy q) ⟨Nat.le_of_ble_eq_true rfl, Nat.le_of_ble_eq_true rfl⟩ hP hD rfl (by decide) hK nx_b (nx_w hX) (va_recv hK hP (ci := 11) (q0 := 0) rfl rfl) rfl rfl (Nat.le_of_ble_eq_true rfl) dd_X11_hall_26 ⟨Nat.le_of_ble_eq_true rfl, Nat.le_of_ble_eq_true rfl⟩) hS hA hP hD rfl rfl (by decide) (by decide) rfl rfl (fun r12 u13 H locs hw14 hP hD hS => ?_)
    have hP : va_P D cls [(q 5, .inr (1, fHall (fun k => q (5 + k)))), (q 6, .inr (10, fThings (fun k => q (6 + k))))] H := hP
    have hD : va_D A [(q 5, .inr (1, fHall (fun k => q (5 + k)))), (q 6, .inr (10, fThings (fun k => q (6 + k))))] := hD
    subst hw14
    exact hc_ret Sx hr hlocks dd_X11_hall_29 hS () rfl p_nil d_nil
set_option maxHeartbeats 4000000 in
set_option maxRecDepth 100000 in
theorem c_X_lady (l : Launch) (D : va_G) (cy : Nat → ClassId) (q : Nat → Nat) (kn : Int32) (gu : Int32) : HC l my_X11_lady mb_X11_lady 3 ((some .int)) (rmD 3 0 0) D (TY cy) [.ref (q 0), .int kn, .int gu] NX [(q 0, .inr (11, fX q)), (q 2, .inl (cy 0, 5, .inl (fun _ => 0))), (q 5, .inr (1, fHall (fun k => q (5 + k)))), (q 14, .inr (2, fLadies (fun k => q (14 + k)))), (q 15, .inl (cy 0, 5, .inl (fun _ => 0))), (q 16, .inl (cy 0, 5, .inl (fun _ => 0))), (q 17, .inl (cy 0, 5, .inl (fun _ => 0)))] (QI (S := Unit) D (fun r _ => if2 (0 ≤ kn.toInt ∧ kn.toInt ≤ 63 ∧ 0 ≤ gu.toInt ∧ gu.toInt ≤ 999) 0 (-2) r) (fun _ => [])) := by
  refine hc_intro (by decide) (Nat.le_of_ble_eq_true rfl) (fun p e s m below meth c A ls Sx hr hlocks hin hl hP hD hK hS hA hX => ?_)
  have hx := Sx.1
  have hb := Sx.2.1
  have hl : lv_has ls 3 [(0, .ref (q 0)), (1, .int kn), (2, .int gu)] := hl
  have hP : va_P D cls [(q 0, .inr (11, fX q)), (q 2, .inl (cy 0, 5, .inl (fun _ => 0))), (q 5, .inr (1, fHall (fun k => q (5 + k)))), (q 14, .inr (2, fLadies (fun k => q (14 + k)))), (q 15, .inl (cy 0, 5, .inl (fun _ => 0))), (q 16, .inl (cy 0, 5, .inl (fun _ => 0))), (q 17, .inl (cy 0, 5, .inl (fun _ => 0)))] s.heap := hP
  have hD : va_D A [(q 0, .inr (11, fX q)), (q 2, .inl (cy 0, 5, .inl (fun _ => 0))), (q 5, .inr (1, fHall (fun k => q (5 + k)))), (q 14, .inr (2, fLadies (fun k => q (14 + k)))), (q 15, .inl (cy 0, 5, .inl (fun _ => 0))), (q 16, .inl (cy 0, 5, .inl (fun _ => 0))), (q 17, .inl (cy 0, 5, .inl (fun _ => 0)))] := hD
  refine lv_iload_n hx hb dd_X11_lady_0 rfl (lv_at hl 1 rfl) ?_
  refine pk_i (pc_T [.int kn] [] Sx hl.1 ws_X_165 md_X11_isKinds (c_isKinds l D cy kn) ⟨rfl, rfl⟩ ⟨Nat.le_of_ble_eq_true rfl, Nat.le_of_ble_eq_true rfl⟩ p_nil hK ns_b (ns_w hX) rfl rfl (Nat.le_of_ble_eq_true rfl) dd_X11_lady_1 ⟨Nat.le_of_ble_eq_true rfl, Nat.le_of_ble_eq_true rfl⟩) (fun r1 hw2 => ?_)
  rcases hw2 with ⟨hw2, ehw2⟩ | ⟨hw2, ehw2⟩
  · subst ehw2
    refine lv_if_eq (tgt := 18) hx hb dd_X11_lady_4 (by decide) (fun c => absurd c (by decide)) (fun _ => ?_)
    refine lv_iload_n hx hb dd_X11_lady_7 rfl (lv_at hl 2 rfl) ?_
    refine lv_iconst (v := 0) hx hb dd_X11_lady_8 (by decide) ?_
    refine lv_sipush (v := 999) hx hb dd_X11_lady_9 (by decide) ?_
    refine pk_i (pc_T [.int gu, .int 0, .int 999] [] Sx hl.1 ws_X_59 md_X11_within (c_within l D cy gu 0 999) ⟨rfl, rfl⟩ ⟨Nat.le_of_ble_eq_true rfl, Nat.le_of_ble_eq_true rfl⟩ p_nil hK ns_b (ns_w hX) rfl rfl (Nat.le_of_ble_eq_true rfl) dd_X11_lady_12 ⟨Nat.le_of_ble_eq_true rfl, Nat.le_of_ble_eq_true rfl⟩) (fun r3 hw4 => ?_)
    rcases hw4 with ⟨hw4, ehw4⟩ | ⟨hw4, ehw4⟩
    · have hl5 : Int32.toInt 0 = 0 := rfl
      have hl6 : Int32.toInt 999 = 999 := rfl
      subst ehw4
      refine lv_if_ne (tgt := 25) hx hb dd_X11_lady_15 (by decide) (fun _ => ?_) (fun c => absurd c (by decide))
      refine lv_aload_n hx hb dd_X11_lady_25 rfl (lv_at hl 0 rfl) ?_
      refine wk_get (v := .ref (q 5)) Sx ef_11 hK hP 0 rfl rfl 3 (by decide) kk_385 rfl dd_X11_lady_26 ?_
      refine wk_get (v := .ref (q 14)) Sx ef_1 hK hP 2 rfl rfl 1 (by decide) kk_262 rfl dd_X11_lady_29 ?_
      refine wk_get (v := .int 0) Sx ef_2 hK hP 3 rfl rfl 3 (by decide) kk_125 rfl dd_X11_lady_32 ?_
      refine lv_iconst (v := 5) hx hb dd_X11_lady_35 (by decide) ?_
      refine lv_icmp_lt (tgt := 46) hx hb dd_X11_lady_36 (by decide) (fun _ => ?_) (fun c => absurd c (by decide))
      refine lv_aload_n hx hb dd_X11_lady_46 rfl (lv_at hl 0 rfl) ?_
      refine wk_get (v := .ref (q 5)) Sx ef_11 hK hP 0 rfl rfl 3 (by decide) kk_385 rfl dd_X11_lady_47 ?_
      refine wk_get (v := .ref (q 14)) Sx ef_1 hK hP 2 rfl rfl 1 (by decide) kk_262 rfl dd_X11_lady_50 ?_
      refine lv_iload_n hx hb dd_X11_lady_53 rfl (lv_at hl 1 rfl) ?_
      refine lv_iload_n hx hb dd_X11_lady_54 rfl (lv_at hl 2 rfl) ?_
      refine hk_i (wr := [(q 0, .inr (11, fX q)), (q 2, .inl (cy 0, 5, .inl (fun _ => 0))), (q 5, .inr (1, fHall (fun k => q (5 + k))))]) (c1 := 0) (s1 := 0) [3, 4, 5, 6] [0, 1, 2] (hc_V [.int kn, .int gu] [] [3, 4, 5, 6] Sx hl.1 ws_X_175 md_X2_add (c_Ladies_add l D cy (fun k => q (14 + k)) kn gu) ⟨Nat.le_of_ble_eq_true rfl, Nat.le_of_ble_eq_true rfl⟩ hP hD rfl (by decide) hK nx_b (nx_w hX) (va_recv hK hP (ci := 2) (q0 := 3) rfl rfl) rfl rfl (Nat.le_of_ble_eq_true rfl) dd_X11_lady_55 ⟨Nat.le_of_ble_eq_true rfl, Nat.le_of_ble_eq_true rfl⟩) hS hA hP hD rfl rfl (by decide) (by decide) rfl rfl (fun r7 u8 H locs hw9 hP hD hS => ?_)
      have hP : va_P D cls [(q 0, .inr (11, fX q)), (q 2, .inl (cy 0, 5, .inl (fun _ => 0))), (q 5, .inr (1, fHall (fun k => q (5 + k))))] H := hP
      have hD : va_D A [(q 0, .inr (11, fX q)), (q 2, .inl (cy 0, 5, .inl (fun _ => 0))), (q 5, .inr (1, fHall (fun k => q (5 + k))))] := hD
      subst hw9
      exact hc_ret Sx hr hlocks dd_X11_lady_58 hS () (Or.inl ⟨by omega, rfl⟩) p_nil d_nil
    · have hl10 : Int32.toInt 0 = 0 := rfl
      have hl11 : Int32.toInt 999 = 999 := rfl
      subst ehw4
      refine lv_if_ne (tgt := 25) hx hb dd_X11_lady_15 (by decide) (fun c => absurd c (by decide)) (fun _ => ?_)
      refine lv_aload_n hx hb dd_X11_lady_18 rfl (lv_at hl 0 rfl) ?_
      refine lv_bipush (v := (-2)) hx hb dd_X11_lady_19 (by decide) ?_
      refine hk_i (wr := [(q 5, .inr (1, fHall (fun k => q (5 + k)))), (q 14, .inr (2, fLadies (fun k => q (14 + k)))), (q 15, .inl (cy 0, 5, .inl (fun _ => 0))), (q 16, .inl (cy 0, 5, .inl (fun _ => 0))), (q 17, .inl (cy 0, 5, .inl (fun _ => 0)))]) (c1 := 0) (s1 := 0) [0, 1] [2, 3, 4, 5, 6] (hc_V [.int (-2)] [] [0, 1] Sx hl.1 ws_X_63 md_X11_refuse (c_refuse_2 l D cy q) ⟨Nat.le_of_ble_eq_true rfl, Nat.le_of_ble_eq_true rfl⟩ hP hD rfl (by decide) hK nx_b (nx_w hX) (va_recv hK hP (ci := 11) (q0 := 0) rfl rfl) rfl rfl (Nat.le_of_ble_eq_true rfl) dd_X11_lady_21 ⟨Nat.le_of_ble_eq_true rfl, Nat.le_of_ble_eq_true rfl⟩) hS hA hP hD rfl rfl (by decide) (by decide) rfl rfl (fun r12 u13 H locs hw14 hP hD hS => ?_)
      have hP : va_P D cls [(q 5, .inr (1, fHall (fun k => q (5 + k)))), (q 14, .inr (2, fLadies (fun k => q (14 + k)))), (q 15, .inl (cy 0, 5, .inl (fun _ => 0))), (q 16, .inl (cy 0, 5, .inl (fun _ => 0))), (q 17, .inl (cy 0, 5, .inl (fun _ => 0)))] H := hP
      have hD : va_D A [(q 5, .inr (1, fHall (fun k => q (5 + k)))), (q 14, .inr (2, fLadies (fun k => q (14 + k)))), (q 15, .inl (cy 0, 5, .inl (fun _ => 0))), (q 16, .inl (cy 0, 5, .inl (fun _ => 0))), (q 17, .inl (cy 0, 5, .inl (fun _ => 0)))] := hD
      subst hw14
      exact hc_ret Sx hr hlocks dd_X11_lady_24 hS () (Or.inr ⟨by omega, rfl⟩) p_nil d_nil
  · subst ehw2
    refine lv_if_eq (tgt := 18) hx hb dd_X11_lady_4 (by decide) (fun _ => ?_) (fun c => absurd c (by decide))
    refine lv_aload_n hx hb dd_X11_lady_18 rfl (lv_at hl 0 rfl) ?_
    refine lv_bipush (v := (-2)) hx hb dd_X11_lady_19 (by decide) ?_
    refine hk_i (wr := [(q 5, .inr (1, fHall (fun k => q (5 + k)))), (q 14, .inr (2, fLadies (fun k => q (14 + k)))), (q 15, .inl (cy 0, 5, .inl (fun _ => 0))), (q 16, .inl (cy 0, 5, .inl (fun _ => 0))), (q 17, .inl (cy 0, 5, .inl (fun _ => 0)))]) (c1 := 0) (s1 := 0) [0, 1] [2, 3, 4, 5, 6] (hc_V [.int (-2)] [] [0, 1] Sx hl.1 ws_X_63 md_X11_refuse (c_refuse_2 l D cy q) ⟨Nat.le_of_ble_eq_true rfl, Nat.le_of_ble_eq_true rfl⟩ hP hD rfl (by decide) hK nx_b (nx_w hX) (va_recv hK hP (ci := 11) (q0 := 0) rfl rfl) rfl rfl (Nat.le_of_ble_eq_true rfl) dd_X11_lady_21 ⟨Nat.le_of_ble_eq_true rfl, Nat.le_of_ble_eq_true rfl⟩) hS hA hP hD rfl rfl (by decide) (by decide) rfl rfl (fun r15 u16 H locs hw17 hP hD hS => ?_)
    have hP : va_P D cls [(q 5, .inr (1, fHall (fun k => q (5 + k)))), (q 14, .inr (2, fLadies (fun k => q (14 + k)))), (q 15, .inl (cy 0, 5, .inl (fun _ => 0))), (q 16, .inl (cy 0, 5, .inl (fun _ => 0))), (q 17, .inl (cy 0, 5, .inl (fun _ => 0)))] H := hP
    have hD : va_D A [(q 5, .inr (1, fHall (fun k => q (5 + k)))), (q 14, .inr (2, fLadies (fun k => q (14 + k)))), (q 15, .inl (cy 0, 5, .inl (fun _ => 0))), (q 16, .inl (cy 0, 5, .inl (fun _ => 0))), (q 17, .inl (cy 0, 5, .inl (fun _ => 0)))] := hD
    subst hw17
    exact hc_ret Sx hr hlocks dd_X11_lady_24 hS () (Or.inr ⟨by omega, rfl⟩) p_nil d_nil
set_option maxHeartbeats 4000000 in
set_option maxRecDepth 100000 in
theorem c_X_wipe (l : Launch) (D : va_G) (cy : Nat → ClassId) (q : Nat → Nat) : HC l my_X11_wipe mb_X11_wipe 2 ((some .int)) (rmD 1 0 0) D (TY cy) [.ref (q 0)] NX [(q 0, .inr (11, fX q)), (q 3, .inr (9, fTape (fun k => q (3 + k))))] (QI (S := Unit) D (fun r _ => r = 0) (fun _ => [])) := by
  refine hc_intro (by decide) (Nat.le_of_ble_eq_true rfl) (fun p e s m below meth c A ls Sx hr hlocks hin hl hP hD hK hS hA hX => ?_)
  have hx := Sx.1
  have hb := Sx.2.1
  have hl : lv_has ls 2 [(0, .ref (q 0))] := hl
  have hP : va_P D cls [(q 0, .inr (11, fX q)), (q 3, .inr (9, fTape (fun k => q (3 + k))))] s.heap := hP
  have hD : va_D A [(q 0, .inr (11, fX q)), (q 3, .inr (9, fTape (fun k => q (3 + k))))] := hD
  refine lv_aload_n hx hb dd_X11_wipe_0 rfl (lv_at hl 0 rfl) ?_
  refine wk_get (v := .ref (q 3)) Sx ef_11 hK hP 0 rfl rfl 2 (by decide) kk_384 rfl dd_X11_wipe_1 ?_
  refine wk_get (v := .int 0) Sx ef_9 hK hP 1 rfl rfl 1 (by decide) kk_40 rfl dd_X11_wipe_4 ?_
  refine lv_istore_n (lv' := [(1, .int 0), (0, .ref (q 0))]) hx hb dd_X11_wipe_7 rfl hl (by decide) rfl (fun ls hl => ?_)
  refine lv_aload_n hx hb dd_X11_wipe_8 rfl (lv_at hl 1 rfl) ?_
  refine wk_get (v := .ref (q 3)) Sx ef_11 hK hP 0 rfl rfl 2 (by decide) kk_384 rfl dd_X11_wipe_9 ?_
  refine lv_iconst (v := 0) hx hb dd_X11_wipe_12 (by decide) ?_
  refine wk_put (ws' := [(q 0, .inr (11, fX q)), (q 3, .inr (9, fTape (fun k => q (3 + k))))]) Sx ef_9 hK hP hD hS 1 rfl rfl 1 (by decide) kk_40 rfl rfl rfl (Nat.le_of_ble_eq_true rfl) dd_X11_wipe_13 rfl (fun H locs hP hD hS => ?_)
  refine lv_iload_n hx hb dd_X11_wipe_16 rfl (lv_at hl 0 rfl) ?_
  exact hc_ret Sx hr hlocks dd_X11_wipe_17 hS () rfl p_nil d_nil
set_option maxHeartbeats 4000000 in
set_option maxRecDepth 100000 in
theorem c_X_buyer (l : Launch) (D : va_G) (cy : Nat → ClassId) (q : Nat → Nat) (ho : Int32) (pu : Int32) (wi : Int32) (ey : Int32) : HC l my_X11_buyer mb_X11_buyer 5 ((some .int)) (rmD 3 0 0) D (TY cy) [.ref (q 0), .int ho, .int pu, .int wi, .int ey] NX [(q 0, .inr (11, fX q)), (q 2, .inl (cy 0, 5, .inl (fun _ => 0))), (q 5, .inr (1, fHall (fun k => q (5 + k)))), (q 21, .inr (0, fBuyers (fun k => q (21 + k)))), (q 22, .inl (cy 0, 12, .inl (fun _ => 0))), (q 23, .inl (cy 0, 12, .inl (fun _ => 0))), (q 24, .inl (cy 0, 12, .inl (fun _ => 0))), (q 25, .inl (cy 0, 12, .inl (fun _ => 0))), (q 26, .inl (cy 0, 12, .inl (fun _ => 0)))] (QI (S := Unit) D (fun r _ => if2 (0 ≤ ho.toInt ∧ ho.toInt ≤ 11 ∧ 0 ≤ pu.toInt ∧ pu.toInt ≤ 9999 ∧ 0 ≤ wi.toInt ∧ wi.toInt ≤ 63 ∧ 0 ≤ ey.toInt ∧ ey.toInt ≤ 300) 0 (-2) r) (fun _ => [])) := by
  refine hc_intro (by decide) (Nat.le_of_ble_eq_true rfl) (fun p e s m below meth c A ls Sx hr hlocks hin hl hP hD hK hS hA hX => ?_)
  have hx := Sx.1
  have hb := Sx.2.1
  have hl : lv_has ls 5 [(0, .ref (q 0)), (1, .int ho), (2, .int pu), (3, .int wi), (4, .int ey)] := hl
  have hP : va_P D cls [(q 0, .inr (11, fX q)), (q 2, .inl (cy 0, 5, .inl (fun _ => 0))), (q 5, .inr (1, fHall (fun k => q (5 + k)))), (q 21, .inr (0, fBuyers (fun k => q (21 + k)))), (q 22, .inl (cy 0, 12, .inl (fun _ => 0))), (q 23, .inl (cy 0, 12, .inl (fun _ => 0))), (q 24, .inl (cy 0, 12, .inl (fun _ => 0))), (q 25, .inl (cy 0, 12, .inl (fun _ => 0))), (q 26, .inl (cy 0, 12, .inl (fun _ => 0)))] s.heap := hP
  have hD : va_D A [(q 0, .inr (11, fX q)), (q 2, .inl (cy 0, 5, .inl (fun _ => 0))), (q 5, .inr (1, fHall (fun k => q (5 + k)))), (q 21, .inr (0, fBuyers (fun k => q (21 + k)))), (q 22, .inl (cy 0, 12, .inl (fun _ => 0))), (q 23, .inl (cy 0, 12, .inl (fun _ => 0))), (q 24, .inl (cy 0, 12, .inl (fun _ => 0))), (q 25, .inl (cy 0, 12, .inl (fun _ => 0))), (q 26, .inl (cy 0, 12, .inl (fun _ => 0)))] := hD
  refine lv_iload_n hx hb dd_X11_buyer_0 rfl (lv_at hl 1 rfl) ?_
  refine pk_i (pc_T [.int ho] [] Sx hl.1 ws_X_216 md_X11_isHour (c_isHour l D cy ho) ⟨rfl, rfl⟩ ⟨Nat.le_of_ble_eq_true rfl, Nat.le_of_ble_eq_true rfl⟩ p_nil hK ns_b (ns_w hX) rfl rfl (Nat.le_of_ble_eq_true rfl) dd_X11_buyer_1 ⟨Nat.le_of_ble_eq_true rfl, Nat.le_of_ble_eq_true rfl⟩) (fun r1 hw2 => ?_)
  rcases hw2 with ⟨hw2, ehw2⟩ | ⟨hw2, ehw2⟩
  · subst ehw2
    refine lv_if_eq (tgt := 37) hx hb dd_X11_buyer_4 (by decide) (fun c => absurd c (by decide)) (fun _ => ?_)
    refine lv_iload_n hx hb dd_X11_buyer_7 rfl (lv_at hl 2 rfl) ?_
    refine lv_iconst (v := 0) hx hb dd_X11_buyer_8 (by decide) ?_
    refine lv_sipush (v := 9999) hx hb dd_X11_buyer_9 (by decide) ?_
    refine pk_i (pc_T [.int pu, .int 0, .int 9999] [] Sx hl.1 ws_X_59 md_X11_within (c_within l D cy pu 0 9999) ⟨rfl, rfl⟩ ⟨Nat.le_of_ble_eq_true rfl, Nat.le_of_ble_eq_true rfl⟩ p_nil hK ns_b (ns_w hX) rfl rfl (Nat.le_of_ble_eq_true rfl) dd_X11_buyer_12 ⟨Nat.le_of_ble_eq_true rfl, Nat.le_of_ble_eq_true rfl⟩) (fun r3 hw4 => ?_)
    rcases hw4 with ⟨hw4, ehw4⟩ | ⟨hw4, ehw4⟩
    · have hl5 : Int32.toInt 0 = 0 := rfl
      have hl6 : Int32.toInt 9999 = 9999 := rfl
      subst ehw4
      refine lv_if_eq (tgt := 37) hx hb dd_X11_buyer_15 (by decide) (fun c => absurd c (by decide)) (fun _ => ?_)
      refine lv_iload_n hx hb dd_X11_buyer_18 rfl (lv_at hl 3 rfl) ?_
      refine pk_i (pc_T [.int wi] [] Sx hl.1 ws_X_165 md_X11_isKinds (c_isKinds l D cy wi) ⟨rfl, rfl⟩ ⟨Nat.le_of_ble_eq_true rfl, Nat.le_of_ble_eq_true rfl⟩ p_nil hK ns_b (ns_w hX) rfl rfl (Nat.le_of_ble_eq_true rfl) dd_X11_buyer_19 ⟨Nat.le_of_ble_eq_true rfl, Nat.le_of_ble_eq_true rfl⟩) (fun r7 hw8 => ?_)
      rcases hw8 with ⟨hw8, ehw8⟩ | ⟨hw8, ehw8⟩
      · subst ehw8
        refine lv_if_eq (tgt := 37) hx hb dd_X11_buyer_22 (by decide) (fun c => absurd c (by decide)) (fun _ => ?_)
        refine lv_iload hx hb dd_X11_buyer_25 (lv_at hl 4 rfl) ?_
        refine lv_iconst (v := 0) hx hb dd_X11_buyer_27 (by decide) ?_
        refine lv_sipush (v := 300) hx hb dd_X11_buyer_28 (by decide) ?_
        refine pk_i (pc_T [.int ey, .int 0, .int 300] [] Sx hl.1 ws_X_59 md_X11_within (c_within l D cy ey 0 300) ⟨rfl, rfl⟩ ⟨Nat.le_of_ble_eq_true rfl, Nat.le_of_ble_eq_true rfl⟩ p_nil hK ns_b (ns_w hX) rfl rfl (Nat.le_of_ble_eq_true rfl) dd_X11_buyer_31 ⟨Nat.le_of_ble_eq_true rfl, Nat.le_of_ble_eq_true rfl⟩) (fun r9 hw10 => ?_)
        rcases hw10 with ⟨hw10, ehw10⟩ | ⟨hw10, ehw10⟩
        · have hl11 : Int32.toInt 0 = 0 := rfl
          have hl12 : Int32.toInt 300 = 300 := rfl
          subst ehw10
          refine lv_if_ne (tgt := 44) hx hb dd_X11_buyer_34 (by decide) (fun _ => ?_) (fun c => absurd c (by decide))
          refine lv_aload_n hx hb dd_X11_buyer_44 rfl (lv_at hl 0 rfl) ?_
          refine wk_get (v := .ref (q 5)) Sx ef_11 hK hP 0 rfl rfl 3 (by decide) kk_385 rfl dd_X11_buyer_45 ?_
          refine wk_get (v := .ref (q 21)) Sx ef_1 hK hP 2 rfl rfl 3 (by decide) kk_267 rfl dd_X11_buyer_48 ?_
          refine wk_get (v := .int 0) Sx ef_0 hK hP 3 rfl rfl 5 (by decide) kk_176 rfl dd_X11_buyer_51 ?_
          refine lv_bipush (v := 12) hx hb dd_X11_buyer_54 (by decide) ?_
          refine lv_icmp_lt (tgt := 66) hx hb dd_X11_buyer_56 (by decide) (fun _ => ?_) (fun c => absurd c (by decide))
          refine lv_aload_n hx hb dd_X11_buyer_66 rfl (lv_at hl 0 rfl) ?_
          refine wk_get (v := .ref (q 5)) Sx ef_11 hK hP 0 rfl rfl 3 (by decide) kk_385 rfl dd_X11_buyer_67 ?_
          refine wk_get (v := .ref (q 21)) Sx ef_1 hK hP 2 rfl rfl 3 (by decide) kk_267 rfl dd_X11_buyer_70 ?_
          refine lv_iload_n hx hb dd_X11_buyer_73 rfl (lv_at hl 1 rfl) ?_
          refine lv_iload_n hx hb dd_X11_buyer_74 rfl (lv_at hl 2 rfl) ?_
          refine lv_iload_n hx hb dd_X11_buyer_75 rfl (lv_at hl 3 rfl) ?_
          refine lv_iload hx hb dd_X11_buyer_76 (lv_at hl 4 rfl) ?_
          refine hk_i (wr := [(q 0, .inr (11, fX q)), (q 2, .inl (cy 0, 5, .inl (fun _ => 0))), (q 5, .inr (1, fHall (fun k => q (5 + k))))]) (c1 := 0) (s1 := 0) [3, 4, 5, 6, 7, 8] [0, 1, 2] (hc_V [.int ho, .int pu, .int wi, .int ey] [] [3, 4, 5, 6, 7, 8] Sx hl.1 ws_X_226 md_X0_add (c_Buyers_add l D cy (fun k => q (21 + k)) ho pu wi ey) ⟨Nat.le_of_ble_eq_true rfl, Nat.le_of_ble_eq_true rfl⟩ hP hD rfl (by decide) hK nx_b (nx_w hX) (va_recv hK hP (ci := 0) (q0 := 3) rfl rfl) rfl rfl (Nat.le_of_ble_eq_true rfl) dd_X11_buyer_78 ⟨Nat.le_of_ble_eq_true rfl, Nat.le_of_ble_eq_true rfl⟩) hS hA hP hD rfl rfl (by decide) (by decide) rfl rfl (fun r13 u14 H locs hw15 hP hD hS => ?_)
          have hP : va_P D cls [(q 0, .inr (11, fX q)), (q 2, .inl (cy 0, 5, .inl (fun _ => 0))), (q 5, .inr (1, fHall (fun k => q (5 + k))))] H := hP
          have hD : va_D A [(q 0, .inr (11, fX q)), (q 2, .inl (cy 0, 5, .inl (fun _ => 0))), (q 5, .inr (1, fHall (fun k => q (5 + k))))] := hD
          subst hw15
          exact hc_ret Sx hr hlocks dd_X11_buyer_81 hS () (Or.inl ⟨by omega, rfl⟩) p_nil d_nil
        · have hl16 : Int32.toInt 0 = 0 := rfl
          have hl17 : Int32.toInt 300 = 300 := rfl
          subst ehw10
          refine lv_if_ne (tgt := 44) hx hb dd_X11_buyer_34 (by decide) (fun c => absurd c (by decide)) (fun _ => ?_)
          refine lv_aload_n hx hb dd_X11_buyer_37 rfl (lv_at hl 0 rfl) ?_
          refine lv_bipush (v := (-2)) hx hb dd_X11_buyer_38 (by decide) ?_
          refine hk_i (wr := [(q 5, .inr (1, fHall (fun k => q (5 + k)))), (q 21, .inr (0, fBuyers (fun k => q (21 + k)))), (q 22, .inl (cy 0, 12, .inl (fun _ => 0))), (q 23, .inl (cy 0, 12, .inl (fun _ => 0))), (q 24, .inl (cy 0, 12, .inl (fun _ => 0))), (q 25, .inl (cy 0, 12, .inl (fun _ => 0))), (q 26, .inl (cy 0, 12, .inl (fun _ => 0)))]) (c1 := 0) (s1 := 0) [0, 1] [2, 3, 4, 5, 6, 7, 8] (hc_V [.int (-2)] [] [0, 1] Sx hl.1 ws_X_63 md_X11_refuse (c_refuse_2 l D cy q) ⟨Nat.le_of_ble_eq_true rfl, Nat.le_of_ble_eq_true rfl⟩ hP hD rfl (by decide) hK nx_b (nx_w hX) (va_recv hK hP (ci := 11) (q0 := 0) rfl rfl) rfl rfl (Nat.le_of_ble_eq_true rfl) dd_X11_buyer_40 ⟨Nat.le_of_ble_eq_true rfl, Nat.le_of_ble_eq_true rfl⟩) hS hA hP hD rfl rfl (by decide) (by decide) rfl rfl (fun r18 u19 H locs hw20 hP hD hS => ?_)
          have hP : va_P D cls [(q 5, .inr (1, fHall (fun k => q (5 + k)))), (q 21, .inr (0, fBuyers (fun k => q (21 + k)))), (q 22, .inl (cy 0, 12, .inl (fun _ => 0))), (q 23, .inl (cy 0, 12, .inl (fun _ => 0))), (q 24, .inl (cy 0, 12, .inl (fun _ => 0))), (q 25, .inl (cy 0, 12, .inl (fun _ => 0))), (q 26, .inl (cy 0, 12, .inl (fun _ => 0)))] H := hP
          have hD : va_D A [(q 5, .inr (1, fHall (fun k => q (5 + k)))), (q 21, .inr (0, fBuyers (fun k => q (21 + k)))), (q 22, .inl (cy 0, 12, .inl (fun _ => 0))), (q 23, .inl (cy 0, 12, .inl (fun _ => 0))), (q 24, .inl (cy 0, 12, .inl (fun _ => 0))), (q 25, .inl (cy 0, 12, .inl (fun _ => 0))), (q 26, .inl (cy 0, 12, .inl (fun _ => 0)))] := hD
          subst hw20
          exact hc_ret Sx hr hlocks dd_X11_buyer_43 hS () (Or.inr ⟨by omega, rfl⟩) p_nil d_nil
      · subst ehw8
        refine lv_if_eq (tgt := 37) hx hb dd_X11_buyer_22 (by decide) (fun _ => ?_) (fun c => absurd c (by decide))
        refine lv_aload_n hx hb dd_X11_buyer_37 rfl (lv_at hl 0 rfl) ?_
        refine lv_bipush (v := (-2)) hx hb dd_X11_buyer_38 (by decide) ?_
        refine hk_i (wr := [(q 5, .inr (1, fHall (fun k => q (5 + k)))), (q 21, .inr (0, fBuyers (fun k => q (21 + k)))), (q 22, .inl (cy 0, 12, .inl (fun _ => 0))), (q 23, .inl (cy 0, 12, .inl (fun _ => 0))), (q 24, .inl (cy 0, 12, .inl (fun _ => 0))), (q 25, .inl (cy 0, 12, .inl (fun _ => 0))), (q 26, .inl (cy 0, 12, .inl (fun _ => 0)))]) (c1 := 0) (s1 := 0) [0, 1] [2, 3, 4, 5, 6, 7, 8] (hc_V [.int (-2)] [] [0, 1] Sx hl.1 ws_X_63 md_X11_refuse (c_refuse_2 l D cy q) ⟨Nat.le_of_ble_eq_true rfl, Nat.le_of_ble_eq_true rfl⟩ hP hD rfl (by decide) hK nx_b (nx_w hX) (va_recv hK hP (ci := 11) (q0 := 0) rfl rfl) rfl rfl (Nat.le_of_ble_eq_true rfl) dd_X11_buyer_40 ⟨Nat.le_of_ble_eq_true rfl, Nat.le_of_ble_eq_true rfl⟩) hS hA hP hD rfl rfl (by decide) (by decide) rfl rfl (fun r21 u22 H locs hw23 hP hD hS => ?_)
        have hP : va_P D cls [(q 5, .inr (1, fHall (fun k => q (5 + k)))), (q 21, .inr (0, fBuyers (fun k => q (21 + k)))), (q 22, .inl (cy 0, 12, .inl (fun _ => 0))), (q 23, .inl (cy 0, 12, .inl (fun _ => 0))), (q 24, .inl (cy 0, 12, .inl (fun _ => 0))), (q 25, .inl (cy 0, 12, .inl (fun _ => 0))), (q 26, .inl (cy 0, 12, .inl (fun _ => 0)))] H := hP
        have hD : va_D A [(q 5, .inr (1, fHall (fun k => q (5 + k)))), (q 21, .inr (0, fBuyers (fun k => q (21 + k)))), (q 22, .inl (cy 0, 12, .inl (fun _ => 0))), (q 23, .inl (cy 0, 12, .inl (fun _ => 0))), (q 24, .inl (cy 0, 12, .inl (fun _ => 0))), (q 25, .inl (cy 0, 12, .inl (fun _ => 0))), (q 26, .inl (cy 0, 12, .inl (fun _ => 0)))] := hD
        subst hw23
        exact hc_ret Sx hr hlocks dd_X11_buyer_43 hS () (Or.inr ⟨by omega, rfl⟩) p_nil d_nil
    · have hl24 : Int32.toInt 0 = 0 := rfl
      have hl25 : Int32.toInt 9999 = 9999 := rfl
      subst ehw4
      refine lv_if_eq (tgt := 37) hx hb dd_X11_buyer_15 (by decide) (fun _ => ?_) (fun c => absurd c (by decide))
      refine lv_aload_n hx hb dd_X11_buyer_37 rfl (lv_at hl 0 rfl) ?_
      refine lv_bipush (v := (-2)) hx hb dd_X11_buyer_38 (by decide) ?_
      refine hk_i (wr := [(q 5, .inr (1, fHall (fun k => q (5 + k)))), (q 21, .inr (0, fBuyers (fun k => q (21 + k)))), (q 22, .inl (cy 0, 12, .inl (fun _ => 0))), (q 23, .inl (cy 0, 12, .inl (fun _ => 0))), (q 24, .inl (cy 0, 12, .inl (fun _ => 0))), (q 25, .inl (cy 0, 12, .inl (fun _ => 0))), (q 26, .inl (cy 0, 12, .inl (fun _ => 0)))]) (c1 := 0) (s1 := 0) [0, 1] [2, 3, 4, 5, 6, 7, 8] (hc_V [.int (-2)] [] [0, 1] Sx hl.1 ws_X_63 md_X11_refuse (c_refuse_2 l D cy q) ⟨Nat.le_of_ble_eq_true rfl, Nat.le_of_ble_eq_true rfl⟩ hP hD rfl (by decide) hK nx_b (nx_w hX) (va_recv hK hP (ci := 11) (q0 := 0) rfl rfl) rfl rfl (Nat.le_of_ble_eq_true rfl) dd_X11_buyer_40 ⟨Nat.le_of_ble_eq_true rfl, Nat.le_of_ble_eq_true rfl⟩) hS hA hP hD rfl rfl (by decide) (by decide) rfl rfl (fun r26 u27 H locs hw28 hP hD hS => ?_)
      have hP : va_P D cls [(q 5, .inr (1, fHall (fun k => q (5 + k)))), (q 21, .inr (0, fBuyers (fun k => q (21 + k)))), (q 22, .inl (cy 0, 12, .inl (fun _ => 0))), (q 23, .inl (cy 0, 12, .inl (fun _ => 0))), (q 24, .inl (cy 0, 12, .inl (fun _ => 0))), (q 25, .inl (cy 0, 12, .inl (fun _ => 0))), (q 26, .inl (cy 0, 12, .inl (fun _ => 0)))] H := hP
      have hD : va_D A [(q 5, .inr (1, fHall (fun k => q (5 + k)))), (q 21, .inr (0, fBuyers (fun k => q (21 + k)))), (q 22, .inl (cy 0, 12, .inl (fun _ => 0))), (q 23, .inl (cy 0, 12, .inl (fun _ => 0))), (q 24, .inl (cy 0, 12, .inl (fun _ => 0))), (q 25, .inl (cy 0, 12, .inl (fun _ => 0))), (q 26, .inl (cy 0, 12, .inl (fun _ => 0)))] := hD
      subst hw28
      exact hc_ret Sx hr hlocks dd_X11_buyer_43 hS () (Or.inr ⟨by omega, rfl⟩) p_nil d_nil
  · subst ehw2
    refine lv_if_eq (tgt := 37) hx hb dd_X11_buyer_4 (by decide) (fun _ => ?_) (fun c => absurd c (by decide))
    refine lv_aload_n hx hb dd_X11_buyer_37 rfl (lv_at hl 0 rfl) ?_
    refine lv_bipush (v := (-2)) hx hb dd_X11_buyer_38 (by decide) ?_
    refine hk_i (wr := [(q 5, .inr (1, fHall (fun k => q (5 + k)))), (q 21, .inr (0, fBuyers (fun k => q (21 + k)))), (q 22, .inl (cy 0, 12, .inl (fun _ => 0))), (q 23, .inl (cy 0, 12, .inl (fun _ => 0))), (q 24, .inl (cy 0, 12, .inl (fun _ => 0))), (q 25, .inl (cy 0, 12, .inl (fun _ => 0))), (q 26, .inl (cy 0, 12, .inl (fun _ => 0)))]) (c1 := 0) (s1 := 0) [0, 1] [2, 3, 4, 5, 6, 7, 8] (hc_V [.int (-2)] [] [0, 1] Sx hl.1 ws_X_63 md_X11_refuse (c_refuse_2 l D cy q) ⟨Nat.le_of_ble_eq_true rfl, Nat.le_of_ble_eq_true rfl⟩ hP hD rfl (by decide) hK nx_b (nx_w hX) (va_recv hK hP (ci := 11) (q0 := 0) rfl rfl) rfl rfl (Nat.le_of_ble_eq_true rfl) dd_X11_buyer_40 ⟨Nat.le_of_ble_eq_true rfl, Nat.le_of_ble_eq_true rfl⟩) hS hA hP hD rfl rfl (by decide) (by decide) rfl rfl (fun r29 u30 H locs hw31 hP hD hS => ?_)
    have hP : va_P D cls [(q 5, .inr (1, fHall (fun k => q (5 + k)))), (q 21, .inr (0, fBuyers (fun k => q (21 + k)))), (q 22, .inl (cy 0, 12, .inl (fun _ => 0))), (q 23, .inl (cy 0, 12, .inl (fun _ => 0))), (q 24, .inl (cy 0, 12, .inl (fun _ => 0))), (q 25, .inl (cy 0, 12, .inl (fun _ => 0))), (q 26, .inl (cy 0, 12, .inl (fun _ => 0)))] H := hP
    have hD : va_D A [(q 5, .inr (1, fHall (fun k => q (5 + k)))), (q 21, .inr (0, fBuyers (fun k => q (21 + k)))), (q 22, .inl (cy 0, 12, .inl (fun _ => 0))), (q 23, .inl (cy 0, 12, .inl (fun _ => 0))), (q 24, .inl (cy 0, 12, .inl (fun _ => 0))), (q 25, .inl (cy 0, 12, .inl (fun _ => 0))), (q 26, .inl (cy 0, 12, .inl (fun _ => 0)))] := hD
    subst hw31
    exact hc_ret Sx hr hlocks dd_X11_buyer_43 hS () (Or.inr ⟨by omega, rfl⟩) p_nil d_nil
set_option maxHeartbeats 4000000 in
set_option maxRecDepth 100000 in
theorem c_X_turn (l : Launch) (D : va_G) (cy : Nat → ClassId) (q : Nat → Nat) (wh : Int32) (ho : Int32) : HC l my_X11_turn mb_X11_turn 4 ((some .int)) (rmD 3 0 0) D (TY cy) [.ref (q 0), .int wh, .int ho] NX [(q 0, .inr (11, fX q)), (q 2, .inl (cy 0, 5, .inl (fun _ => 0))), (q 5, .inr (1, fHall (fun k => q (5 + k))))] (QI (S := Unit) D (fun r _ => if2 (0 ≤ wh.toInt ∧ wh.toInt ≤ 1 ∧ 0 ≤ ho.toInt ∧ ho.toInt ≤ 12) 12 (-2) r) (fun _ => [])) := by
  refine hc_intro (by decide) (Nat.le_of_ble_eq_true rfl) (fun p e s m below meth c A ls Sx hr hlocks hin hl hP hD hK hS hA hX => ?_)
  have hx := Sx.1
  have hb := Sx.2.1
  have hl : lv_has ls 4 [(0, .ref (q 0)), (1, .int wh), (2, .int ho)] := hl
  have hP : va_P D cls [(q 0, .inr (11, fX q)), (q 2, .inl (cy 0, 5, .inl (fun _ => 0))), (q 5, .inr (1, fHall (fun k => q (5 + k))))] s.heap := hP
  have hD : va_D A [(q 0, .inr (11, fX q)), (q 2, .inl (cy 0, 5, .inl (fun _ => 0))), (q 5, .inr (1, fHall (fun k => q (5 + k))))] := hD
  refine lv_iload_n hx hb dd_X11_turn_0 rfl (lv_at hl 1 rfl) ?_
  refine lv_iconst (v := 0) hx hb dd_X11_turn_1 (by decide) ?_
  refine lv_iconst (v := 1) hx hb dd_X11_turn_2 (by decide) ?_
  refine pk_i (pc_T [.int wh, .int 0, .int 1] [] Sx hl.1 ws_X_59 md_X11_within (c_within l D cy wh 0 1) ⟨rfl, rfl⟩ ⟨Nat.le_of_ble_eq_true rfl, Nat.le_of_ble_eq_true rfl⟩ p_nil hK ns_b (ns_w hX) rfl rfl (Nat.le_of_ble_eq_true rfl) dd_X11_turn_3 ⟨Nat.le_of_ble_eq_true rfl, Nat.le_of_ble_eq_true rfl⟩) (fun r1 hw2 => ?_)
  rcases hw2 with ⟨hw2, ehw2⟩ | ⟨hw2, ehw2⟩
  · have hl3 : Int32.toInt 0 = 0 := rfl
    have hl4 : Int32.toInt 1 = 1 := rfl
    subst ehw2
    refine lv_if_eq (tgt := 19) hx hb dd_X11_turn_6 (by decide) (fun c => absurd c (by decide)) (fun _ => ?_)
    refine lv_iload_n hx hb dd_X11_turn_9 rfl (lv_at hl 2 rfl) ?_
    refine lv_iconst (v := 0) hx hb dd_X11_turn_10 (by decide) ?_
    refine lv_bipush (v := 12) hx hb dd_X11_turn_11 (by decide) ?_
    refine pk_i (pc_T [.int ho, .int 0, .int 12] [] Sx hl.1 ws_X_59 md_X11_within (c_within l D cy ho 0 12) ⟨rfl, rfl⟩ ⟨Nat.le_of_ble_eq_true rfl, Nat.le_of_ble_eq_true rfl⟩ p_nil hK ns_b (ns_w hX) rfl rfl (Nat.le_of_ble_eq_true rfl) dd_X11_turn_13 ⟨Nat.le_of_ble_eq_true rfl, Nat.le_of_ble_eq_true rfl⟩) (fun r5 hw6 => ?_)
    rcases hw6 with ⟨hw6, ehw6⟩ | ⟨hw6, ehw6⟩
    · have hl7 : Int32.toInt 0 = 0 := rfl
      have hl8 : Int32.toInt 12 = 12 := rfl
      subst ehw6
      refine lv_if_ne (tgt := 26) hx hb dd_X11_turn_16 (by decide) (fun _ => ?_) (fun c => absurd c (by decide))
      refine lv_iload_n hx hb dd_X11_turn_26 rfl (lv_at hl 1 rfl) ?_
      refine lv_if_ne (tgt := 40) hx hb dd_X11_turn_27 (by decide) (fun c9 => ?_) (fun c9 => ?_)
      · have fc9 := ci_ne (a := wh.toInt) (b := 0) rfl rfl c9
        refine lv_aload_n hx hb dd_X11_turn_40 rfl (lv_at hl 0 rfl) ?_
        refine wk_get (v := .ref (q 5)) Sx ef_11 hK hP 0 rfl rfl 3 (by decide) kk_385 rfl dd_X11_turn_41 ?_
        refine wk_get (v := .int 12) Sx ef_1 hK hP 2 rfl rfl 9 (by decide) kk_279 rfl dd_X11_turn_44 ?_
        refine lv_istore_n (lv' := [(3, .int 12), (0, .ref (q 0)), (1, .int wh), (2, .int ho)]) hx hb dd_X11_turn_47 rfl hl (by decide) rfl (fun ls hl => ?_)
        refine lv_iload_n hx hb dd_X11_turn_48 rfl (lv_at hl 2 rfl) ?_
        refine lv_if_ne (tgt := 63) hx hb dd_X11_turn_49 (by decide) (fun c10 => ?_) (fun c10 => ?_)
        · have fc10 := ci_ne (a := wh.toInt) (b := 0) rfl rfl c10
          refine lv_aload_n hx hb dd_X11_turn_63 rfl (lv_at hl 1 rfl) ?_
          refine wk_get (v := .ref (q 5)) Sx ef_11 hK hP 0 rfl rfl 3 (by decide) kk_385 rfl dd_X11_turn_64 ?_
          refine lv_iload_n hx hb dd_X11_turn_67 rfl (lv_at hl 3 rfl) ?_
          refine wk_put (ws' := [(q 0, .inr (11, fX q)), (q 2, .inl (cy 0, 5, .inl (fun _ => 0))), (q 5, .inr (1, (fHall (fun k => q (5 + k))).set 9 (.int ho)))]) Sx ef_1 hK hP hD hS 2 rfl rfl 9 (by decide) kk_279 rfl rfl rfl (Nat.le_of_ble_eq_true rfl) dd_X11_turn_68 rfl (fun H locs hP hD hS => ?_)
          refine lv_iload_n hx hb dd_X11_turn_71 rfl (lv_at hl 0 rfl) ?_
          exact hc_ret Sx hr hlocks dd_X11_turn_72 hS () (Or.inl ⟨by omega, rfl⟩) p_nil d_nil
        · have fc10 := ci_eq (a := wh.toInt) (b := 0) rfl rfl c10
          exfalso; omega
      · have fc9 := ci_eq (a := wh.toInt) (b := 0) rfl rfl c9
        refine lv_aload_n hx hb dd_X11_turn_30 rfl (lv_at hl 0 rfl) ?_
        refine wk_get (v := .ref (q 5)) Sx ef_11 hK hP 0 rfl rfl 3 (by decide) kk_385 rfl dd_X11_turn_31 ?_
        refine wk_get (v := .int 12) Sx ef_1 hK hP 2 rfl rfl 8 (by decide) kk_277 rfl dd_X11_turn_34 ?_
        refine lv_goto (tgt := 47) hx hb dd_X11_turn_37 (by decide) ?_
        refine lv_istore_n (lv' := [(3, .int 12), (0, .ref (q 0)), (1, .int wh), (2, .int ho)]) hx hb dd_X11_turn_47 rfl hl (by decide) rfl (fun ls hl => ?_)
        refine lv_iload_n hx hb dd_X11_turn_48 rfl (lv_at hl 2 rfl) ?_
        refine lv_if_ne (tgt := 63) hx hb dd_X11_turn_49 (by decide) (fun c11 => ?_) (fun c11 => ?_)
        · have fc11 := ci_ne (a := wh.toInt) (b := 0) rfl rfl c11
          exfalso; omega
        · have fc11 := ci_eq (a := wh.toInt) (b := 0) rfl rfl c11
          refine lv_aload_n hx hb dd_X11_turn_52 rfl (lv_at hl 1 rfl) ?_
          refine wk_get (v := .ref (q 5)) Sx ef_11 hK hP 0 rfl rfl 3 (by decide) kk_385 rfl dd_X11_turn_53 ?_
          refine lv_iload_n hx hb dd_X11_turn_56 rfl (lv_at hl 3 rfl) ?_
          refine wk_put (ws' := [(q 0, .inr (11, fX q)), (q 2, .inl (cy 0, 5, .inl (fun _ => 0))), (q 5, .inr (1, (fHall (fun k => q (5 + k))).set 8 (.int ho)))]) Sx ef_1 hK hP hD hS 2 rfl rfl 8 (by decide) kk_277 rfl rfl rfl (Nat.le_of_ble_eq_true rfl) dd_X11_turn_57 rfl (fun H locs hP hD hS => ?_)
          refine lv_goto (tgt := 71) hx hb dd_X11_turn_60 (by decide) ?_
          refine lv_iload_n hx hb dd_X11_turn_71 rfl (lv_at hl 0 rfl) ?_
          exact hc_ret Sx hr hlocks dd_X11_turn_72 hS () (Or.inl ⟨by omega, rfl⟩) p_nil d_nil
    · have hl12 : Int32.toInt 0 = 0 := rfl
      have hl13 : Int32.toInt 12 = 12 := rfl
      subst ehw6
      refine lv_if_ne (tgt := 26) hx hb dd_X11_turn_16 (by decide) (fun c => absurd c (by decide)) (fun _ => ?_)
      refine lv_aload_n hx hb dd_X11_turn_19 rfl (lv_at hl 0 rfl) ?_
      refine lv_bipush (v := (-2)) hx hb dd_X11_turn_20 (by decide) ?_
      refine hk_i (wr := [(q 5, .inr (1, fHall (fun k => q (5 + k))))]) (c1 := 0) (s1 := 0) [0, 1] [2] (hc_V [.int (-2)] [] [0, 1] Sx hl.1 ws_X_63 md_X11_refuse (c_refuse_2 l D cy q) ⟨Nat.le_of_ble_eq_true rfl, Nat.le_of_ble_eq_true rfl⟩ hP hD rfl (by decide) hK nx_b (nx_w hX) (va_recv hK hP (ci := 11) (q0 := 0) rfl rfl) rfl rfl (Nat.le_of_ble_eq_true rfl) dd_X11_turn_22 ⟨Nat.le_of_ble_eq_true rfl, Nat.le_of_ble_eq_true rfl⟩) hS hA hP hD rfl rfl (by decide) (by decide) rfl rfl (fun r14 u15 H locs hw16 hP hD hS => ?_)
      have hP : va_P D cls [(q 5, .inr (1, fHall (fun k => q (5 + k))))] H := hP
      have hD : va_D A [(q 5, .inr (1, fHall (fun k => q (5 + k))))] := hD
      subst hw16
      exact hc_ret Sx hr hlocks dd_X11_turn_25 hS () (Or.inr ⟨by omega, rfl⟩) p_nil d_nil
  · have hl17 : Int32.toInt 0 = 0 := rfl
    have hl18 : Int32.toInt 1 = 1 := rfl
    subst ehw2
    refine lv_if_eq (tgt := 19) hx hb dd_X11_turn_6 (by decide) (fun _ => ?_) (fun c => absurd c (by decide))
    refine lv_aload_n hx hb dd_X11_turn_19 rfl (lv_at hl 0 rfl) ?_
    refine lv_bipush (v := (-2)) hx hb dd_X11_turn_20 (by decide) ?_
    refine hk_i (wr := [(q 5, .inr (1, fHall (fun k => q (5 + k))))]) (c1 := 0) (s1 := 0) [0, 1] [2] (hc_V [.int (-2)] [] [0, 1] Sx hl.1 ws_X_63 md_X11_refuse (c_refuse_2 l D cy q) ⟨Nat.le_of_ble_eq_true rfl, Nat.le_of_ble_eq_true rfl⟩ hP hD rfl (by decide) hK nx_b (nx_w hX) (va_recv hK hP (ci := 11) (q0 := 0) rfl rfl) rfl rfl (Nat.le_of_ble_eq_true rfl) dd_X11_turn_22 ⟨Nat.le_of_ble_eq_true rfl, Nat.le_of_ble_eq_true rfl⟩) hS hA hP hD rfl rfl (by decide) (by decide) rfl rfl (fun r19 u20 H locs hw21 hP hD hS => ?_)
    have hP : va_P D cls [(q 5, .inr (1, fHall (fun k => q (5 + k))))] H := hP
    have hD : va_D A [(q 5, .inr (1, fHall (fun k => q (5 + k))))] := hD
    subst hw21
    exact hc_ret Sx hr hlocks dd_X11_turn_25 hS () (Or.inr ⟨by omega, rfl⟩) p_nil d_nil
set_option maxHeartbeats 4000000 in
set_option maxRecDepth 100000 in
theorem c_X_takings (l : Launch) (D : va_G) (cy : Nat → ClassId) (q : Nat → Nat) (ha : Int32) (ba : Int32) : HC l my_X11_takings mb_X11_takings 3 ((some .int)) (rmD 4 0 0) D (TY cy) [.ref (q 0), .int ha, .int ba] NX [(q 0, .inr (11, fX q)), (q 2, .inl (cy 0, 5, .inl (fun _ => 0))), (q 5, .inr (1, fHall (fun k => q (5 + k)))), (q 6, .inr (10, fThings (fun k => q (6 + k)))), (q 21, .inr (0, fBuyers (fun k => q (21 + k)))), (q 87, .inr (5, fSale (fun k => q (87 + k))))] (QI (S := Unit) D (fun r _ => if2 (0 ≤ ha.toInt ∧ ha.toInt ≤ 12 ∧ 0 ≤ ba.toInt ∧ ba.toInt ≤ 12) 0 (-2) r) (fun _ => [])) := by
  refine hc_intro (by decide) (Nat.le_of_ble_eq_true rfl) (fun p e s m below meth c A ls Sx hr hlocks hin hl hP hD hK hS hA hX => ?_)
  have hx := Sx.1
  have hb := Sx.2.1
  have hl : lv_has ls 3 [(0, .ref (q 0)), (1, .int ha), (2, .int ba)] := hl
  have hP : va_P D cls [(q 0, .inr (11, fX q)), (q 2, .inl (cy 0, 5, .inl (fun _ => 0))), (q 5, .inr (1, fHall (fun k => q (5 + k)))), (q 6, .inr (10, fThings (fun k => q (6 + k)))), (q 21, .inr (0, fBuyers (fun k => q (21 + k)))), (q 87, .inr (5, fSale (fun k => q (87 + k))))] s.heap := hP
  have hD : va_D A [(q 0, .inr (11, fX q)), (q 2, .inl (cy 0, 5, .inl (fun _ => 0))), (q 5, .inr (1, fHall (fun k => q (5 + k)))), (q 6, .inr (10, fThings (fun k => q (6 + k)))), (q 21, .inr (0, fBuyers (fun k => q (21 + k)))), (q 87, .inr (5, fSale (fun k => q (87 + k))))] := hD
  refine lv_iload_n hx hb dd_X11_takings_0 rfl (lv_at hl 1 rfl) ?_
  refine lv_iconst (v := 0) hx hb dd_X11_takings_1 (by decide) ?_
  refine lv_bipush (v := 12) hx hb dd_X11_takings_2 (by decide) ?_
  refine pk_i (pc_T [.int ha, .int 0, .int 12] [] Sx hl.1 ws_X_59 md_X11_within (c_within l D cy ha 0 12) ⟨rfl, rfl⟩ ⟨Nat.le_of_ble_eq_true rfl, Nat.le_of_ble_eq_true rfl⟩ p_nil hK ns_b (ns_w hX) rfl rfl (Nat.le_of_ble_eq_true rfl) dd_X11_takings_4 ⟨Nat.le_of_ble_eq_true rfl, Nat.le_of_ble_eq_true rfl⟩) (fun r1 hw2 => ?_)
  rcases hw2 with ⟨hw2, ehw2⟩ | ⟨hw2, ehw2⟩
  · have hl3 : Int32.toInt 0 = 0 := rfl
    have hl4 : Int32.toInt 12 = 12 := rfl
    subst ehw2
    refine lv_if_eq (tgt := 20) hx hb dd_X11_takings_7 (by decide) (fun c => absurd c (by decide)) (fun _ => ?_)
    refine lv_iload_n hx hb dd_X11_takings_10 rfl (lv_at hl 2 rfl) ?_
    refine lv_iconst (v := 0) hx hb dd_X11_takings_11 (by decide) ?_
    refine lv_bipush (v := 12) hx hb dd_X11_takings_12 (by decide) ?_
    refine pk_i (pc_T [.int ba, .int 0, .int 12] [] Sx hl.1 ws_X_59 md_X11_within (c_within l D cy ba 0 12) ⟨rfl, rfl⟩ ⟨Nat.le_of_ble_eq_true rfl, Nat.le_of_ble_eq_true rfl⟩ p_nil hK ns_b (ns_w hX) rfl rfl (Nat.le_of_ble_eq_true rfl) dd_X11_takings_14 ⟨Nat.le_of_ble_eq_true rfl, Nat.le_of_ble_eq_true rfl⟩) (fun r5 hw6 => ?_)
    rcases hw6 with ⟨hw6, ehw6⟩ | ⟨hw6, ehw6⟩
    · have hl7 : Int32.toInt 0 = 0 := rfl
      have hl8 : Int32.toInt 12 = 12 := rfl
      subst ehw6
      refine lv_if_ne (tgt := 27) hx hb dd_X11_takings_17 (by decide) (fun _ => ?_) (fun c => absurd c (by decide))
      refine lv_aload_n hx hb dd_X11_takings_27 rfl (lv_at hl 0 rfl) ?_
      refine wk_get (v := .ref (q 87)) Sx ef_11 hK hP 0 rfl rfl 5 (by decide) kk_387 rfl dd_X11_takings_28 ?_
      refine lv_aload_n hx hb dd_X11_takings_31 rfl (lv_at hl 0 rfl) ?_
      refine wk_get (v := .ref (q 5)) Sx ef_11 hK hP 0 rfl rfl 3 (by decide) kk_385 rfl dd_X11_takings_32 ?_
      refine lv_iload_n hx hb dd_X11_takings_35 rfl (lv_at hl 1 rfl) ?_
      refine lv_iload_n hx hb dd_X11_takings_36 rfl (lv_at hl 2 rfl) ?_
      refine hk_i (wr := [(q 0, .inr (11, fX q)), (q 2, .inl (cy 0, 5, .inl (fun _ => 0)))]) (c1 := 0) (s1 := 0) [5, 2, 3, 4] [0, 1] (hc_V [.ref (q 5), .int ha, .int ba] [] [5, 2, 3, 4] Sx hl.1 ws_X_265 md_X5_wholeDay (c_wholeDay l D cy (fun k => q (87 + k)) (fun k => q (5 + k)) ha ba 12 12) ⟨Nat.le_of_ble_eq_true rfl, Nat.le_of_ble_eq_true rfl⟩ hP hD rfl (by decide) hK nx_b (nx_w hX) (va_recv hK hP (ci := 5) (q0 := 5) rfl rfl) rfl rfl (Nat.le_of_ble_eq_true rfl) dd_X11_takings_37 ⟨Nat.le_of_ble_eq_true rfl, Nat.le_of_ble_eq_true rfl⟩) hS hA hP hD rfl rfl (by decide) (by decide) rfl rfl (fun r9 u10 H locs hw11 hP hD hS => ?_)
      have hP : va_P D cls [(q 0, .inr (11, fX q)), (q 2, .inl (cy 0, 5, .inl (fun _ => 0))), (q 87, .inr (5, ((fSale (fun k => q (87 + k))).set 0 (.int ha)).set 1 (.int ba))), (q 5, .inr (1, fHall (fun k => q (5 + k)))), (q 6, .inr (10, fThings (fun k => (fun k => q (5 + k)) (1 + k)))), (q 21, .inr (0, fBuyers (fun k => (fun k => q (5 + k)) (16 + k))))] H := hP
      have hD : va_D A [(q 0, .inr (11, fX q)), (q 2, .inl (cy 0, 5, .inl (fun _ => 0))), (q 87, .inr (5, ((fSale (fun k => q (87 + k))).set 0 (.int ha)).set 1 (.int ba))), (q 5, .inr (1, fHall (fun k => q (5 + k)))), (q 6, .inr (10, fThings (fun k => (fun k => q (5 + k)) (1 + k)))), (q 21, .inr (0, fBuyers (fun k => (fun k => q (5 + k)) (16 + k))))] := hD
      subst hw11
      exact hc_ret Sx hr hlocks dd_X11_takings_40 hS () (Or.inl ⟨by omega, rfl⟩) p_nil d_nil
    · have hl12 : Int32.toInt 0 = 0 := rfl
      have hl13 : Int32.toInt 12 = 12 := rfl
      subst ehw6
      refine lv_if_ne (tgt := 27) hx hb dd_X11_takings_17 (by decide) (fun c => absurd c (by decide)) (fun _ => ?_)
      refine lv_aload_n hx hb dd_X11_takings_20 rfl (lv_at hl 0 rfl) ?_
      refine lv_bipush (v := (-2)) hx hb dd_X11_takings_21 (by decide) ?_
      refine hk_i (wr := [(q 5, .inr (1, fHall (fun k => q (5 + k)))), (q 6, .inr (10, fThings (fun k => q (6 + k)))), (q 21, .inr (0, fBuyers (fun k => q (21 + k)))), (q 87, .inr (5, fSale (fun k => q (87 + k))))]) (c1 := 0) (s1 := 0) [0, 1] [2, 3, 4, 5] (hc_V [.int (-2)] [] [0, 1] Sx hl.1 ws_X_63 md_X11_refuse (c_refuse_2 l D cy q) ⟨Nat.le_of_ble_eq_true rfl, Nat.le_of_ble_eq_true rfl⟩ hP hD rfl (by decide) hK nx_b (nx_w hX) (va_recv hK hP (ci := 11) (q0 := 0) rfl rfl) rfl rfl (Nat.le_of_ble_eq_true rfl) dd_X11_takings_23 ⟨Nat.le_of_ble_eq_true rfl, Nat.le_of_ble_eq_true rfl⟩) hS hA hP hD rfl rfl (by decide) (by decide) rfl rfl (fun r14 u15 H locs hw16 hP hD hS => ?_)
      have hP : va_P D cls [(q 5, .inr (1, fHall (fun k => q (5 + k)))), (q 6, .inr (10, fThings (fun k => q (6 + k)))), (q 21, .inr (0, fBuyers (fun k => q (21 + k)))), (q 87, .inr (5, fSale (fun k => q (87 + k))))] H := hP
      have hD : va_D A [(q 5, .inr (1, fHall (fun k => q (5 + k)))), (q 6, .inr (10, fThings (fun k => q (6 + k)))), (q 21, .inr (0, fBuyers (fun k => q (21 + k)))), (q 87, .inr (5, fSale (fun k => q (87 + k))))] := hD
      subst hw16
      exact hc_ret Sx hr hlocks dd_X11_takings_26 hS () (Or.inr ⟨by omega, rfl⟩) p_nil d_nil
  · have hl17 : Int32.toInt 0 = 0 := rfl
    have hl18 : Int32.toInt 12 = 12 := rfl
    subst ehw2
    refine lv_if_eq (tgt := 20) hx hb dd_X11_takings_7 (by decide) (fun _ => ?_) (fun c => absurd c (by decide))
    refine lv_aload_n hx hb dd_X11_takings_20 rfl (lv_at hl 0 rfl) ?_
    refine lv_bipush (v := (-2)) hx hb dd_X11_takings_21 (by decide) ?_
    refine hk_i (wr := [(q 5, .inr (1, fHall (fun k => q (5 + k)))), (q 6, .inr (10, fThings (fun k => q (6 + k)))), (q 21, .inr (0, fBuyers (fun k => q (21 + k)))), (q 87, .inr (5, fSale (fun k => q (87 + k))))]) (c1 := 0) (s1 := 0) [0, 1] [2, 3, 4, 5] (hc_V [.int (-2)] [] [0, 1] Sx hl.1 ws_X_63 md_X11_refuse (c_refuse_2 l D cy q) ⟨Nat.le_of_ble_eq_true rfl, Nat.le_of_ble_eq_true rfl⟩ hP hD rfl (by decide) hK nx_b (nx_w hX) (va_recv hK hP (ci := 11) (q0 := 0) rfl rfl) rfl rfl (Nat.le_of_ble_eq_true rfl) dd_X11_takings_23 ⟨Nat.le_of_ble_eq_true rfl, Nat.le_of_ble_eq_true rfl⟩) hS hA hP hD rfl rfl (by decide) (by decide) rfl rfl (fun r19 u20 H locs hw21 hP hD hS => ?_)
    have hP : va_P D cls [(q 5, .inr (1, fHall (fun k => q (5 + k)))), (q 6, .inr (10, fThings (fun k => q (6 + k)))), (q 21, .inr (0, fBuyers (fun k => q (21 + k)))), (q 87, .inr (5, fSale (fun k => q (87 + k))))] H := hP
    have hD : va_D A [(q 5, .inr (1, fHall (fun k => q (5 + k)))), (q 6, .inr (10, fThings (fun k => q (6 + k)))), (q 21, .inr (0, fBuyers (fun k => q (21 + k)))), (q 87, .inr (5, fSale (fun k => q (87 + k))))] := hD
    subst hw21
    exact hc_ret Sx hr hlocks dd_X11_takings_26 hS () (Or.inr ⟨by omega, rfl⟩) p_nil d_nil
set_option maxHeartbeats 4000000 in
set_option maxRecDepth 100000 in
theorem c_X_judge (l : Launch) (D : va_G) (cy : Nat → ClassId) (q : Nat → Nat) (sf : Int32) : HC l my_X11_judge mb_X11_judge 4 ((some .int)) (rmD 4 0 0) D (TY cy) [.ref (q 0), .int sf] NX [(q 0, .inr (11, fX q)), (q 1, .inl (cy 4, 8, .inr (.inr (.inr (.inr (shv q)))))), (q 2, .inl (cy 0, 5, .inl (fun _ => 0))), (q 97, .inr (7, fShelf (fun k => q (97 + k)))), (q 98, .inl (cy 2, 40, .inr (.inl (fun _ => 0)))), (q 99, .inr (7, fShelf (fun k => q (99 + k)))), (q 100, .inl (cy 2, 40, .inr (.inl (fun _ => 0)))), (q 101, .inr (7, fShelf (fun k => q (101 + k)))), (q 102, .inl (cy 2, 40, .inr (.inl (fun _ => 0)))), (q 103, .inr (7, fShelf (fun k => q (103 + k)))), (q 104, .inl (cy 2, 40, .inr (.inl (fun _ => 0)))), (q 105, .inr (7, fShelf (fun k => q (105 + k)))), (q 106, .inl (cy 2, 40, .inr (.inl (fun _ => 0)))), (q 107, .inr (7, fShelf (fun k => q (107 + k)))), (q 108, .inl (cy 2, 40, .inr (.inl (fun _ => 0)))), (q 109, .inr (7, fShelf (fun k => q (109 + k)))), (q 110, .inl (cy 2, 40, .inr (.inl (fun _ => 0)))), (q 111, .inr (7, fShelf (fun k => q (111 + k)))), (q 112, .inl (cy 2, 40, .inr (.inl (fun _ => 0))))] (QI (S := Unit) D (fun r _ => if2 (0 ≤ sf.toInt ∧ sf.toInt ≤ 7) (-4) (-2) r) (fun _ => [])) := by
  refine hc_intro (by decide) (Nat.le_of_ble_eq_true rfl) (fun p e s m below meth c A ls Sx hr hlocks hin hl hP hD hK hS hA hX => ?_)
  have hx := Sx.1
  have hb := Sx.2.1
  have hl : lv_has ls 4 [(0, .ref (q 0)), (1, .int sf)] := hl
  have hP : va_P D cls [(q 0, .inr (11, fX q)), (q 1, .inl (cy 4, 8, .inr (.inr (.inr (.inr (shv q)))))), (q 2, .inl (cy 0, 5, .inl (fun _ => 0))), (q 97, .inr (7, fShelf (fun k => q (97 + k)))), (q 98, .inl (cy 2, 40, .inr (.inl (fun _ => 0)))), (q 99, .inr (7, fShelf (fun k => q (99 + k)))), (q 100, .inl (cy 2, 40, .inr (.inl (fun _ => 0)))), (q 101, .inr (7, fShelf (fun k => q (101 + k)))), (q 102, .inl (cy 2, 40, .inr (.inl (fun _ => 0)))), (q 103, .inr (7, fShelf (fun k => q (103 + k)))), (q 104, .inl (cy 2, 40, .inr (.inl (fun _ => 0)))), (q 105, .inr (7, fShelf (fun k => q (105 + k)))), (q 106, .inl (cy 2, 40, .inr (.inl (fun _ => 0)))), (q 107, .inr (7, fShelf (fun k => q (107 + k)))), (q 108, .inl (cy 2, 40, .inr (.inl (fun _ => 0)))), (q 109, .inr (7, fShelf (fun k => q (109 + k)))), (q 110, .inl (cy 2, 40, .inr (.inl (fun _ => 0)))), (q 111, .inr (7, fShelf (fun k => q (111 + k)))), (q 112, .inl (cy 2, 40, .inr (.inl (fun _ => 0))))] s.heap := hP
  have hD : va_D A [(q 0, .inr (11, fX q)), (q 1, .inl (cy 4, 8, .inr (.inr (.inr (.inr (shv q)))))), (q 2, .inl (cy 0, 5, .inl (fun _ => 0))), (q 97, .inr (7, fShelf (fun k => q (97 + k)))), (q 98, .inl (cy 2, 40, .inr (.inl (fun _ => 0)))), (q 99, .inr (7, fShelf (fun k => q (99 + k)))), (q 100, .inl (cy 2, 40, .inr (.inl (fun _ => 0)))), (q 101, .inr (7, fShelf (fun k => q (101 + k)))), (q 102, .inl (cy 2, 40, .inr (.inl (fun _ => 0)))), (q 103, .inr (7, fShelf (fun k => q (103 + k)))), (q 104, .inl (cy 2, 40, .inr (.inl (fun _ => 0)))), (q 105, .inr (7, fShelf (fun k => q (105 + k)))), (q 106, .inl (cy 2, 40, .inr (.inl (fun _ => 0)))), (q 107, .inr (7, fShelf (fun k => q (107 + k)))), (q 108, .inl (cy 2, 40, .inr (.inl (fun _ => 0)))), (q 109, .inr (7, fShelf (fun k => q (109 + k)))), (q 110, .inl (cy 2, 40, .inr (.inl (fun _ => 0)))), (q 111, .inr (7, fShelf (fun k => q (111 + k)))), (q 112, .inl (cy 2, 40, .inr (.inl (fun _ => 0))))] := hD
  refine lv_aload_n hx hb dd_X11_judge_0 rfl (lv_at hl 0 rfl) ?_
  refine lv_iload_n hx hb dd_X11_judge_1 rfl (lv_at hl 1 rfl) ?_
  refine pk_i (pc_V [.int sf] [] Sx hl.1 ws_X_71 md_X11_refusalOfRow (c_refusalOfRow l D cy q sf) ⟨rfl, rfl⟩ ⟨Nat.le_of_ble_eq_true rfl, Nat.le_of_ble_eq_true rfl⟩ (hP.sub [0, 1, 3, 4, 5, 6, 7, 8, 9, 10, 11, 12, 13, 14, 15, 16, 17, 18] rfl) hK ns_b (ns_w hX) (va_recv hK hP (ci := 11) (q0 := 0) rfl rfl) rfl rfl (Nat.le_of_ble_eq_true rfl) dd_X11_judge_2 ⟨Nat.le_of_ble_eq_true rfl, Nat.le_of_ble_eq_true rfl⟩) (fun r1 hw2 => ?_)
  rcases hw2 with ⟨hw2, ehw2⟩ | ⟨hw2, ehw2⟩
  · subst ehw2
    refine lv_istore_n (lv' := [(2, .int (-4)), (0, .ref (q 0)), (1, .int sf)]) hx hb dd_X11_judge_5 rfl hl (by decide) rfl (fun ls hl => ?_)
    refine lv_iload_n hx hb dd_X11_judge_6 rfl (lv_at hl 0 rfl) ?_
    refine lv_if_eq (tgt := 16) hx hb dd_X11_judge_7 (by decide) (fun c => absurd c (by decide)) (fun _ => ?_)
    refine lv_aload_n hx hb dd_X11_judge_10 rfl (lv_at hl 1 rfl) ?_
    refine lv_iload_n hx hb dd_X11_judge_11 rfl (lv_at hl 0 rfl) ?_
    refine hk_i (wr := [(q 1, .inl (cy 4, 8, .inr (.inr (.inr (.inr (shv q)))))), (q 97, .inr (7, fShelf (fun k => q (97 + k)))), (q 98, .inl (cy 2, 40, .inr (.inl (fun _ => 0)))), (q 99, .inr (7, fShelf (fun k => q (99 + k)))), (q 100, .inl (cy 2, 40, .inr (.inl (fun _ => 0)))), (q 101, .inr (7, fShelf (fun k => q (101 + k)))), (q 102, .inl (cy 2, 40, .inr (.inl (fun _ => 0)))), (q 103, .inr (7, fShelf (fun k => q (103 + k)))), (q 104, .inl (cy 2, 40, .inr (.inl (fun _ => 0)))), (q 105, .inr (7, fShelf (fun k => q (105 + k)))), (q 106, .inl (cy 2, 40, .inr (.inl (fun _ => 0)))), (q 107, .inr (7, fShelf (fun k => q (107 + k)))), (q 108, .inl (cy 2, 40, .inr (.inl (fun _ => 0)))), (q 109, .inr (7, fShelf (fun k => q (109 + k)))), (q 110, .inl (cy 2, 40, .inr (.inl (fun _ => 0)))), (q 111, .inr (7, fShelf (fun k => q (111 + k)))), (q 112, .inl (cy 2, 40, .inr (.inl (fun _ => 0))))]) (c1 := 0) (s1 := 0) [0, 2] [1, 3, 4, 5, 6, 7, 8, 9, 10, 11, 12, 13, 14, 15, 16, 17, 18] (hc_V [.int (-4)] [] [0, 2] Sx hl.1 ws_X_63 md_X11_refuse (c_refuse_4 l D cy q) ⟨Nat.le_of_ble_eq_true rfl, Nat.le_of_ble_eq_true rfl⟩ hP hD rfl (by decide) hK nx_b (nx_w hX) (va_recv hK hP (ci := 11) (q0 := 0) rfl rfl) rfl rfl (Nat.le_of_ble_eq_true rfl) dd_X11_judge_12 ⟨Nat.le_of_ble_eq_true rfl, Nat.le_of_ble_eq_true rfl⟩) hS hA hP hD rfl rfl (by decide) (by decide) rfl rfl (fun r3 u4 H locs hw5 hP hD hS => ?_)
    have hP : va_P D cls [(q 1, .inl (cy 4, 8, .inr (.inr (.inr (.inr (shv q)))))), (q 97, .inr (7, fShelf (fun k => q (97 + k)))), (q 98, .inl (cy 2, 40, .inr (.inl (fun _ => 0)))), (q 99, .inr (7, fShelf (fun k => q (99 + k)))), (q 100, .inl (cy 2, 40, .inr (.inl (fun _ => 0)))), (q 101, .inr (7, fShelf (fun k => q (101 + k)))), (q 102, .inl (cy 2, 40, .inr (.inl (fun _ => 0)))), (q 103, .inr (7, fShelf (fun k => q (103 + k)))), (q 104, .inl (cy 2, 40, .inr (.inl (fun _ => 0)))), (q 105, .inr (7, fShelf (fun k => q (105 + k)))), (q 106, .inl (cy 2, 40, .inr (.inl (fun _ => 0)))), (q 107, .inr (7, fShelf (fun k => q (107 + k)))), (q 108, .inl (cy 2, 40, .inr (.inl (fun _ => 0)))), (q 109, .inr (7, fShelf (fun k => q (109 + k)))), (q 110, .inl (cy 2, 40, .inr (.inl (fun _ => 0)))), (q 111, .inr (7, fShelf (fun k => q (111 + k)))), (q 112, .inl (cy 2, 40, .inr (.inl (fun _ => 0))))] H := hP
    have hD : va_D A [(q 1, .inl (cy 4, 8, .inr (.inr (.inr (.inr (shv q)))))), (q 97, .inr (7, fShelf (fun k => q (97 + k)))), (q 98, .inl (cy 2, 40, .inr (.inl (fun _ => 0)))), (q 99, .inr (7, fShelf (fun k => q (99 + k)))), (q 100, .inl (cy 2, 40, .inr (.inl (fun _ => 0)))), (q 101, .inr (7, fShelf (fun k => q (101 + k)))), (q 102, .inl (cy 2, 40, .inr (.inl (fun _ => 0)))), (q 103, .inr (7, fShelf (fun k => q (103 + k)))), (q 104, .inl (cy 2, 40, .inr (.inl (fun _ => 0)))), (q 105, .inr (7, fShelf (fun k => q (105 + k)))), (q 106, .inl (cy 2, 40, .inr (.inl (fun _ => 0)))), (q 107, .inr (7, fShelf (fun k => q (107 + k)))), (q 108, .inl (cy 2, 40, .inr (.inl (fun _ => 0)))), (q 109, .inr (7, fShelf (fun k => q (109 + k)))), (q 110, .inl (cy 2, 40, .inr (.inl (fun _ => 0)))), (q 111, .inr (7, fShelf (fun k => q (111 + k)))), (q 112, .inl (cy 2, 40, .inr (.inl (fun _ => 0))))] := hD
    subst hw5
    exact hc_ret Sx hr hlocks dd_X11_judge_15 hS () (Or.inl ⟨by omega, rfl⟩) p_nil d_nil
  · subst ehw2
    refine lv_istore_n (lv' := [(2, .int (-2)), (0, .ref (q 0)), (1, .int sf)]) hx hb dd_X11_judge_5 rfl hl (by decide) rfl (fun ls hl => ?_)
    refine lv_iload_n hx hb dd_X11_judge_6 rfl (lv_at hl 0 rfl) ?_
    refine lv_if_eq (tgt := 16) hx hb dd_X11_judge_7 (by decide) (fun c => absurd c (by decide)) (fun _ => ?_)
    refine lv_aload_n hx hb dd_X11_judge_10 rfl (lv_at hl 1 rfl) ?_
    refine lv_iload_n hx hb dd_X11_judge_11 rfl (lv_at hl 0 rfl) ?_
    refine hk_i (wr := [(q 1, .inl (cy 4, 8, .inr (.inr (.inr (.inr (shv q)))))), (q 97, .inr (7, fShelf (fun k => q (97 + k)))), (q 98, .inl (cy 2, 40, .inr (.inl (fun _ => 0)))), (q 99, .inr (7, fShelf (fun k => q (99 + k)))), (q 100, .inl (cy 2, 40, .inr (.inl (fun _ => 0)))), (q 101, .inr (7, fShelf (fun k => q (101 + k)))), (q 102, .inl (cy 2, 40, .inr (.inl (fun _ => 0)))), (q 103, .inr (7, fShelf (fun k => q (103 + k)))), (q 104, .inl (cy 2, 40, .inr (.inl (fun _ => 0)))), (q 105, .inr (7, fShelf (fun k => q (105 + k)))), (q 106, .inl (cy 2, 40, .inr (.inl (fun _ => 0)))), (q 107, .inr (7, fShelf (fun k => q (107 + k)))), (q 108, .inl (cy 2, 40, .inr (.inl (fun _ => 0)))), (q 109, .inr (7, fShelf (fun k => q (109 + k)))), (q 110, .inl (cy 2, 40, .inr (.inl (fun _ => 0)))), (q 111, .inr (7, fShelf (fun k => q (111 + k)))), (q 112, .inl (cy 2, 40, .inr (.inl (fun _ => 0))))]) (c1 := 0) (s1 := 0) [0, 2] [1, 3, 4, 5, 6, 7, 8, 9, 10, 11, 12, 13, 14, 15, 16, 17, 18] (hc_V [.int (-2)] [] [0, 2] Sx hl.1 ws_X_63 md_X11_refuse (c_refuse_2 l D cy q) ⟨Nat.le_of_ble_eq_true rfl, Nat.le_of_ble_eq_true rfl⟩ hP hD rfl (by decide) hK nx_b (nx_w hX) (va_recv hK hP (ci := 11) (q0 := 0) rfl rfl) rfl rfl (Nat.le_of_ble_eq_true rfl) dd_X11_judge_12 ⟨Nat.le_of_ble_eq_true rfl, Nat.le_of_ble_eq_true rfl⟩) hS hA hP hD rfl rfl (by decide) (by decide) rfl rfl (fun r6 u7 H locs hw8 hP hD hS => ?_)
    have hP : va_P D cls [(q 1, .inl (cy 4, 8, .inr (.inr (.inr (.inr (shv q)))))), (q 97, .inr (7, fShelf (fun k => q (97 + k)))), (q 98, .inl (cy 2, 40, .inr (.inl (fun _ => 0)))), (q 99, .inr (7, fShelf (fun k => q (99 + k)))), (q 100, .inl (cy 2, 40, .inr (.inl (fun _ => 0)))), (q 101, .inr (7, fShelf (fun k => q (101 + k)))), (q 102, .inl (cy 2, 40, .inr (.inl (fun _ => 0)))), (q 103, .inr (7, fShelf (fun k => q (103 + k)))), (q 104, .inl (cy 2, 40, .inr (.inl (fun _ => 0)))), (q 105, .inr (7, fShelf (fun k => q (105 + k)))), (q 106, .inl (cy 2, 40, .inr (.inl (fun _ => 0)))), (q 107, .inr (7, fShelf (fun k => q (107 + k)))), (q 108, .inl (cy 2, 40, .inr (.inl (fun _ => 0)))), (q 109, .inr (7, fShelf (fun k => q (109 + k)))), (q 110, .inl (cy 2, 40, .inr (.inl (fun _ => 0)))), (q 111, .inr (7, fShelf (fun k => q (111 + k)))), (q 112, .inl (cy 2, 40, .inr (.inl (fun _ => 0))))] H := hP
    have hD : va_D A [(q 1, .inl (cy 4, 8, .inr (.inr (.inr (.inr (shv q)))))), (q 97, .inr (7, fShelf (fun k => q (97 + k)))), (q 98, .inl (cy 2, 40, .inr (.inl (fun _ => 0)))), (q 99, .inr (7, fShelf (fun k => q (99 + k)))), (q 100, .inl (cy 2, 40, .inr (.inl (fun _ => 0)))), (q 101, .inr (7, fShelf (fun k => q (101 + k)))), (q 102, .inl (cy 2, 40, .inr (.inl (fun _ => 0)))), (q 103, .inr (7, fShelf (fun k => q (103 + k)))), (q 104, .inl (cy 2, 40, .inr (.inl (fun _ => 0)))), (q 105, .inr (7, fShelf (fun k => q (105 + k)))), (q 106, .inl (cy 2, 40, .inr (.inl (fun _ => 0)))), (q 107, .inr (7, fShelf (fun k => q (107 + k)))), (q 108, .inl (cy 2, 40, .inr (.inl (fun _ => 0)))), (q 109, .inr (7, fShelf (fun k => q (109 + k)))), (q 110, .inl (cy 2, 40, .inr (.inl (fun _ => 0)))), (q 111, .inr (7, fShelf (fun k => q (111 + k)))), (q 112, .inl (cy 2, 40, .inr (.inl (fun _ => 0))))] := hD
    subst hw8
    exact hc_ret Sx hr hlocks dd_X11_judge_15 hS () (Or.inr ⟨by omega, rfl⟩) p_nil d_nil
set_option maxHeartbeats 4000000 in
set_option maxRecDepth 100000 in
theorem c_X_rest (l : Launch) (D : va_G) (cy : Nat → ClassId) (q : Nat → Nat) (ki : Int32) : HC l my_X11_rest mb_X11_rest 2 ((some .int)) (rmD 3 0 0) D (TY cy) [.ref (q 0), .int ki] NX [(q 0, .inr (11, fX q)), (q 2, .inl (cy 0, 5, .inl (fun _ => 0))), (q 5, .inr (1, fHall (fun k => q (5 + k)))), (q 6, .inr (10, fThings (fun k => q (6 + k))))] (QI (S := Unit) D (fun r _ => if2 ((-1) ≤ ki.toInt ∧ ki.toInt ≤ 5) 0 (-2) r) (fun _ => [])) := by
  refine hc_intro (by decide) (Nat.le_of_ble_eq_true rfl) (fun p e s m below meth c A ls Sx hr hlocks hin hl hP hD hK hS hA hX => ?_)
  have hx := Sx.1
  have hb := Sx.2.1
  have hl : lv_has ls 2 [(0, .ref (q 0)), (1, .int ki)] := hl
  have hP : va_P D cls [(q 0, .inr (11, fX q)), (q 2, .inl (cy 0, 5, .inl (fun _ => 0))), (q 5, .inr (1, fHall (fun k => q (5 + k)))), (q 6, .inr (10, fThings (fun k => q (6 + k))))] s.heap := hP
  have hD : va_D A [(q 0, .inr (11, fX q)), (q 2, .inl (cy 0, 5, .inl (fun _ => 0))), (q 5, .inr (1, fHall (fun k => q (5 + k)))), (q 6, .inr (10, fThings (fun k => q (6 + k))))] := hD
  refine lv_iload_n hx hb dd_X11_rest_0 rfl (lv_at hl 1 rfl) ?_
  refine lv_iconst (v := (-1)) hx hb dd_X11_rest_1 (by decide) ?_
  refine lv_icmp_eq (tgt := 19) hx hb dd_X11_rest_2 (by decide) (fun c1 => ?_) (fun c1 => ?_)
  · have fc1 := ci_eq (a := ki.toInt) (b := (-1)) rfl rfl c1
    refine lv_aload_n hx hb dd_X11_rest_19 rfl (lv_at hl 0 rfl) ?_
    refine wk_get (v := .ref (q 5)) Sx ef_11 hK hP 0 rfl rfl 3 (by decide) kk_385 rfl dd_X11_rest_20 ?_
    refine wk_get (v := .ref (q 6)) Sx ef_1 hK hP 2 rfl rfl 0 (by decide) kk_260 rfl dd_X11_rest_23 ?_
    refine lv_iload_n hx hb dd_X11_rest_26 rfl (lv_at hl 1 rfl) ?_
    refine lv_iconst (v := (-1)) hx hb dd_X11_rest_27 (by decide) ?_
    refine lv_icmp_ne (tgt := 36) hx hb dd_X11_rest_28 (by decide) (fun c2 => ?_) (fun c2 => ?_)
    · have fc2 := ci_ne (a := ki.toInt) (b := (-1)) rfl rfl c2
      exfalso; omega
    · have fc2 := ci_eq (a := ki.toInt) (b := (-1)) rfl rfl c2
      refine lv_bipush (v := 63) hx hb dd_X11_rest_31 (by decide) ?_
      refine lv_goto (tgt := 39) hx hb dd_X11_rest_33 (by decide) ?_
      refine pk_i (pc_V [.int 63] [] Sx hl.1 ws_X_276 md_X10_worthLeft (c_worthLeft l D cy (fun k => q (6 + k)) 63) ⟨rfl, rfl⟩ ⟨Nat.le_of_ble_eq_true rfl, Nat.le_of_ble_eq_true rfl⟩ (hP.sub [3] rfl) hK ns_b (ns_w hX) (va_recv hK hP (ci := 10) (q0 := 3) rfl rfl) rfl rfl (Nat.le_of_ble_eq_true rfl) dd_X11_rest_39 ⟨Nat.le_of_ble_eq_true rfl, Nat.le_of_ble_eq_true rfl⟩) (fun r3 hw4 => ?_)
      subst hw4
      exact hc_ret Sx hr hlocks dd_X11_rest_42 hS () (Or.inl ⟨by omega, rfl⟩) p_nil d_nil
  · have fc1 := ci_ne (a := ki.toInt) (b := (-1)) rfl rfl c1
    refine lv_iload_n hx hb dd_X11_rest_5 rfl (lv_at hl 1 rfl) ?_
    refine pk_i (pc_T [.int ki] [] Sx hl.1 ws_X_122 md_X11_isKind (c_isKind l D cy ki) ⟨rfl, rfl⟩ ⟨Nat.le_of_ble_eq_true rfl, Nat.le_of_ble_eq_true rfl⟩ p_nil hK ns_b (ns_w hX) rfl rfl (Nat.le_of_ble_eq_true rfl) dd_X11_rest_6 ⟨Nat.le_of_ble_eq_true rfl, Nat.le_of_ble_eq_true rfl⟩) (fun r5 hw6 => ?_)
    rcases hw6 with ⟨hw6, ehw6⟩ | ⟨hw6, ehw6⟩
    · subst ehw6
      refine lv_if_ne (tgt := 19) hx hb dd_X11_rest_9 (by decide) (fun _ => ?_) (fun c => absurd c (by decide))
      refine lv_aload_n hx hb dd_X11_rest_19 rfl (lv_at hl 0 rfl) ?_
      refine wk_get (v := .ref (q 5)) Sx ef_11 hK hP 0 rfl rfl 3 (by decide) kk_385 rfl dd_X11_rest_20 ?_
      refine wk_get (v := .ref (q 6)) Sx ef_1 hK hP 2 rfl rfl 0 (by decide) kk_260 rfl dd_X11_rest_23 ?_
      refine lv_iload_n hx hb dd_X11_rest_26 rfl (lv_at hl 1 rfl) ?_
      refine lv_iconst (v := (-1)) hx hb dd_X11_rest_27 (by decide) ?_
      refine lv_icmp_ne (tgt := 36) hx hb dd_X11_rest_28 (by decide) (fun c7 => ?_) (fun c7 => ?_)
      · have fc7 := ci_ne (a := ki.toInt) (b := (-1)) rfl rfl c7
        refine lv_iconst (v := 1) hx hb dd_X11_rest_36 (by decide) ?_
        refine lv_iload_n hx hb dd_X11_rest_37 rfl (lv_at hl 1 rfl) ?_
        refine lv_ishl hx hb dd_X11_rest_38 ?_
        refine lv_topi (fun z8 ez8 => ?_)
        refine pk_i (pc_V [.int z8] [] Sx hl.1 ws_X_276 md_X10_worthLeft (c_worthLeft l D cy (fun k => q (6 + k)) z8) ⟨rfl, rfl⟩ ⟨Nat.le_of_ble_eq_true rfl, Nat.le_of_ble_eq_true rfl⟩ (hP.sub [3] rfl) hK ns_b (ns_w hX) (va_recv hK hP (ci := 10) (q0 := 3) rfl rfl) rfl rfl (Nat.le_of_ble_eq_true rfl) dd_X11_rest_39 ⟨Nat.le_of_ble_eq_true rfl, Nat.le_of_ble_eq_true rfl⟩) (fun r9 hw10 => ?_)
        subst hw10
        exact hc_ret Sx hr hlocks dd_X11_rest_42 hS () (Or.inl ⟨by omega, rfl⟩) p_nil d_nil
      · have fc7 := ci_eq (a := ki.toInt) (b := (-1)) rfl rfl c7
        exfalso; omega
    · subst ehw6
      refine lv_if_ne (tgt := 19) hx hb dd_X11_rest_9 (by decide) (fun c => absurd c (by decide)) (fun _ => ?_)
      refine lv_aload_n hx hb dd_X11_rest_12 rfl (lv_at hl 0 rfl) ?_
      refine lv_bipush (v := (-2)) hx hb dd_X11_rest_13 (by decide) ?_
      refine hk_i (wr := [(q 5, .inr (1, fHall (fun k => q (5 + k)))), (q 6, .inr (10, fThings (fun k => q (6 + k))))]) (c1 := 0) (s1 := 0) [0, 1] [2, 3] (hc_V [.int (-2)] [] [0, 1] Sx hl.1 ws_X_63 md_X11_refuse (c_refuse_2 l D cy q) ⟨Nat.le_of_ble_eq_true rfl, Nat.le_of_ble_eq_true rfl⟩ hP hD rfl (by decide) hK nx_b (nx_w hX) (va_recv hK hP (ci := 11) (q0 := 0) rfl rfl) rfl rfl (Nat.le_of_ble_eq_true rfl) dd_X11_rest_15 ⟨Nat.le_of_ble_eq_true rfl, Nat.le_of_ble_eq_true rfl⟩) hS hA hP hD rfl rfl (by decide) (by decide) rfl rfl (fun r11 u12 H locs hw13 hP hD hS => ?_)
      have hP : va_P D cls [(q 5, .inr (1, fHall (fun k => q (5 + k)))), (q 6, .inr (10, fThings (fun k => q (6 + k))))] H := hP
      have hD : va_D A [(q 5, .inr (1, fHall (fun k => q (5 + k)))), (q 6, .inr (10, fThings (fun k => q (6 + k))))] := hD
      subst hw13
      exact hc_ret Sx hr hlocks dd_X11_rest_18 hS () (Or.inr ⟨by omega, rfl⟩) p_nil d_nil
set_option maxHeartbeats 4000000 in
set_option maxRecDepth 100000 in
theorem c_X_day (l : Launch) (D : va_G) (cy : Nat → ClassId) (q : Nat → Nat) (wh : Int32) : HC l my_X11_day mb_X11_day 2 ((some .int)) (rmD 3 0 0) D (TY cy) [.ref (q 0), .int wh] NX [(q 0, .inr (11, fX q)), (q 2, .inl (cy 0, 5, .inl (fun _ => 0))), (q 5, .inr (1, fHall (fun k => q (5 + k)))), (q 6, .inr (10, fThings (fun k => q (6 + k))))] (QI (S := Unit) D (fun r _ => if2 (0 ≤ wh.toInt ∧ wh.toInt ≤ 3) 0 (-2) r) (fun _ => [])) := by
  refine hc_intro (by decide) (Nat.le_of_ble_eq_true rfl) (fun p e s m below meth c A ls Sx hr hlocks hin hl hP hD hK hS hA hX => ?_)
  have hx := Sx.1
  have hb := Sx.2.1
  have hl : lv_has ls 2 [(0, .ref (q 0)), (1, .int wh)] := hl
  have hP : va_P D cls [(q 0, .inr (11, fX q)), (q 2, .inl (cy 0, 5, .inl (fun _ => 0))), (q 5, .inr (1, fHall (fun k => q (5 + k)))), (q 6, .inr (10, fThings (fun k => q (6 + k))))] s.heap := hP
  have hD : va_D A [(q 0, .inr (11, fX q)), (q 2, .inl (cy 0, 5, .inl (fun _ => 0))), (q 5, .inr (1, fHall (fun k => q (5 + k)))), (q 6, .inr (10, fThings (fun k => q (6 + k))))] := hD
  refine lv_iload_n hx hb dd_X11_day_0 rfl (lv_at hl 1 rfl) ?_
  by_cases hs1 : wh.toInt < 0 ∨ 3 < wh.toInt
  · refine lv_tableOut (tgt := 81) hx hb dd_X11_day_1 hs1 (by decide) ?_
    refine lv_aload_n hx hb dd_X11_day_81 rfl (lv_at hl 0 rfl) ?_
    refine lv_bipush (v := (-2)) hx hb dd_X11_day_82 (by decide) ?_
    refine hk_i (wr := [(q 5, .inr (1, fHall (fun k => q (5 + k)))), (q 6, .inr (10, fThings (fun k => q (6 + k))))]) (c1 := 0) (s1 := 0) [0, 1] [2, 3] (hc_V [.int (-2)] [] [0, 1] Sx hl.1 ws_X_63 md_X11_refuse (c_refuse_2 l D cy q) ⟨Nat.le_of_ble_eq_true rfl, Nat.le_of_ble_eq_true rfl⟩ hP hD rfl (by decide) hK nx_b (nx_w hX) (va_recv hK hP (ci := 11) (q0 := 0) rfl rfl) rfl rfl (Nat.le_of_ble_eq_true rfl) dd_X11_day_84 ⟨Nat.le_of_ble_eq_true rfl, Nat.le_of_ble_eq_true rfl⟩) hS hA hP hD rfl rfl (by decide) (by decide) rfl rfl (fun r2 u3 H locs hw4 hP hD hS => ?_)
    have hP : va_P D cls [(q 5, .inr (1, fHall (fun k => q (5 + k)))), (q 6, .inr (10, fThings (fun k => q (6 + k))))] H := hP
    have hD : va_D A [(q 5, .inr (1, fHall (fun k => q (5 + k)))), (q 6, .inr (10, fThings (fun k => q (6 + k))))] := hD
    subst hw4
    exact hc_ret Sx hr hlocks dd_X11_day_87 hS () (Or.inr ⟨by omega, rfl⟩) p_nil d_nil
  · rcases (show wh.toInt = 0 ∨ wh.toInt = 1 ∨ wh.toInt = 2 ∨ wh.toInt = 3 by omega) with hv5 | hv5 | hv5 | hv5
    · obtain rfl : wh = 0 := ci_of rfl hv5
      refine lv_tableIn (off := 31) (tgt := 32) hx hb dd_X11_day_1 (by decide) (by decide) rfl (by decide) ?_
      refine lv_aload_n hx hb dd_X11_day_32 rfl (lv_at hl 0 rfl) ?_
      refine wk_get (v := .ref (q 5)) Sx ef_11 hK hP 0 rfl rfl 3 (by decide) kk_385 rfl dd_X11_day_33 ?_
      refine wk_get (v := .int 0) Sx ef_1 hK hP 2 rfl rfl 10 (by decide) kk_281 rfl dd_X11_day_36 ?_
      have htwh : (0 : Int32).toInt = 0 := rfl
      exact hc_ret Sx hr hlocks dd_X11_day_39 hS () (Or.inl ⟨by omega, rfl⟩) p_nil d_nil
    · obtain rfl : wh = 1 := ci_of rfl hv5
      refine lv_tableIn (off := 39) (tgt := 40) hx hb dd_X11_day_1 (by decide) (by decide) rfl (by decide) ?_
      refine lv_aload_n hx hb dd_X11_day_40 rfl (lv_at hl 0 rfl) ?_
      refine wk_get (v := .ref (q 5)) Sx ef_11 hK hP 0 rfl rfl 3 (by decide) kk_385 rfl dd_X11_day_41 ?_
      refine wk_get (v := .int 0) Sx ef_1 hK hP 2 rfl rfl 11 (by decide) kk_283 rfl dd_X11_day_44 ?_
      have htwh : (1 : Int32).toInt = 1 := rfl
      exact hc_ret Sx hr hlocks dd_X11_day_47 hS () (Or.inl ⟨by omega, rfl⟩) p_nil d_nil
    · obtain rfl : wh = 2 := ci_of rfl hv5
      refine lv_tableIn (off := 47) (tgt := 48) hx hb dd_X11_day_1 (by decide) (by decide) rfl (by decide) ?_
      refine lv_aload_n hx hb dd_X11_day_48 rfl (lv_at hl 0 rfl) ?_
      refine wk_get (v := .ref (q 5)) Sx ef_11 hK hP 0 rfl rfl 3 (by decide) kk_385 rfl dd_X11_day_49 ?_
      refine wk_get (v := .ref (q 6)) Sx ef_1 hK hP 2 rfl rfl 0 (by decide) kk_260 rfl dd_X11_day_52 ?_
      refine wk_get (v := .int 0) Sx ef_10 hK hP 3 rfl rfl 6 (by decide) kk_90 rfl dd_X11_day_55 ?_
      refine lv_aload_n hx hb dd_X11_day_58 rfl (lv_at hl 0 rfl) ?_
      refine wk_get (v := .ref (q 5)) Sx ef_11 hK hP 0 rfl rfl 3 (by decide) kk_385 rfl dd_X11_day_59 ?_
      refine wk_get (v := .ref (q 6)) Sx ef_1 hK hP 2 rfl rfl 0 (by decide) kk_260 rfl dd_X11_day_62 ?_
      refine pk_i (pc_V [] [.int 0] Sx hl.1 ws_X_296 md_X10_countLeft (c_countLeft l D cy (fun k => q (6 + k))) ⟨rfl, rfl⟩ ⟨Nat.le_of_ble_eq_true rfl, Nat.le_of_ble_eq_true rfl⟩ (hP.sub [3] rfl) hK ns_b (ns_w hX) (va_recv hK hP (ci := 10) (q0 := 3) rfl rfl) rfl rfl (Nat.le_of_ble_eq_true rfl) dd_X11_day_65 ⟨Nat.le_of_ble_eq_true rfl, Nat.le_of_ble_eq_true rfl⟩) (fun r6 hw7 => ?_)
      subst hw7
      refine lv_isub hx hb dd_X11_day_68 ?_
      refine wk_int (v := 0) (by decide) ?_
      have htwh : (2 : Int32).toInt = 2 := rfl
      exact hc_ret Sx hr hlocks dd_X11_day_69 hS () (Or.inl ⟨by omega, rfl⟩) p_nil d_nil
    · obtain rfl : wh = 3 := ci_of rfl hv5
      refine lv_tableIn (off := 69) (tgt := 70) hx hb dd_X11_day_1 (by decide) (by decide) rfl (by decide) ?_
      refine lv_aload_n hx hb dd_X11_day_70 rfl (lv_at hl 0 rfl) ?_
      refine wk_get (v := .ref (q 5)) Sx ef_11 hK hP 0 rfl rfl 3 (by decide) kk_385 rfl dd_X11_day_71 ?_
      refine wk_get (v := .ref (q 6)) Sx ef_1 hK hP 2 rfl rfl 0 (by decide) kk_260 rfl dd_X11_day_74 ?_
      refine pk_i (pc_V [] [] Sx hl.1 ws_X_296 md_X10_countLeft (c_countLeft l D cy (fun k => q (6 + k))) ⟨rfl, rfl⟩ ⟨Nat.le_of_ble_eq_true rfl, Nat.le_of_ble_eq_true rfl⟩ (hP.sub [3] rfl) hK ns_b (ns_w hX) (va_recv hK hP (ci := 10) (q0 := 3) rfl rfl) rfl rfl (Nat.le_of_ble_eq_true rfl) dd_X11_day_77 ⟨Nat.le_of_ble_eq_true rfl, Nat.le_of_ble_eq_true rfl⟩) (fun r8 hw9 => ?_)
      subst hw9
      have htwh : (3 : Int32).toInt = 3 := rfl
      exact hc_ret Sx hr hlocks dd_X11_day_80 hS () (Or.inl ⟨by omega, rfl⟩) p_nil d_nil
set_option maxHeartbeats 4000000 in
set_option maxRecDepth 100000 in
theorem c_X_morning (l : Launch) (D : va_G) (cy : Nat → ClassId) (q : Nat → Nat) : HC l my_X11_morning mb_X11_morning 2 ((some .int)) (rmD 1 0 0) D (TY cy) [.ref (q 0)] NX [(q 0, .inr (11, fX q)), (q 5, .inr (1, fHall (fun k => q (5 + k))))] (QI (S := Unit) D (fun r _ => r = 0) (fun _ => [])) := by
  refine hc_intro (by decide) (Nat.le_of_ble_eq_true rfl) (fun p e s m below meth c A ls Sx hr hlocks hin hl hP hD hK hS hA hX => ?_)
  have hx := Sx.1
  have hb := Sx.2.1
  have hl : lv_has ls 2 [(0, .ref (q 0))] := hl
  have hP : va_P D cls [(q 0, .inr (11, fX q)), (q 5, .inr (1, fHall (fun k => q (5 + k))))] s.heap := hP
  have hD : va_D A [(q 0, .inr (11, fX q)), (q 5, .inr (1, fHall (fun k => q (5 + k))))] := hD
  refine lv_aload_n hx hb dd_X11_morning_0 rfl (lv_at hl 0 rfl) ?_
  refine wk_get (v := .ref (q 5)) Sx ef_11 hK hP 0 rfl rfl 3 (by decide) kk_385 rfl dd_X11_morning_1 ?_
  refine wk_get (v := .int 0) Sx ef_1 hK hP 1 rfl rfl 10 (by decide) kk_281 rfl dd_X11_morning_4 ?_
  refine lv_istore_n (lv' := [(1, .int 0), (0, .ref (q 0))]) hx hb dd_X11_morning_7 rfl hl (by decide) rfl (fun ls hl => ?_)
  refine lv_aload_n hx hb dd_X11_morning_8 rfl (lv_at hl 1 rfl) ?_
  refine wk_get (v := .ref (q 5)) Sx ef_11 hK hP 0 rfl rfl 3 (by decide) kk_385 rfl dd_X11_morning_9 ?_
  refine lv_iconst (v := 0) hx hb dd_X11_morning_12 (by decide) ?_
  refine wk_put (ws' := [(q 0, .inr (11, fX q)), (q 5, .inr (1, fHall (fun k => q (5 + k))))]) Sx ef_1 hK hP hD hS 1 rfl rfl 10 (by decide) kk_281 rfl rfl rfl (Nat.le_of_ble_eq_true rfl) dd_X11_morning_13 rfl (fun H locs hP hD hS => ?_)
  refine lv_aload_n hx hb dd_X11_morning_16 rfl (lv_at hl 1 rfl) ?_
  refine wk_get (v := .ref (q 5)) Sx ef_11 hK hP 0 rfl rfl 3 (by decide) kk_385 rfl dd_X11_morning_17 ?_
  refine lv_iconst (v := 0) hx hb dd_X11_morning_20 (by decide) ?_
  refine wk_put (ws' := [(q 0, .inr (11, fX q)), (q 5, .inr (1, fHall (fun k => q (5 + k))))]) Sx ef_1 hK hP hD hS 1 rfl rfl 11 (by decide) kk_283 rfl rfl rfl (Nat.le_of_ble_eq_true rfl) dd_X11_morning_21 rfl (fun H locs hP hD hS => ?_)
  refine lv_iload_n hx hb dd_X11_morning_24 rfl (lv_at hl 0 rfl) ?_
  exact hc_ret Sx hr hlocks dd_X11_morning_25 hS () rfl p_nil d_nil
set_option maxHeartbeats 4000000 in
set_option maxRecDepth 100000 in
theorem c_X_table (l : Launch) (D : va_G) (cy : Nat → ClassId) (q : Nat → Nat) (ks : Int32) : HC l my_X11_table mb_X11_table 2 ((some .int)) (rmD 3 0 0) D (TY cy) [.ref (q 0), .int ks] NX [(q 0, .inr (11, fX q)), (q 2, .inl (cy 0, 5, .inl (fun _ => 0))), (q 5, .inr (1, fHall (fun k => q (5 + k)))), (q 43, .inl (cy 0, 5, .inl (fun _ => 0)))] (QI (S := Unit) D (fun r _ => if2 (0 ≤ ks.toInt ∧ ks.toInt ≤ 63) 0 (-2) r) (fun _ => [])) := by
  refine hc_intro (by decide) (Nat.le_of_ble_eq_true rfl) (fun p e s m below meth c A ls Sx hr hlocks hin hl hP hD hK hS hA hX => ?_)
  have hx := Sx.1
  have hb := Sx.2.1
  have hl : lv_has ls 2 [(0, .ref (q 0)), (1, .int ks)] := hl
  have hP : va_P D cls [(q 0, .inr (11, fX q)), (q 2, .inl (cy 0, 5, .inl (fun _ => 0))), (q 5, .inr (1, fHall (fun k => q (5 + k)))), (q 43, .inl (cy 0, 5, .inl (fun _ => 0)))] s.heap := hP
  have hD : va_D A [(q 0, .inr (11, fX q)), (q 2, .inl (cy 0, 5, .inl (fun _ => 0))), (q 5, .inr (1, fHall (fun k => q (5 + k)))), (q 43, .inl (cy 0, 5, .inl (fun _ => 0)))] := hD
  refine lv_iload_n hx hb dd_X11_table_0 rfl (lv_at hl 1 rfl) ?_
  refine pk_i (pc_T [.int ks] [] Sx hl.1 ws_X_165 md_X11_isKinds (c_isKinds l D cy ks) ⟨rfl, rfl⟩ ⟨Nat.le_of_ble_eq_true rfl, Nat.le_of_ble_eq_true rfl⟩ p_nil hK ns_b (ns_w hX) rfl rfl (Nat.le_of_ble_eq_true rfl) dd_X11_table_1 ⟨Nat.le_of_ble_eq_true rfl, Nat.le_of_ble_eq_true rfl⟩) (fun r1 hw2 => ?_)
  rcases hw2 with ⟨hw2, ehw2⟩ | ⟨hw2, ehw2⟩
  · subst ehw2
    refine lv_if_ne (tgt := 14) hx hb dd_X11_table_4 (by decide) (fun _ => ?_) (fun c => absurd c (by decide))
    refine lv_aload_n hx hb dd_X11_table_14 rfl (lv_at hl 0 rfl) ?_
    refine wk_get (v := .ref (q 5)) Sx ef_11 hK hP 0 rfl rfl 3 (by decide) kk_385 rfl dd_X11_table_15 ?_
    refine wk_get (v := .int 0) Sx ef_1 hK hP 2 rfl rfl 7 (by decide) kk_275 rfl dd_X11_table_18 ?_
    refine lv_iconst (v := 5) hx hb dd_X11_table_21 (by decide) ?_
    refine lv_icmp_lt (tgt := 32) hx hb dd_X11_table_22 (by decide) (fun _ => ?_) (fun c => absurd c (by decide))
    refine lv_aload_n hx hb dd_X11_table_32 rfl (lv_at hl 0 rfl) ?_
    refine wk_get (v := .ref (q 5)) Sx ef_11 hK hP 0 rfl rfl 3 (by decide) kk_385 rfl dd_X11_table_33 ?_
    refine wk_get (v := .ref (q 43)) Sx ef_1 hK hP 2 rfl rfl 6 (by decide) kk_273 rfl dd_X11_table_36 ?_
    refine lv_aload_n hx hb dd_X11_table_39 rfl (lv_at hl 0 rfl) ?_
    refine wk_get (v := .ref (q 5)) Sx ef_11 hK hP 0 rfl rfl 3 (by decide) kk_385 rfl dd_X11_table_40 ?_
    refine wk_get (v := .int 0) Sx ef_1 hK hP 2 rfl rfl 7 (by decide) kk_275 rfl dd_X11_table_43 ?_
    refine lv_iload_n hx hb dd_X11_table_46 rfl (lv_at hl 1 rfl) ?_
    refine wk_iast (ws' := [(q 0, .inr (11, fX q)), (q 2, .inl (cy 0, 5, .inl (fun _ => 0))), (q 5, .inr (1, fHall (fun k => q (5 + k)))), (q 43, .inl (cy 0, 5, .inl (upd (fun _ => 0) (0 : Int32).toNatClampNeg ks)))]) Sx hK hP hD hS 3 0 rfl rfl (vi_of (by decide)) dd_X11_table_47 rfl (fun H locs hP hD hS => ?_)
    refine lv_aload_n hx hb dd_X11_table_48 rfl (lv_at hl 0 rfl) ?_
    refine wk_get (v := .ref (q 5)) Sx ef_11 hK hP 0 rfl rfl 3 (by decide) kk_385 rfl dd_X11_table_49 ?_
    refine lv_dup hx hb dd_X11_table_52 rfl ?_
    refine wk_get (v := .int 0) Sx ef_1 hK hP 2 rfl rfl 7 (by decide) kk_275 rfl dd_X11_table_53 ?_
    refine lv_iconst (v := 1) hx hb dd_X11_table_56 (by decide) ?_
    refine lv_iadd hx hb dd_X11_table_57 ?_
    refine wk_int (v := 1) (by decide) ?_
    refine wk_put (ws' := [(q 0, .inr (11, fX q)), (q 2, .inl (cy 0, 5, .inl (fun _ => 0))), (q 5, .inr (1, (fHall (fun k => q (5 + k))).set 7 (.int 1))), (q 43, .inl (cy 0, 5, .inl (upd (fun _ => 0) (0 : Int32).toNatClampNeg ks)))]) Sx ef_1 hK hP hD hS 2 rfl rfl 7 (by decide) kk_275 rfl rfl rfl (Nat.le_of_ble_eq_true rfl) dd_X11_table_58 rfl (fun H locs hP hD hS => ?_)
    refine lv_aload_n hx hb dd_X11_table_61 rfl (lv_at hl 0 rfl) ?_
    refine wk_get (v := .ref (q 5)) Sx ef_11 hK hP 0 rfl rfl 3 (by decide) kk_385 rfl dd_X11_table_62 ?_
    refine wk_get (v := .int 1) Sx ef_1 hK hP 2 rfl rfl 7 (by decide) kk_275 rfl dd_X11_table_65 ?_
    refine lv_iconst (v := 1) hx hb dd_X11_table_68 (by decide) ?_
    refine lv_isub hx hb dd_X11_table_69 ?_
    refine wk_int (v := 0) (by decide) ?_
    exact hc_ret Sx hr hlocks dd_X11_table_70 hS () (Or.inl ⟨by omega, rfl⟩) p_nil d_nil
  · subst ehw2
    refine lv_if_ne (tgt := 14) hx hb dd_X11_table_4 (by decide) (fun c => absurd c (by decide)) (fun _ => ?_)
    refine lv_aload_n hx hb dd_X11_table_7 rfl (lv_at hl 0 rfl) ?_
    refine lv_bipush (v := (-2)) hx hb dd_X11_table_8 (by decide) ?_
    refine hk_i (wr := [(q 5, .inr (1, fHall (fun k => q (5 + k)))), (q 43, .inl (cy 0, 5, .inl (fun _ => 0)))]) (c1 := 0) (s1 := 0) [0, 1] [2, 3] (hc_V [.int (-2)] [] [0, 1] Sx hl.1 ws_X_63 md_X11_refuse (c_refuse_2 l D cy q) ⟨Nat.le_of_ble_eq_true rfl, Nat.le_of_ble_eq_true rfl⟩ hP hD rfl (by decide) hK nx_b (nx_w hX) (va_recv hK hP (ci := 11) (q0 := 0) rfl rfl) rfl rfl (Nat.le_of_ble_eq_true rfl) dd_X11_table_10 ⟨Nat.le_of_ble_eq_true rfl, Nat.le_of_ble_eq_true rfl⟩) hS hA hP hD rfl rfl (by decide) (by decide) rfl rfl (fun r3 u4 H locs hw5 hP hD hS => ?_)
    have hP : va_P D cls [(q 5, .inr (1, fHall (fun k => q (5 + k)))), (q 43, .inl (cy 0, 5, .inl (fun _ => 0)))] H := hP
    have hD : va_D A [(q 5, .inr (1, fHall (fun k => q (5 + k)))), (q 43, .inl (cy 0, 5, .inl (fun _ => 0)))] := hD
    subst hw5
    exact hc_ret Sx hr hlocks dd_X11_table_13 hS () (Or.inr ⟨by omega, rfl⟩) p_nil d_nil
set_option maxHeartbeats 4000000 in
set_option maxRecDepth 100000 in
theorem c_X_who (l : Launch) (D : va_G) (cy : Nat → ClassId) (q : Nat → Nat) (wh : Int32) : HC l my_X11_who mb_X11_who 2 ((some .int)) (rmD 3 0 0) D (TY cy) [.ref (q 0), .int wh] NX [(q 0, .inr (11, fX q)), (q 2, .inl (cy 0, 5, .inl (fun _ => 0))), (q 5, .inr (1, fHall (fun k => q (5 + k)))), (q 14, .inr (2, fLadies (fun k => q (14 + k)))), (q 45, .inl (cy 0, 32, .inl (fun _ => 0)))] (QI (S := Unit) D (fun r _ => if2 ((-1) ≤ wh.toInt ∧ wh.toInt ≤ (-1)) 0 (-2) r) (fun _ => [])) := by
  refine hc_intro (by decide) (Nat.le_of_ble_eq_true rfl) (fun p e s m below meth c A ls Sx hr hlocks hin hl hP hD hK hS hA hX => ?_)
  have hx := Sx.1
  have hb := Sx.2.1
  have hl : lv_has ls 2 [(0, .ref (q 0)), (1, .int wh)] := hl
  have hP : va_P D cls [(q 0, .inr (11, fX q)), (q 2, .inl (cy 0, 5, .inl (fun _ => 0))), (q 5, .inr (1, fHall (fun k => q (5 + k)))), (q 14, .inr (2, fLadies (fun k => q (14 + k)))), (q 45, .inl (cy 0, 32, .inl (fun _ => 0)))] s.heap := hP
  have hD : va_D A [(q 0, .inr (11, fX q)), (q 2, .inl (cy 0, 5, .inl (fun _ => 0))), (q 5, .inr (1, fHall (fun k => q (5 + k)))), (q 14, .inr (2, fLadies (fun k => q (14 + k)))), (q 45, .inl (cy 0, 32, .inl (fun _ => 0)))] := hD
  refine lv_iload_n hx hb dd_X11_who_0 rfl (lv_at hl 1 rfl) ?_
  refine lv_iconst (v := (-1)) hx hb dd_X11_who_1 (by decide) ?_
  refine lv_icmp_eq (tgt := 29) hx hb dd_X11_who_2 (by decide) (fun c1 => ?_) (fun c1 => ?_)
  · have fc1 := ci_eq (a := wh.toInt) (b := (-1)) rfl rfl c1
    refine lv_aload_n hx hb dd_X11_who_29 rfl (lv_at hl 0 rfl) ?_
    refine wk_get (v := .ref (q 5)) Sx ef_11 hK hP 0 rfl rfl 3 (by decide) kk_385 rfl dd_X11_who_30 ?_
    refine wk_get (v := .int 0) Sx ef_1 hK hP 2 rfl rfl 7 (by decide) kk_275 rfl dd_X11_who_33 ?_
    refine lv_aload_n hx hb dd_X11_who_36 rfl (lv_at hl 0 rfl) ?_
    refine wk_get (v := .ref (q 5)) Sx ef_11 hK hP 0 rfl rfl 3 (by decide) kk_385 rfl dd_X11_who_37 ?_
    refine wk_get (v := .ref (q 14)) Sx ef_1 hK hP 2 rfl rfl 1 (by decide) kk_262 rfl dd_X11_who_40 ?_
    refine wk_get (v := .int 0) Sx ef_2 hK hP 3 rfl rfl 3 (by decide) kk_125 rfl dd_X11_who_43 ?_
    refine lv_icmp_le (tgt := 56) hx hb dd_X11_who_46 (by decide) (fun _ => ?_) (fun c => absurd c (by decide))
    refine lv_aload_n hx hb dd_X11_who_56 rfl (lv_at hl 0 rfl) ?_
    refine wk_get (v := .ref (q 5)) Sx ef_11 hK hP 0 rfl rfl 3 (by decide) kk_385 rfl dd_X11_who_57 ?_
    refine hk_v (wr := [(q 0, .inr (11, fX q)), (q 2, .inl (cy 0, 5, .inl (fun _ => 0)))]) (c1 := 0) (s1 := 0) [2, 3, 4] [0, 1] (hc_V [] [] [2, 3, 4] Sx hl.1 ws_X_309 md_X1_planTables (c_planTables l D cy (fun k => q (5 + k))) ⟨Nat.le_of_ble_eq_true rfl, Nat.le_of_ble_eq_true rfl⟩ hP hD rfl (by decide) hK nx_b (nx_w hX) (va_recv hK hP (ci := 1) (q0 := 2) rfl rfl) rfl rfl (Nat.le_of_ble_eq_true rfl) dd_X11_who_60 ⟨Nat.le_of_ble_eq_true rfl, Nat.le_of_ble_eq_true rfl⟩) hS hA hP hD rfl rfl (by decide) (by decide) rfl rfl (fun u3 H locs hw4 hP hD hS => ?_)
    have hP : va_P D cls [(q 0, .inr (11, fX q)), (q 2, .inl (cy 0, 5, .inl (fun _ => 0))), (q 5, .inr (1, fHall (fun k => q (5 + k)))), (q 14, .inr (2, fLadies (fun k => (fun k => q (5 + k)) (9 + k)))), (q 45, .inl (cy 0, 32, .inl (fun _ => 0)))] H := hP
    have hD : va_D A [(q 0, .inr (11, fX q)), (q 2, .inl (cy 0, 5, .inl (fun _ => 0))), (q 5, .inr (1, fHall (fun k => q (5 + k)))), (q 14, .inr (2, fLadies (fun k => (fun k => q (5 + k)) (9 + k)))), (q 45, .inl (cy 0, 32, .inl (fun _ => 0)))] := hD
    refine lv_iload_n hx hb dd_X11_who_63 rfl (lv_at hl 1 rfl) ?_
    refine lv_iconst (v := (-1)) hx hb dd_X11_who_64 (by decide) ?_
    refine lv_icmp_ne (tgt := 80) hx hb dd_X11_who_65 (by decide) (fun c5 => ?_) (fun c5 => ?_)
    · have fc5 := ci_ne (a := wh.toInt) (b := (-1)) rfl rfl c5
      exfalso; omega
    · have fc5 := ci_eq (a := wh.toInt) (b := (-1)) rfl rfl c5
      refine lv_aload_n hx hb dd_X11_who_68 rfl (lv_at hl 0 rfl) ?_
      refine wk_get (v := .ref (q 5)) Sx ef_11 hK hP 0 rfl rfl 3 (by decide) kk_385 rfl dd_X11_who_69 ?_
      refine wk_get (v := .ref (q 45)) Sx ef_1 hK hP 2 rfl rfl 13 (by decide) kk_286 rfl dd_X11_who_72 ?_
      refine lv_iconst (v := 0) hx hb dd_X11_who_75 (by decide) ?_
      have hi6 : vp_in 0 32 := (vi_of (by decide))
      refine va_iald hx hb hK hP 4 0 rfl rfl hi6 dd_X11_who_76 ?_
      refine wk_int (v := 0) rfl ?_
      refine lv_goto (tgt := 88) hx hb dd_X11_who_77 (by decide) ?_
      exact hc_ret Sx hr hlocks dd_X11_who_88 hS () (Or.inl ⟨by omega, rfl⟩) p_nil d_nil
  · have fc1 := ci_ne (a := wh.toInt) (b := (-1)) rfl rfl c1
    refine lv_iload_n hx hb dd_X11_who_5 rfl (lv_at hl 1 rfl) ?_
    refine lv_iconst (v := 0) hx hb dd_X11_who_6 (by decide) ?_
    refine lv_aload_n hx hb dd_X11_who_7 rfl (lv_at hl 0 rfl) ?_
    refine wk_get (v := .ref (q 5)) Sx ef_11 hK hP 0 rfl rfl 3 (by decide) kk_385 rfl dd_X11_who_8 ?_
    refine wk_get (v := .int 0) Sx ef_1 hK hP 2 rfl rfl 7 (by decide) kk_275 rfl dd_X11_who_11 ?_
    refine lv_iconst (v := 1) hx hb dd_X11_who_14 (by decide) ?_
    refine lv_isub hx hb dd_X11_who_15 ?_
    refine wk_int (v := (-1)) (by decide) ?_
    refine pk_i (pc_T [.int wh, .int 0, .int (-1)] [] Sx hl.1 ws_X_59 md_X11_within (c_within l D cy wh 0 (-1)) ⟨rfl, rfl⟩ ⟨Nat.le_of_ble_eq_true rfl, Nat.le_of_ble_eq_true rfl⟩ p_nil hK ns_b (ns_w hX) rfl rfl (Nat.le_of_ble_eq_true rfl) dd_X11_who_16 ⟨Nat.le_of_ble_eq_true rfl, Nat.le_of_ble_eq_true rfl⟩) (fun r7 hw8 => ?_)
    rcases hw8 with ⟨hw8, ehw8⟩ | ⟨hw8, ehw8⟩
    · have hl9 : Int32.toInt (-1) = (-1) := rfl
      have hl10 : Int32.toInt 0 = 0 := rfl
      exfalso; omega
    · have hl11 : Int32.toInt (-1) = (-1) := rfl
      have hl12 : Int32.toInt 0 = 0 := rfl
      subst ehw8
      refine lv_if_ne (tgt := 29) hx hb dd_X11_who_19 (by decide) (fun c => absurd c (by decide)) (fun _ => ?_)
      refine lv_aload_n hx hb dd_X11_who_22 rfl (lv_at hl 0 rfl) ?_
      refine lv_bipush (v := (-2)) hx hb dd_X11_who_23 (by decide) ?_
      refine hk_i (wr := [(q 5, .inr (1, fHall (fun k => q (5 + k)))), (q 14, .inr (2, fLadies (fun k => q (14 + k)))), (q 45, .inl (cy 0, 32, .inl (fun _ => 0)))]) (c1 := 0) (s1 := 0) [0, 1] [2, 3, 4] (hc_V [.int (-2)] [] [0, 1] Sx hl.1 ws_X_63 md_X11_refuse (c_refuse_2 l D cy q) ⟨Nat.le_of_ble_eq_true rfl, Nat.le_of_ble_eq_true rfl⟩ hP hD rfl (by decide) hK nx_b (nx_w hX) (va_recv hK hP (ci := 11) (q0 := 0) rfl rfl) rfl rfl (Nat.le_of_ble_eq_true rfl) dd_X11_who_25 ⟨Nat.le_of_ble_eq_true rfl, Nat.le_of_ble_eq_true rfl⟩) hS hA hP hD rfl rfl (by decide) (by decide) rfl rfl (fun r13 u14 H locs hw15 hP hD hS => ?_)
      have hP : va_P D cls [(q 5, .inr (1, fHall (fun k => q (5 + k)))), (q 14, .inr (2, fLadies (fun k => q (14 + k)))), (q 45, .inl (cy 0, 32, .inl (fun _ => 0)))] H := hP
      have hD : va_D A [(q 5, .inr (1, fHall (fun k => q (5 + k)))), (q 14, .inr (2, fLadies (fun k => q (14 + k)))), (q 45, .inl (cy 0, 32, .inl (fun _ => 0)))] := hD
      subst hw15
      exact hc_ret Sx hr hlocks dd_X11_who_28 hS () (Or.inr ⟨by omega, rfl⟩) p_nil d_nil
set_option maxHeartbeats 4000000 in
set_option maxRecDepth 100000 in
theorem c_X_sight (l : Launch) (D : va_G) (cy : Nat → ClassId) (q : Nat → Nat) (ye : Int32) (ch : Int32) (ga : Int32) (bo : Int32) : HC l my_X11_sight mb_X11_sight 5 ((some .int)) (rmD 4 0 0) D (TY cy) [.ref (q 0), .int ye, .int ch, .int ga, .int bo] NX [(q 0, .inr (11, fX q)), (q 2, .inl (cy 0, 5, .inl (fun _ => 0))), (q 5, .inr (1, fHall (fun k => q (5 + k)))), (q 27, .inr (8, fSightings (fun k => q (27 + k)))), (q 28, .inl (cy 0, 20, .inl (fun _ => 0))), (q 29, .inl (cy 0, 20, .inl (fun _ => 0))), (q 30, .inl (cy 0, 20, .inl (fun _ => 0))), (q 31, .inl (cy 0, 20, .inl (fun _ => 0))), (q 32, .inl (cy 0, 20, .inl (fun _ => 0))), (q 33, .inl (cy 0, 20, .inl (fun _ => 0))), (q 34, .inl (cy 0, 20, .inl (fun _ => 0)))] (QI (S := Unit) D (fun r _ => if2 (0 ≤ ye.toInt ∧ ye.toInt ≤ 99 ∧ 0 ≤ ch.toInt ∧ ch.toInt ≤ 255 ∧ (-1) ≤ ga.toInt ∧ ga.toInt ≤ 15 ∧ (-1) ≤ bo.toInt ∧ bo.toInt ≤ 15) 0 (-2) r) (fun _ => [])) := by
  refine hc_intro (by decide) (Nat.le_of_ble_eq_true rfl) (fun p e s m below meth c A ls Sx hr hlocks hin hl hP hD hK hS hA hX => ?_)
  have hx := Sx.1
  have hb := Sx.2.1
  have hl : lv_has ls 5 [(0, .ref (q 0)), (1, .int ye), (2, .int ch), (3, .int ga), (4, .int bo)] := hl
  have hP : va_P D cls [(q 0, .inr (11, fX q)), (q 2, .inl (cy 0, 5, .inl (fun _ => 0))), (q 5, .inr (1, fHall (fun k => q (5 + k)))), (q 27, .inr (8, fSightings (fun k => q (27 + k)))), (q 28, .inl (cy 0, 20, .inl (fun _ => 0))), (q 29, .inl (cy 0, 20, .inl (fun _ => 0))), (q 30, .inl (cy 0, 20, .inl (fun _ => 0))), (q 31, .inl (cy 0, 20, .inl (fun _ => 0))), (q 32, .inl (cy 0, 20, .inl (fun _ => 0))), (q 33, .inl (cy 0, 20, .inl (fun _ => 0))), (q 34, .inl (cy 0, 20, .inl (fun _ => 0)))] s.heap := hP
  have hD : va_D A [(q 0, .inr (11, fX q)), (q 2, .inl (cy 0, 5, .inl (fun _ => 0))), (q 5, .inr (1, fHall (fun k => q (5 + k)))), (q 27, .inr (8, fSightings (fun k => q (27 + k)))), (q 28, .inl (cy 0, 20, .inl (fun _ => 0))), (q 29, .inl (cy 0, 20, .inl (fun _ => 0))), (q 30, .inl (cy 0, 20, .inl (fun _ => 0))), (q 31, .inl (cy 0, 20, .inl (fun _ => 0))), (q 32, .inl (cy 0, 20, .inl (fun _ => 0))), (q 33, .inl (cy 0, 20, .inl (fun _ => 0))), (q 34, .inl (cy 0, 20, .inl (fun _ => 0)))] := hD
  refine lv_iload_n hx hb dd_X11_sight_0 rfl (lv_at hl 1 rfl) ?_
  refine lv_iconst (v := 0) hx hb dd_X11_sight_1 (by decide) ?_
  refine lv_bipush (v := 99) hx hb dd_X11_sight_2 (by decide) ?_
  refine pk_i (pc_T [.int ye, .int 0, .int 99] [] Sx hl.1 ws_X_59 md_X11_within (c_within l D cy ye 0 99) ⟨rfl, rfl⟩ ⟨Nat.le_of_ble_eq_true rfl, Nat.le_of_ble_eq_true rfl⟩ p_nil hK ns_b (ns_w hX) rfl rfl (Nat.le_of_ble_eq_true rfl) dd_X11_sight_4 ⟨Nat.le_of_ble_eq_true rfl, Nat.le_of_ble_eq_true rfl⟩) (fun r1 hw2 => ?_)
  rcases hw2 with ⟨hw2, ehw2⟩ | ⟨hw2, ehw2⟩
  · have hl3 : Int32.toInt 0 = 0 := rfl
    have hl4 : Int32.toInt 99 = 99 := rfl
    subst ehw2
    refine lv_if_eq (tgt := 36) hx hb dd_X11_sight_7 (by decide) (fun c => absurd c (by decide)) (fun _ => ?_)
    refine lv_iload_n hx hb dd_X11_sight_10 rfl (lv_at hl 2 rfl) ?_
    refine lv_iconst (v := 0) hx hb dd_X11_sight_11 (by decide) ?_
    refine lv_sipush (v := 255) hx hb dd_X11_sight_12 (by decide) ?_
    refine pk_i (pc_T [.int ch, .int 0, .int 255] [] Sx hl.1 ws_X_59 md_X11_within (c_within l D cy ch 0 255) ⟨rfl, rfl⟩ ⟨Nat.le_of_ble_eq_true rfl, Nat.le_of_ble_eq_true rfl⟩ p_nil hK ns_b (ns_w hX) rfl rfl (Nat.le_of_ble_eq_true rfl) dd_X11_sight_15 ⟨Nat.le_of_ble_eq_true rfl, Nat.le_of_ble_eq_true rfl⟩) (fun r5 hw6 => ?_)
    rcases hw6 with ⟨hw6, ehw6⟩ | ⟨hw6, ehw6⟩
    · have hl7 : Int32.toInt 0 = 0 := rfl
      have hl8 : Int32.toInt 255 = 255 := rfl
      subst ehw6
      refine lv_if_eq (tgt := 36) hx hb dd_X11_sight_18 (by decide) (fun c => absurd c (by decide)) (fun _ => ?_)
      refine lv_iload_n hx hb dd_X11_sight_21 rfl (lv_at hl 3 rfl) ?_
      refine pk_i (pc_T [.int ga] [] Sx hl.1 ws_X_318 md_X11_isPersonOrNone (c_isPersonOrNone l D cy ga) ⟨rfl, rfl⟩ ⟨Nat.le_of_ble_eq_true rfl, Nat.le_of_ble_eq_true rfl⟩ p_nil hK ns_b (ns_w hX) rfl rfl (Nat.le_of_ble_eq_true rfl) dd_X11_sight_22 ⟨Nat.le_of_ble_eq_true rfl, Nat.le_of_ble_eq_true rfl⟩) (fun r9 hw10 => ?_)
      rcases hw10 with ⟨hw10, ehw10⟩ | ⟨hw10, ehw10⟩
      · subst ehw10
        refine lv_if_eq (tgt := 36) hx hb dd_X11_sight_25 (by decide) (fun c => absurd c (by decide)) (fun _ => ?_)
        refine lv_iload hx hb dd_X11_sight_28 (lv_at hl 4 rfl) ?_
        refine pk_i (pc_T [.int bo] [] Sx hl.1 ws_X_318 md_X11_isPersonOrNone (c_isPersonOrNone l D cy bo) ⟨rfl, rfl⟩ ⟨Nat.le_of_ble_eq_true rfl, Nat.le_of_ble_eq_true rfl⟩ p_nil hK ns_b (ns_w hX) rfl rfl (Nat.le_of_ble_eq_true rfl) dd_X11_sight_30 ⟨Nat.le_of_ble_eq_true rfl, Nat.le_of_ble_eq_true rfl⟩) (fun r11 hw12 => ?_)
        rcases hw12 with ⟨hw12, ehw12⟩ | ⟨hw12, ehw12⟩
        · subst ehw12
          refine lv_if_ne (tgt := 43) hx hb dd_X11_sight_33 (by decide) (fun _ => ?_) (fun c => absurd c (by decide))
          refine lv_aload_n hx hb dd_X11_sight_43 rfl (lv_at hl 0 rfl) ?_
          refine wk_get (v := .ref (q 5)) Sx ef_11 hK hP 0 rfl rfl 3 (by decide) kk_385 rfl dd_X11_sight_44 ?_
          refine wk_get (v := .ref (q 27)) Sx ef_1 hK hP 2 rfl rfl 4 (by decide) kk_269 rfl dd_X11_sight_47 ?_
          refine wk_get (v := .int 0) Sx ef_8 hK hP 3 rfl rfl 4 (by decide) kk_201 rfl dd_X11_sight_50 ?_
          refine lv_bipush (v := 20) hx hb dd_X11_sight_53 (by decide) ?_
          refine lv_icmp_lt (tgt := 65) hx hb dd_X11_sight_55 (by decide) (fun _ => ?_) (fun c => absurd c (by decide))
          refine lv_aload_n hx hb dd_X11_sight_65 rfl (lv_at hl 0 rfl) ?_
          refine wk_get (v := .ref (q 5)) Sx ef_11 hK hP 0 rfl rfl 3 (by decide) kk_385 rfl dd_X11_sight_66 ?_
          refine wk_get (v := .ref (q 27)) Sx ef_1 hK hP 2 rfl rfl 4 (by decide) kk_269 rfl dd_X11_sight_69 ?_
          refine lv_iload_n hx hb dd_X11_sight_72 rfl (lv_at hl 1 rfl) ?_
          refine lv_iload_n hx hb dd_X11_sight_73 rfl (lv_at hl 2 rfl) ?_
          refine lv_iload_n hx hb dd_X11_sight_74 rfl (lv_at hl 3 rfl) ?_
          refine lv_iload hx hb dd_X11_sight_75 (lv_at hl 4 rfl) ?_
          refine hk_i (wr := [(q 0, .inr (11, fX q)), (q 2, .inl (cy 0, 5, .inl (fun _ => 0))), (q 5, .inr (1, fHall (fun k => q (5 + k))))]) (c1 := 0) (s1 := 0) [3, 4, 5, 6, 7, 8, 9, 10] [0, 1, 2] (hc_V [.int ye, .int ch, .int ga, .int bo] [] [3, 4, 5, 6, 7, 8, 9, 10] Sx hl.1 ws_X_328 md_X8_add (c_Sightings_add l D cy (fun k => q (27 + k)) ye ch ga bo) ⟨Nat.le_of_ble_eq_true rfl, Nat.le_of_ble_eq_true rfl⟩ hP hD rfl (by decide) hK nx_b (nx_w hX) (va_recv hK hP (ci := 8) (q0 := 3) rfl rfl) rfl rfl (Nat.le_of_ble_eq_true rfl) dd_X11_sight_77 ⟨Nat.le_of_ble_eq_true rfl, Nat.le_of_ble_eq_true rfl⟩) hS hA hP hD rfl rfl (by decide) (by decide) rfl rfl (fun r13 u14 H locs hw15 hP hD hS => ?_)
          have hP : va_P D cls [(q 0, .inr (11, fX q)), (q 2, .inl (cy 0, 5, .inl (fun _ => 0))), (q 5, .inr (1, fHall (fun k => q (5 + k))))] H := hP
          have hD : va_D A [(q 0, .inr (11, fX q)), (q 2, .inl (cy 0, 5, .inl (fun _ => 0))), (q 5, .inr (1, fHall (fun k => q (5 + k))))] := hD
          subst hw15
          exact hc_ret Sx hr hlocks dd_X11_sight_80 hS () (Or.inl ⟨by omega, rfl⟩) p_nil d_nil
        · subst ehw12
          refine lv_if_ne (tgt := 43) hx hb dd_X11_sight_33 (by decide) (fun c => absurd c (by decide)) (fun _ => ?_)
          refine lv_aload_n hx hb dd_X11_sight_36 rfl (lv_at hl 0 rfl) ?_
          refine lv_bipush (v := (-2)) hx hb dd_X11_sight_37 (by decide) ?_
          refine hk_i (wr := [(q 5, .inr (1, fHall (fun k => q (5 + k)))), (q 27, .inr (8, fSightings (fun k => q (27 + k)))), (q 28, .inl (cy 0, 20, .inl (fun _ => 0))), (q 29, .inl (cy 0, 20, .inl (fun _ => 0))), (q 30, .inl (cy 0, 20, .inl (fun _ => 0))), (q 31, .inl (cy 0, 20, .inl (fun _ => 0))), (q 32, .inl (cy 0, 20, .inl (fun _ => 0))), (q 33, .inl (cy 0, 20, .inl (fun _ => 0))), (q 34, .inl (cy 0, 20, .inl (fun _ => 0)))]) (c1 := 0) (s1 := 0) [0, 1] [2, 3, 4, 5, 6, 7, 8, 9, 10] (hc_V [.int (-2)] [] [0, 1] Sx hl.1 ws_X_63 md_X11_refuse (c_refuse_2 l D cy q) ⟨Nat.le_of_ble_eq_true rfl, Nat.le_of_ble_eq_true rfl⟩ hP hD rfl (by decide) hK nx_b (nx_w hX) (va_recv hK hP (ci := 11) (q0 := 0) rfl rfl) rfl rfl (Nat.le_of_ble_eq_true rfl) dd_X11_sight_39 ⟨Nat.le_of_ble_eq_true rfl, Nat.le_of_ble_eq_true rfl⟩) hS hA hP hD rfl rfl (by decide) (by decide) rfl rfl (fun r16 u17 H locs hw18 hP hD hS => ?_)
          have hP : va_P D cls [(q 5, .inr (1, fHall (fun k => q (5 + k)))), (q 27, .inr (8, fSightings (fun k => q (27 + k)))), (q 28, .inl (cy 0, 20, .inl (fun _ => 0))), (q 29, .inl (cy 0, 20, .inl (fun _ => 0))), (q 30, .inl (cy 0, 20, .inl (fun _ => 0))), (q 31, .inl (cy 0, 20, .inl (fun _ => 0))), (q 32, .inl (cy 0, 20, .inl (fun _ => 0))), (q 33, .inl (cy 0, 20, .inl (fun _ => 0))), (q 34, .inl (cy 0, 20, .inl (fun _ => 0)))] H := hP
          have hD : va_D A [(q 5, .inr (1, fHall (fun k => q (5 + k)))), (q 27, .inr (8, fSightings (fun k => q (27 + k)))), (q 28, .inl (cy 0, 20, .inl (fun _ => 0))), (q 29, .inl (cy 0, 20, .inl (fun _ => 0))), (q 30, .inl (cy 0, 20, .inl (fun _ => 0))), (q 31, .inl (cy 0, 20, .inl (fun _ => 0))), (q 32, .inl (cy 0, 20, .inl (fun _ => 0))), (q 33, .inl (cy 0, 20, .inl (fun _ => 0))), (q 34, .inl (cy 0, 20, .inl (fun _ => 0)))] := hD
          subst hw18
          exact hc_ret Sx hr hlocks dd_X11_sight_42 hS () (Or.inr ⟨by omega, rfl⟩) p_nil d_nil
      · subst ehw10
        refine lv_if_eq (tgt := 36) hx hb dd_X11_sight_25 (by decide) (fun _ => ?_) (fun c => absurd c (by decide))
        refine lv_aload_n hx hb dd_X11_sight_36 rfl (lv_at hl 0 rfl) ?_
        refine lv_bipush (v := (-2)) hx hb dd_X11_sight_37 (by decide) ?_
        refine hk_i (wr := [(q 5, .inr (1, fHall (fun k => q (5 + k)))), (q 27, .inr (8, fSightings (fun k => q (27 + k)))), (q 28, .inl (cy 0, 20, .inl (fun _ => 0))), (q 29, .inl (cy 0, 20, .inl (fun _ => 0))), (q 30, .inl (cy 0, 20, .inl (fun _ => 0))), (q 31, .inl (cy 0, 20, .inl (fun _ => 0))), (q 32, .inl (cy 0, 20, .inl (fun _ => 0))), (q 33, .inl (cy 0, 20, .inl (fun _ => 0))), (q 34, .inl (cy 0, 20, .inl (fun _ => 0)))]) (c1 := 0) (s1 := 0) [0, 1] [2, 3, 4, 5, 6, 7, 8, 9, 10] (hc_V [.int (-2)] [] [0, 1] Sx hl.1 ws_X_63 md_X11_refuse (c_refuse_2 l D cy q) ⟨Nat.le_of_ble_eq_true rfl, Nat.le_of_ble_eq_true rfl⟩ hP hD rfl (by decide) hK nx_b (nx_w hX) (va_recv hK hP (ci := 11) (q0 := 0) rfl rfl) rfl rfl (Nat.le_of_ble_eq_true rfl) dd_X11_sight_39 ⟨Nat.le_of_ble_eq_true rfl, Nat.le_of_ble_eq_true rfl⟩) hS hA hP hD rfl rfl (by decide) (by decide) rfl rfl (fun r19 u20 H locs hw21 hP hD hS => ?_)
        have hP : va_P D cls [(q 5, .inr (1, fHall (fun k => q (5 + k)))), (q 27, .inr (8, fSightings (fun k => q (27 + k)))), (q 28, .inl (cy 0, 20, .inl (fun _ => 0))), (q 29, .inl (cy 0, 20, .inl (fun _ => 0))), (q 30, .inl (cy 0, 20, .inl (fun _ => 0))), (q 31, .inl (cy 0, 20, .inl (fun _ => 0))), (q 32, .inl (cy 0, 20, .inl (fun _ => 0))), (q 33, .inl (cy 0, 20, .inl (fun _ => 0))), (q 34, .inl (cy 0, 20, .inl (fun _ => 0)))] H := hP
        have hD : va_D A [(q 5, .inr (1, fHall (fun k => q (5 + k)))), (q 27, .inr (8, fSightings (fun k => q (27 + k)))), (q 28, .inl (cy 0, 20, .inl (fun _ => 0))), (q 29, .inl (cy 0, 20, .inl (fun _ => 0))), (q 30, .inl (cy 0, 20, .inl (fun _ => 0))), (q 31, .inl (cy 0, 20, .inl (fun _ => 0))), (q 32, .inl (cy 0, 20, .inl (fun _ => 0))), (q 33, .inl (cy 0, 20, .inl (fun _ => 0))), (q 34, .inl (cy 0, 20, .inl (fun _ => 0)))] := hD
        subst hw21
        exact hc_ret Sx hr hlocks dd_X11_sight_42 hS () (Or.inr ⟨by omega, rfl⟩) p_nil d_nil
    · have hl22 : Int32.toInt 0 = 0 := rfl
      have hl23 : Int32.toInt 255 = 255 := rfl
      subst ehw6
      refine lv_if_eq (tgt := 36) hx hb dd_X11_sight_18 (by decide) (fun _ => ?_) (fun c => absurd c (by decide))
      refine lv_aload_n hx hb dd_X11_sight_36 rfl (lv_at hl 0 rfl) ?_
      refine lv_bipush (v := (-2)) hx hb dd_X11_sight_37 (by decide) ?_
      refine hk_i (wr := [(q 5, .inr (1, fHall (fun k => q (5 + k)))), (q 27, .inr (8, fSightings (fun k => q (27 + k)))), (q 28, .inl (cy 0, 20, .inl (fun _ => 0))), (q 29, .inl (cy 0, 20, .inl (fun _ => 0))), (q 30, .inl (cy 0, 20, .inl (fun _ => 0))), (q 31, .inl (cy 0, 20, .inl (fun _ => 0))), (q 32, .inl (cy 0, 20, .inl (fun _ => 0))), (q 33, .inl (cy 0, 20, .inl (fun _ => 0))), (q 34, .inl (cy 0, 20, .inl (fun _ => 0)))]) (c1 := 0) (s1 := 0) [0, 1] [2, 3, 4, 5, 6, 7, 8, 9, 10] (hc_V [.int (-2)] [] [0, 1] Sx hl.1 ws_X_63 md_X11_refuse (c_refuse_2 l D cy q) ⟨Nat.le_of_ble_eq_true rfl, Nat.le_of_ble_eq_true rfl⟩ hP hD rfl (by decide) hK nx_b (nx_w hX) (va_recv hK hP (ci := 11) (q0 := 0) rfl rfl) rfl rfl (Nat.le_of_ble_eq_true rfl) dd_X11_sight_39 ⟨Nat.le_of_ble_eq_true rfl, Nat.le_of_ble_eq_true rfl⟩) hS hA hP hD rfl rfl (by decide) (by decide) rfl rfl (fun r24 u25 H locs hw26 hP hD hS => ?_)
      have hP : va_P D cls [(q 5, .inr (1, fHall (fun k => q (5 + k)))), (q 27, .inr (8, fSightings (fun k => q (27 + k)))), (q 28, .inl (cy 0, 20, .inl (fun _ => 0))), (q 29, .inl (cy 0, 20, .inl (fun _ => 0))), (q 30, .inl (cy 0, 20, .inl (fun _ => 0))), (q 31, .inl (cy 0, 20, .inl (fun _ => 0))), (q 32, .inl (cy 0, 20, .inl (fun _ => 0))), (q 33, .inl (cy 0, 20, .inl (fun _ => 0))), (q 34, .inl (cy 0, 20, .inl (fun _ => 0)))] H := hP
      have hD : va_D A [(q 5, .inr (1, fHall (fun k => q (5 + k)))), (q 27, .inr (8, fSightings (fun k => q (27 + k)))), (q 28, .inl (cy 0, 20, .inl (fun _ => 0))), (q 29, .inl (cy 0, 20, .inl (fun _ => 0))), (q 30, .inl (cy 0, 20, .inl (fun _ => 0))), (q 31, .inl (cy 0, 20, .inl (fun _ => 0))), (q 32, .inl (cy 0, 20, .inl (fun _ => 0))), (q 33, .inl (cy 0, 20, .inl (fun _ => 0))), (q 34, .inl (cy 0, 20, .inl (fun _ => 0)))] := hD
      subst hw26
      exact hc_ret Sx hr hlocks dd_X11_sight_42 hS () (Or.inr ⟨by omega, rfl⟩) p_nil d_nil
  · have hl27 : Int32.toInt 0 = 0 := rfl
    have hl28 : Int32.toInt 99 = 99 := rfl
    subst ehw2
    refine lv_if_eq (tgt := 36) hx hb dd_X11_sight_7 (by decide) (fun _ => ?_) (fun c => absurd c (by decide))
    refine lv_aload_n hx hb dd_X11_sight_36 rfl (lv_at hl 0 rfl) ?_
    refine lv_bipush (v := (-2)) hx hb dd_X11_sight_37 (by decide) ?_
    refine hk_i (wr := [(q 5, .inr (1, fHall (fun k => q (5 + k)))), (q 27, .inr (8, fSightings (fun k => q (27 + k)))), (q 28, .inl (cy 0, 20, .inl (fun _ => 0))), (q 29, .inl (cy 0, 20, .inl (fun _ => 0))), (q 30, .inl (cy 0, 20, .inl (fun _ => 0))), (q 31, .inl (cy 0, 20, .inl (fun _ => 0))), (q 32, .inl (cy 0, 20, .inl (fun _ => 0))), (q 33, .inl (cy 0, 20, .inl (fun _ => 0))), (q 34, .inl (cy 0, 20, .inl (fun _ => 0)))]) (c1 := 0) (s1 := 0) [0, 1] [2, 3, 4, 5, 6, 7, 8, 9, 10] (hc_V [.int (-2)] [] [0, 1] Sx hl.1 ws_X_63 md_X11_refuse (c_refuse_2 l D cy q) ⟨Nat.le_of_ble_eq_true rfl, Nat.le_of_ble_eq_true rfl⟩ hP hD rfl (by decide) hK nx_b (nx_w hX) (va_recv hK hP (ci := 11) (q0 := 0) rfl rfl) rfl rfl (Nat.le_of_ble_eq_true rfl) dd_X11_sight_39 ⟨Nat.le_of_ble_eq_true rfl, Nat.le_of_ble_eq_true rfl⟩) hS hA hP hD rfl rfl (by decide) (by decide) rfl rfl (fun r29 u30 H locs hw31 hP hD hS => ?_)
    have hP : va_P D cls [(q 5, .inr (1, fHall (fun k => q (5 + k)))), (q 27, .inr (8, fSightings (fun k => q (27 + k)))), (q 28, .inl (cy 0, 20, .inl (fun _ => 0))), (q 29, .inl (cy 0, 20, .inl (fun _ => 0))), (q 30, .inl (cy 0, 20, .inl (fun _ => 0))), (q 31, .inl (cy 0, 20, .inl (fun _ => 0))), (q 32, .inl (cy 0, 20, .inl (fun _ => 0))), (q 33, .inl (cy 0, 20, .inl (fun _ => 0))), (q 34, .inl (cy 0, 20, .inl (fun _ => 0)))] H := hP
    have hD : va_D A [(q 5, .inr (1, fHall (fun k => q (5 + k)))), (q 27, .inr (8, fSightings (fun k => q (27 + k)))), (q 28, .inl (cy 0, 20, .inl (fun _ => 0))), (q 29, .inl (cy 0, 20, .inl (fun _ => 0))), (q 30, .inl (cy 0, 20, .inl (fun _ => 0))), (q 31, .inl (cy 0, 20, .inl (fun _ => 0))), (q 32, .inl (cy 0, 20, .inl (fun _ => 0))), (q 33, .inl (cy 0, 20, .inl (fun _ => 0))), (q 34, .inl (cy 0, 20, .inl (fun _ => 0)))] := hD
    subst hw31
    exact hc_ret Sx hr hlocks dd_X11_sight_42 hS () (Or.inr ⟨by omega, rfl⟩) p_nil d_nil
set_option maxHeartbeats 4000000 in
set_option maxRecDepth 100000 in
theorem c_X_vases (l : Launch) (D : va_G) (cy : Nat → ClassId) (q : Nat → Nat) : HC l my_X11_vases mb_X11_vases 1 ((some .int)) (rmD 3 0 0) D (TY cy) [.ref (q 0)] NX [(q 0, .inr (11, fX q)), (q 5, .inr (1, fHall (fun k => q (5 + k)))), (q 27, .inr (8, fSightings (fun k => q (27 + k)))), (q 28, .inl (cy 0, 20, .inl (fun _ => 0))), (q 29, .inl (cy 0, 20, .inl (fun _ => 0))), (q 30, .inl (cy 0, 20, .inl (fun _ => 0))), (q 31, .inl (cy 0, 20, .inl (fun _ => 0))), (q 32, .inl (cy 0, 20, .inl (fun _ => 0))), (q 33, .inl (cy 0, 20, .inl (fun _ => 0))), (q 34, .inl (cy 0, 20, .inl (fun _ => 0)))] (QI (S := Unit) D (fun r _ => r = 0) (fun _ => [])) := by
  refine hc_intro (by decide) (Nat.le_of_ble_eq_true rfl) (fun p e s m below meth c A ls Sx hr hlocks hin hl hP hD hK hS hA hX => ?_)
  have hx := Sx.1
  have hb := Sx.2.1
  have hl : lv_has ls 1 [(0, .ref (q 0))] := hl
  have hP : va_P D cls [(q 0, .inr (11, fX q)), (q 5, .inr (1, fHall (fun k => q (5 + k)))), (q 27, .inr (8, fSightings (fun k => q (27 + k)))), (q 28, .inl (cy 0, 20, .inl (fun _ => 0))), (q 29, .inl (cy 0, 20, .inl (fun _ => 0))), (q 30, .inl (cy 0, 20, .inl (fun _ => 0))), (q 31, .inl (cy 0, 20, .inl (fun _ => 0))), (q 32, .inl (cy 0, 20, .inl (fun _ => 0))), (q 33, .inl (cy 0, 20, .inl (fun _ => 0))), (q 34, .inl (cy 0, 20, .inl (fun _ => 0)))] s.heap := hP
  have hD : va_D A [(q 0, .inr (11, fX q)), (q 5, .inr (1, fHall (fun k => q (5 + k)))), (q 27, .inr (8, fSightings (fun k => q (27 + k)))), (q 28, .inl (cy 0, 20, .inl (fun _ => 0))), (q 29, .inl (cy 0, 20, .inl (fun _ => 0))), (q 30, .inl (cy 0, 20, .inl (fun _ => 0))), (q 31, .inl (cy 0, 20, .inl (fun _ => 0))), (q 32, .inl (cy 0, 20, .inl (fun _ => 0))), (q 33, .inl (cy 0, 20, .inl (fun _ => 0))), (q 34, .inl (cy 0, 20, .inl (fun _ => 0)))] := hD
  refine lv_aload_n hx hb dd_X11_vases_0 rfl (lv_at hl 0 rfl) ?_
  refine wk_get (v := .ref (q 5)) Sx ef_11 hK hP 0 rfl rfl 3 (by decide) kk_385 rfl dd_X11_vases_1 ?_
  refine wk_get (v := .ref (q 27)) Sx ef_1 hK hP 1 rfl rfl 4 (by decide) kk_269 rfl dd_X11_vases_4 ?_
  refine hk_i (wr := [(q 0, .inr (11, fX q)), (q 5, .inr (1, fHall (fun k => q (5 + k))))]) (c1 := 0) (s1 := 0) [2, 3, 4, 5, 6, 7, 8, 9] [0, 1] (hc_V [] [] [2, 3, 4, 5, 6, 7, 8, 9] Sx hl.1 ws_X_333 md_X8_fewestVases (c_fewestVases l D cy (fun k => q (27 + k))) ⟨Nat.le_of_ble_eq_true rfl, Nat.le_of_ble_eq_true rfl⟩ hP hD rfl (by decide) hK nx_b (nx_w hX) (va_recv hK hP (ci := 8) (q0 := 2) rfl rfl) rfl rfl (Nat.le_of_ble_eq_true rfl) dd_X11_vases_7 ⟨Nat.le_of_ble_eq_true rfl, Nat.le_of_ble_eq_true rfl⟩) hS hA hP hD rfl rfl (by decide) (by decide) rfl rfl (fun r1 u2 H locs hw3 hP hD hS => ?_)
  have hP : va_P D cls [(q 0, .inr (11, fX q)), (q 5, .inr (1, fHall (fun k => q (5 + k))))] H := hP
  have hD : va_D A [(q 0, .inr (11, fX q)), (q 5, .inr (1, fHall (fun k => q (5 + k))))] := hD
  subst hw3
  exact hc_ret Sx hr hlocks dd_X11_vases_10 hS () rfl p_nil d_nil
set_option maxHeartbeats 4000000 in
set_option maxRecDepth 100000 in
theorem c_X_longest (l : Launch) (D : va_G) (cy : Nat → ClassId) (q : Nat → Nat) : PC l my_X11_longest mb_X11_longest 1 ((some .int)) (rmD 2 0 0) D (TY cy) [.ref (q 0)] NS [(q 0, .inr (11, fX q)), (q 5, .inr (1, fHall (fun k => q (5 + k)))), (q 27, .inr (8, fSightings (fun k => q (27 + k))))] (vp_Si (fun r => r = 0)) := by
  refine pc_intro (by decide) (Nat.le_of_ble_eq_true rfl) (fun p e s m below meth c ls Sx hr hlocks hl hP hK hX => ?_)
  have hx := Sx.1
  have hb := Sx.2.1
  have hl : lv_has ls 1 [(0, .ref (q 0))] := hl
  refine lv_aload_n hx hb dd_X11_longest_0 rfl (lv_at hl 0 rfl) ?_
  refine wk_get (v := .ref (q 5)) Sx ef_11 hK hP 0 rfl rfl 3 (by decide) kk_385 rfl dd_X11_longest_1 ?_
  refine wk_get (v := .ref (q 27)) Sx ef_1 hK hP 1 rfl rfl 4 (by decide) kk_269 rfl dd_X11_longest_4 ?_
  refine pk_i (pc_V [] [] Sx hl.1 ws_X_336 md_X8_longestRow (c_longestRow l D cy (fun k => q (27 + k))) ⟨rfl, rfl⟩ ⟨Nat.le_of_ble_eq_true rfl, Nat.le_of_ble_eq_true rfl⟩ (hP.sub [2] rfl) hK ns_b (ns_w hX) (va_recv hK hP (ci := 8) (q0 := 2) rfl rfl) rfl rfl (Nat.le_of_ble_eq_true rfl) dd_X11_longest_7 ⟨Nat.le_of_ble_eq_true rfl, Nat.le_of_ble_eq_true rfl⟩) (fun r1 hw2 => ?_)
  subst hw2
  exact pc_ret Sx hr hlocks rfl dd_X11_longest_10 rfl
set_option maxHeartbeats 4000000 in
set_option maxRecDepth 100000 in
theorem c_X_looks (l : Launch) (D : va_G) (cy : Nat → ClassId) (q : Nat → Nat) (pe : Int32) (ta : Int32) : HC l my_X11_looks mb_X11_looks 4 ((some .int)) (rmD 3 0 0) D (TY cy) [.ref (q 0), .int pe, .int ta] NX [(q 0, .inr (11, fX q)), (q 2, .inl (cy 0, 5, .inl (fun _ => 0))), (q 5, .inr (1, fHall (fun k => q (5 + k)))), (q 35, .inr (6, fSecrets (fun k => q (35 + k)))), (q 38, .inl (cy 0, 16, .inl (fun _ => 0)))] (QI (S := Unit) D (fun r _ => if2 (0 ≤ pe.toInt ∧ pe.toInt ≤ 15 ∧ 0 ≤ ta.toInt ∧ ta.toInt ≤ 31) 0 (-2) r) (fun _ => [])) := by
  refine hc_intro (by decide) (Nat.le_of_ble_eq_true rfl) (fun p e s m below meth c A ls Sx hr hlocks hin hl hP hD hK hS hA hX => ?_)
  have hx := Sx.1
  have hb := Sx.2.1
  have hl : lv_has ls 4 [(0, .ref (q 0)), (1, .int pe), (2, .int ta)] := hl
  have hP : va_P D cls [(q 0, .inr (11, fX q)), (q 2, .inl (cy 0, 5, .inl (fun _ => 0))), (q 5, .inr (1, fHall (fun k => q (5 + k)))), (q 35, .inr (6, fSecrets (fun k => q (35 + k)))), (q 38, .inl (cy 0, 16, .inl (fun _ => 0)))] s.heap := hP
  have hD : va_D A [(q 0, .inr (11, fX q)), (q 2, .inl (cy 0, 5, .inl (fun _ => 0))), (q 5, .inr (1, fHall (fun k => q (5 + k)))), (q 35, .inr (6, fSecrets (fun k => q (35 + k)))), (q 38, .inl (cy 0, 16, .inl (fun _ => 0)))] := hD
  refine lv_iload_n hx hb dd_X11_looks_0 rfl (lv_at hl 1 rfl) ?_
  refine pk_i (pc_T [.int pe] [] Sx hl.1 ws_X_339 md_X11_isPerson (c_isPerson l D cy pe) ⟨rfl, rfl⟩ ⟨Nat.le_of_ble_eq_true rfl, Nat.le_of_ble_eq_true rfl⟩ p_nil hK ns_b (ns_w hX) rfl rfl (Nat.le_of_ble_eq_true rfl) dd_X11_looks_1 ⟨Nat.le_of_ble_eq_true rfl, Nat.le_of_ble_eq_true rfl⟩) (fun r1 hw2 => ?_)
  rcases hw2 with ⟨hw2, ehw2⟩ | ⟨hw2, ehw2⟩
  · subst ehw2
    refine lv_if_eq (tgt := 17) hx hb dd_X11_looks_4 (by decide) (fun c => absurd c (by decide)) (fun _ => ?_)
    refine lv_iload_n hx hb dd_X11_looks_7 rfl (lv_at hl 2 rfl) ?_
    refine lv_iconst (v := 0) hx hb dd_X11_looks_8 (by decide) ?_
    refine lv_bipush (v := 31) hx hb dd_X11_looks_9 (by decide) ?_
    refine pk_i (pc_T [.int ta, .int 0, .int 31] [] Sx hl.1 ws_X_59 md_X11_within (c_within l D cy ta 0 31) ⟨rfl, rfl⟩ ⟨Nat.le_of_ble_eq_true rfl, Nat.le_of_ble_eq_true rfl⟩ p_nil hK ns_b (ns_w hX) rfl rfl (Nat.le_of_ble_eq_true rfl) dd_X11_looks_11 ⟨Nat.le_of_ble_eq_true rfl, Nat.le_of_ble_eq_true rfl⟩) (fun r3 hw4 => ?_)
    rcases hw4 with ⟨hw4, ehw4⟩ | ⟨hw4, ehw4⟩
    · have hl5 : Int32.toInt 0 = 0 := rfl
      have hl6 : Int32.toInt 31 = 31 := rfl
      subst ehw4
      refine lv_if_ne (tgt := 24) hx hb dd_X11_looks_14 (by decide) (fun _ => ?_) (fun c => absurd c (by decide))
      refine lv_aload_n hx hb dd_X11_looks_24 rfl (lv_at hl 0 rfl) ?_
      refine wk_get (v := .ref (q 5)) Sx ef_11 hK hP 0 rfl rfl 3 (by decide) kk_385 rfl dd_X11_looks_25 ?_
      refine wk_get (v := .ref (q 35)) Sx ef_1 hK hP 2 rfl rfl 5 (by decide) kk_271 rfl dd_X11_looks_28 ?_
      refine wk_get (v := .ref (q 38)) Sx ef_6 hK hP 3 rfl rfl 3 (by decide) kk_233 rfl dd_X11_looks_31 ?_
      refine lv_iload_n hx hb dd_X11_looks_34 rfl (lv_at hl 1 rfl) ?_
      have hi7 : vp_in pe 16 := (vi_of (by omega))
      refine va_iald hx hb hK hP 4 0 rfl rfl hi7 dd_X11_looks_35 ?_
      refine wk_int (v := 0) rfl ?_
      refine lv_istore_n (lv' := [(3, .int 0), (0, .ref (q 0)), (1, .int pe), (2, .int ta)]) hx hb dd_X11_looks_36 rfl hl (by decide) rfl (fun ls hl => ?_)
      refine lv_aload_n hx hb dd_X11_looks_37 rfl (lv_at hl 1 rfl) ?_
      refine wk_get (v := .ref (q 5)) Sx ef_11 hK hP 0 rfl rfl 3 (by decide) kk_385 rfl dd_X11_looks_38 ?_
      refine wk_get (v := .ref (q 35)) Sx ef_1 hK hP 2 rfl rfl 5 (by decide) kk_271 rfl dd_X11_looks_41 ?_
      refine wk_get (v := .ref (q 38)) Sx ef_6 hK hP 3 rfl rfl 3 (by decide) kk_233 rfl dd_X11_looks_44 ?_
      refine lv_iload_n hx hb dd_X11_looks_47 rfl (lv_at hl 2 rfl) ?_
      refine lv_iload_n hx hb dd_X11_looks_48 rfl (lv_at hl 3 rfl) ?_
      refine wk_iast (ws' := [(q 0, .inr (11, fX q)), (q 2, .inl (cy 0, 5, .inl (fun _ => 0))), (q 5, .inr (1, fHall (fun k => q (5 + k)))), (q 35, .inr (6, fSecrets (fun k => q (35 + k)))), (q 38, .inl (cy 0, 16, .inl (upd (fun _ => 0) pe.toNatClampNeg ta)))]) Sx hK hP hD hS 4 0 rfl rfl (vi_of (by omega)) dd_X11_looks_49 rfl (fun H locs hP hD hS => ?_)
      refine lv_iload_n hx hb dd_X11_looks_50 rfl (lv_at hl 0 rfl) ?_
      exact hc_ret Sx hr hlocks dd_X11_looks_51 hS () (Or.inl ⟨by omega, rfl⟩) p_nil d_nil
    · have hl8 : Int32.toInt 0 = 0 := rfl
      have hl9 : Int32.toInt 31 = 31 := rfl
      subst ehw4
      refine lv_if_ne (tgt := 24) hx hb dd_X11_looks_14 (by decide) (fun c => absurd c (by decide)) (fun _ => ?_)
      refine lv_aload_n hx hb dd_X11_looks_17 rfl (lv_at hl 0 rfl) ?_
      refine lv_bipush (v := (-2)) hx hb dd_X11_looks_18 (by decide) ?_
      refine hk_i (wr := [(q 5, .inr (1, fHall (fun k => q (5 + k)))), (q 35, .inr (6, fSecrets (fun k => q (35 + k)))), (q 38, .inl (cy 0, 16, .inl (fun _ => 0)))]) (c1 := 0) (s1 := 0) [0, 1] [2, 3, 4] (hc_V [.int (-2)] [] [0, 1] Sx hl.1 ws_X_63 md_X11_refuse (c_refuse_2 l D cy q) ⟨Nat.le_of_ble_eq_true rfl, Nat.le_of_ble_eq_true rfl⟩ hP hD rfl (by decide) hK nx_b (nx_w hX) (va_recv hK hP (ci := 11) (q0 := 0) rfl rfl) rfl rfl (Nat.le_of_ble_eq_true rfl) dd_X11_looks_20 ⟨Nat.le_of_ble_eq_true rfl, Nat.le_of_ble_eq_true rfl⟩) hS hA hP hD rfl rfl (by decide) (by decide) rfl rfl (fun r10 u11 H locs hw12 hP hD hS => ?_)
      have hP : va_P D cls [(q 5, .inr (1, fHall (fun k => q (5 + k)))), (q 35, .inr (6, fSecrets (fun k => q (35 + k)))), (q 38, .inl (cy 0, 16, .inl (fun _ => 0)))] H := hP
      have hD : va_D A [(q 5, .inr (1, fHall (fun k => q (5 + k)))), (q 35, .inr (6, fSecrets (fun k => q (35 + k)))), (q 38, .inl (cy 0, 16, .inl (fun _ => 0)))] := hD
      subst hw12
      exact hc_ret Sx hr hlocks dd_X11_looks_23 hS () (Or.inr ⟨by omega, rfl⟩) p_nil d_nil
  · subst ehw2
    refine lv_if_eq (tgt := 17) hx hb dd_X11_looks_4 (by decide) (fun _ => ?_) (fun c => absurd c (by decide))
    refine lv_aload_n hx hb dd_X11_looks_17 rfl (lv_at hl 0 rfl) ?_
    refine lv_bipush (v := (-2)) hx hb dd_X11_looks_18 (by decide) ?_
    refine hk_i (wr := [(q 5, .inr (1, fHall (fun k => q (5 + k)))), (q 35, .inr (6, fSecrets (fun k => q (35 + k)))), (q 38, .inl (cy 0, 16, .inl (fun _ => 0)))]) (c1 := 0) (s1 := 0) [0, 1] [2, 3, 4] (hc_V [.int (-2)] [] [0, 1] Sx hl.1 ws_X_63 md_X11_refuse (c_refuse_2 l D cy q) ⟨Nat.le_of_ble_eq_true rfl, Nat.le_of_ble_eq_true rfl⟩ hP hD rfl (by decide) hK nx_b (nx_w hX) (va_recv hK hP (ci := 11) (q0 := 0) rfl rfl) rfl rfl (Nat.le_of_ble_eq_true rfl) dd_X11_looks_20 ⟨Nat.le_of_ble_eq_true rfl, Nat.le_of_ble_eq_true rfl⟩) hS hA hP hD rfl rfl (by decide) (by decide) rfl rfl (fun r13 u14 H locs hw15 hP hD hS => ?_)
    have hP : va_P D cls [(q 5, .inr (1, fHall (fun k => q (5 + k)))), (q 35, .inr (6, fSecrets (fun k => q (35 + k)))), (q 38, .inl (cy 0, 16, .inl (fun _ => 0)))] H := hP
    have hD : va_D A [(q 5, .inr (1, fHall (fun k => q (5 + k)))), (q 35, .inr (6, fSecrets (fun k => q (35 + k)))), (q 38, .inl (cy 0, 16, .inl (fun _ => 0)))] := hD
    subst hw15
    exact hc_ret Sx hr hlocks dd_X11_looks_23 hS () (Or.inr ⟨by omega, rfl⟩) p_nil d_nil
set_option maxHeartbeats 4000000 in
set_option maxRecDepth 100000 in
theorem c_X_back (l : Launch) (D : va_G) (cy : Nat → ClassId) (q : Nat → Nat) : HC l my_X11_back mb_X11_back 2 ((some .int)) (rmD 3 0 0) D (TY cy) [.ref (q 0)] NX [(q 0, .inr (11, fX q)), (q 2, .inl (cy 0, 5, .inl (fun _ => 0)))] (QI (S := Unit) D (fun r _ => r = (-5)) (fun _ => [])) := by
  refine hc_intro (by decide) (Nat.le_of_ble_eq_true rfl) (fun p e s m below meth c A ls Sx hr hlocks hin hl hP hD hK hS hA hX => ?_)
  have hx := Sx.1
  have hb := Sx.2.1
  have hl : lv_has ls 2 [(0, .ref (q 0))] := hl
  have hP : va_P D cls [(q 0, .inr (11, fX q)), (q 2, .inl (cy 0, 5, .inl (fun _ => 0)))] s.heap := hP
  have hD : va_D A [(q 0, .inr (11, fX q)), (q 2, .inl (cy 0, 5, .inl (fun _ => 0)))] := hD
  refine lv_aload_n hx hb dd_X11_back_0 rfl (lv_at hl 0 rfl) ?_
  refine wk_get (v := .int 0) Sx ef_11 hK hP 0 rfl rfl 7 (by decide) kk_389 rfl dd_X11_back_1 ?_
  refine lv_if_ne (tgt := 14) hx hb dd_X11_back_4 (by decide) (fun c => absurd c (by decide)) (fun _ => ?_)
  refine lv_aload_n hx hb dd_X11_back_7 rfl (lv_at hl 0 rfl) ?_
  refine lv_bipush (v := (-5)) hx hb dd_X11_back_8 (by decide) ?_
  refine hk_i (wr := []) (c1 := 0) (s1 := 0) [0, 1] [] (hc_V [.int (-5)] [] [0, 1] Sx hl.1 ws_X_63 md_X11_refuse (c_refuse_5 l D cy q) ⟨Nat.le_of_ble_eq_true rfl, Nat.le_of_ble_eq_true rfl⟩ hP hD rfl (by decide) hK nx_b (nx_w hX) (va_recv hK hP (ci := 11) (q0 := 0) rfl rfl) rfl rfl (Nat.le_of_ble_eq_true rfl) dd_X11_back_10 ⟨Nat.le_of_ble_eq_true rfl, Nat.le_of_ble_eq_true rfl⟩) hS hA hP hD rfl rfl (by decide) (by decide) rfl rfl (fun r1 u2 H locs hw3 hP hD hS => ?_)
  have hP : va_P D cls [] H := hP
  have hD : va_D A [] := hD
  subst hw3
  exact hc_ret Sx hr hlocks dd_X11_back_13 hS () rfl p_nil d_nil
set_option maxHeartbeats 4000000 in
set_option maxRecDepth 100000 in
theorem c_X_shown (l : Launch) (D : va_G) (cy : Nat → ClassId) (q : Nat → Nat) (mi : Int32) : HC l my_X11_shown mb_X11_shown 2 ((some .int)) (rmD 3 0 0) D (TY cy) [.ref (q 0), .int mi] NX [(q 0, .inr (11, fX q)), (q 2, .inl (cy 0, 5, .inl (fun _ => 0))), (q 5, .inr (1, fHall (fun k => q (5 + k)))), (q 6, .inr (10, fThings (fun k => q (6 + k)))), (q 94, .inr (4, fPicks (fun k => q (94 + k)))), (q 95, .inl (cy 0, 10000, .inl (fun _ => 0))), (q 96, .inl (cy 0, 201, .inl (fun _ => 0)))] (QI (S := Unit) D (fun r _ => if2 (0 ≤ mi.toInt ∧ mi.toInt ≤ 200) 0 (-2) r) (fun _ => [])) := by
  refine hc_intro (by decide) (Nat.le_of_ble_eq_true rfl) (fun p e s m below meth c A ls Sx hr hlocks hin hl hP hD hK hS hA hX => ?_)
  have hx := Sx.1
  have hb := Sx.2.1
  have hl : lv_has ls 2 [(0, .ref (q 0)), (1, .int mi)] := hl
  have hP : va_P D cls [(q 0, .inr (11, fX q)), (q 2, .inl (cy 0, 5, .inl (fun _ => 0))), (q 5, .inr (1, fHall (fun k => q (5 + k)))), (q 6, .inr (10, fThings (fun k => q (6 + k)))), (q 94, .inr (4, fPicks (fun k => q (94 + k)))), (q 95, .inl (cy 0, 10000, .inl (fun _ => 0))), (q 96, .inl (cy 0, 201, .inl (fun _ => 0)))] s.heap := hP
  have hD : va_D A [(q 0, .inr (11, fX q)), (q 2, .inl (cy 0, 5, .inl (fun _ => 0))), (q 5, .inr (1, fHall (fun k => q (5 + k)))), (q 6, .inr (10, fThings (fun k => q (6 + k)))), (q 94, .inr (4, fPicks (fun k => q (94 + k)))), (q 95, .inl (cy 0, 10000, .inl (fun _ => 0))), (q 96, .inl (cy 0, 201, .inl (fun _ => 0)))] := hD
  refine lv_iload_n hx hb dd_X11_shown_0 rfl (lv_at hl 1 rfl) ?_
  refine lv_iconst (v := 0) hx hb dd_X11_shown_1 (by decide) ?_
  refine lv_sipush (v := 200) hx hb dd_X11_shown_2 (by decide) ?_
  refine pk_i (pc_T [.int mi, .int 0, .int 200] [] Sx hl.1 ws_X_59 md_X11_within (c_within l D cy mi 0 200) ⟨rfl, rfl⟩ ⟨Nat.le_of_ble_eq_true rfl, Nat.le_of_ble_eq_true rfl⟩ p_nil hK ns_b (ns_w hX) rfl rfl (Nat.le_of_ble_eq_true rfl) dd_X11_shown_5 ⟨Nat.le_of_ble_eq_true rfl, Nat.le_of_ble_eq_true rfl⟩) (fun r1 hw2 => ?_)
  rcases hw2 with ⟨hw2, ehw2⟩ | ⟨hw2, ehw2⟩
  · have hl3 : Int32.toInt 0 = 0 := rfl
    have hl4 : Int32.toInt 200 = 200 := rfl
    subst ehw2
    refine lv_if_ne (tgt := 18) hx hb dd_X11_shown_8 (by decide) (fun _ => ?_) (fun c => absurd c (by decide))
    refine lv_aload_n hx hb dd_X11_shown_18 rfl (lv_at hl 0 rfl) ?_
    refine wk_get (v := .ref (q 94)) Sx ef_11 hK hP 0 rfl rfl 6 (by decide) kk_388 rfl dd_X11_shown_19 ?_
    refine lv_aload_n hx hb dd_X11_shown_22 rfl (lv_at hl 0 rfl) ?_
    refine wk_get (v := .ref (q 5)) Sx ef_11 hK hP 0 rfl rfl 3 (by decide) kk_385 rfl dd_X11_shown_23 ?_
    refine wk_get (v := .ref (q 6)) Sx ef_1 hK hP 2 rfl rfl 0 (by decide) kk_260 rfl dd_X11_shown_26 ?_
    refine lv_iload_n hx hb dd_X11_shown_29 rfl (lv_at hl 1 rfl) ?_
    refine hk_i (wr := [(q 0, .inr (11, fX q)), (q 2, .inl (cy 0, 5, .inl (fun _ => 0))), (q 5, .inr (1, fHall (fun k => q (5 + k))))]) (c1 := 0) (s1 := 0) [4, 5, 6, 3] [0, 1, 2] (hc_V [.ref (q 6), .int mi] [] [4, 5, 6, 3] Sx hl.1 ws_X_299 md_X4_bargains (c_bargains l D cy (fun k => q (94 + k)) (fun k => q (6 + k)) mi (by omega)) ⟨Nat.le_of_ble_eq_true rfl, Nat.le_of_ble_eq_true rfl⟩ hP hD rfl (by decide) hK nx_b (nx_w hX) (va_recv hK hP (ci := 4) (q0 := 4) rfl rfl) rfl rfl (Nat.le_of_ble_eq_true rfl) dd_X11_shown_30 ⟨Nat.le_of_ble_eq_true rfl, Nat.le_of_ble_eq_true rfl⟩) hS hA hP hD rfl rfl (by decide) (by decide) rfl rfl (fun r5 u6 H locs hw7 hP hD hS => ?_)
    have hP : va_P D cls [(q 0, .inr (11, fX q)), (q 2, .inl (cy 0, 5, .inl (fun _ => 0))), (q 5, .inr (1, fHall (fun k => q (5 + k))))] H := hP
    have hD : va_D A [(q 0, .inr (11, fX q)), (q 2, .inl (cy 0, 5, .inl (fun _ => 0))), (q 5, .inr (1, fHall (fun k => q (5 + k))))] := hD
    subst hw7
    exact hc_ret Sx hr hlocks dd_X11_shown_33 hS () (Or.inl ⟨by omega, rfl⟩) p_nil d_nil
  · have hl8 : Int32.toInt 0 = 0 := rfl
    have hl9 : Int32.toInt 200 = 200 := rfl
    subst ehw2
    refine lv_if_ne (tgt := 18) hx hb dd_X11_shown_8 (by decide) (fun c => absurd c (by decide)) (fun _ => ?_)
    refine lv_aload_n hx hb dd_X11_shown_11 rfl (lv_at hl 0 rfl) ?_
    refine lv_bipush (v := (-2)) hx hb dd_X11_shown_12 (by decide) ?_
    refine hk_i (wr := [(q 5, .inr (1, fHall (fun k => q (5 + k)))), (q 6, .inr (10, fThings (fun k => q (6 + k)))), (q 94, .inr (4, fPicks (fun k => q (94 + k)))), (q 95, .inl (cy 0, 10000, .inl (fun _ => 0))), (q 96, .inl (cy 0, 201, .inl (fun _ => 0)))]) (c1 := 0) (s1 := 0) [0, 1] [2, 3, 4, 5, 6] (hc_V [.int (-2)] [] [0, 1] Sx hl.1 ws_X_63 md_X11_refuse (c_refuse_2 l D cy q) ⟨Nat.le_of_ble_eq_true rfl, Nat.le_of_ble_eq_true rfl⟩ hP hD rfl (by decide) hK nx_b (nx_w hX) (va_recv hK hP (ci := 11) (q0 := 0) rfl rfl) rfl rfl (Nat.le_of_ble_eq_true rfl) dd_X11_shown_14 ⟨Nat.le_of_ble_eq_true rfl, Nat.le_of_ble_eq_true rfl⟩) hS hA hP hD rfl rfl (by decide) (by decide) rfl rfl (fun r10 u11 H locs hw12 hP hD hS => ?_)
    have hP : va_P D cls [(q 5, .inr (1, fHall (fun k => q (5 + k)))), (q 6, .inr (10, fThings (fun k => q (6 + k)))), (q 94, .inr (4, fPicks (fun k => q (94 + k)))), (q 95, .inl (cy 0, 10000, .inl (fun _ => 0))), (q 96, .inl (cy 0, 201, .inl (fun _ => 0)))] H := hP
    have hD : va_D A [(q 5, .inr (1, fHall (fun k => q (5 + k)))), (q 6, .inr (10, fThings (fun k => q (6 + k)))), (q 94, .inr (4, fPicks (fun k => q (94 + k)))), (q 95, .inl (cy 0, 10000, .inl (fun _ => 0))), (q 96, .inl (cy 0, 201, .inl (fun _ => 0)))] := hD
    subst hw12
    exact hc_ret Sx hr hlocks dd_X11_shown_17 hS () (Or.inr ⟨by omega, rfl⟩) p_nil d_nil
set_option maxHeartbeats 4000000 in
set_option maxRecDepth 100000 in
theorem c_X_shortBy (l : Launch) (D : va_G) (cy : Nat → ClassId) (q : Nat → Nat) (su : Int32) : HC l my_X11_shortBy mb_X11_shortBy 2 ((some .int)) (rmD 3 0 0) D (TY cy) [.ref (q 0), .int su] NX [(q 0, .inr (11, fX q)), (q 2, .inl (cy 0, 5, .inl (fun _ => 0))), (q 5, .inr (1, fHall (fun k => q (5 + k)))), (q 6, .inr (10, fThings (fun k => q (6 + k)))), (q 94, .inr (4, fPicks (fun k => q (94 + k)))), (q 95, .inl (cy 0, 10000, .inl (fun _ => 0)))] (QI (S := Unit) D (fun r _ => if2 (1 ≤ su.toInt ∧ su.toInt ≤ 9999) (-1) (-2) r) (fun _ => [])) := by
  refine hc_intro (by decide) (Nat.le_of_ble_eq_true rfl) (fun p e s m below meth c A ls Sx hr hlocks hin hl hP hD hK hS hA hX => ?_)
  have hx := Sx.1
  have hb := Sx.2.1
  have hl : lv_has ls 2 [(0, .ref (q 0)), (1, .int su)] := hl
  have hP : va_P D cls [(q 0, .inr (11, fX q)), (q 2, .inl (cy 0, 5, .inl (fun _ => 0))), (q 5, .inr (1, fHall (fun k => q (5 + k)))), (q 6, .inr (10, fThings (fun k => q (6 + k)))), (q 94, .inr (4, fPicks (fun k => q (94 + k)))), (q 95, .inl (cy 0, 10000, .inl (fun _ => 0)))] s.heap := hP
  have hD : va_D A [(q 0, .inr (11, fX q)), (q 2, .inl (cy 0, 5, .inl (fun _ => 0))), (q 5, .inr (1, fHall (fun k => q (5 + k)))), (q 6, .inr (10, fThings (fun k => q (6 + k)))), (q 94, .inr (4, fPicks (fun k => q (94 + k)))), (q 95, .inl (cy 0, 10000, .inl (fun _ => 0)))] := hD
  refine lv_iload_n hx hb dd_X11_shortBy_0 rfl (lv_at hl 1 rfl) ?_
  refine lv_iconst (v := 1) hx hb dd_X11_shortBy_1 (by decide) ?_
  refine lv_sipush (v := 9999) hx hb dd_X11_shortBy_2 (by decide) ?_
  refine pk_i (pc_T [.int su, .int 1, .int 9999] [] Sx hl.1 ws_X_59 md_X11_within (c_within l D cy su 1 9999) ⟨rfl, rfl⟩ ⟨Nat.le_of_ble_eq_true rfl, Nat.le_of_ble_eq_true rfl⟩ p_nil hK ns_b (ns_w hX) rfl rfl (Nat.le_of_ble_eq_true rfl) dd_X11_shortBy_5 ⟨Nat.le_of_ble_eq_true rfl, Nat.le_of_ble_eq_true rfl⟩) (fun r1 hw2 => ?_)
  rcases hw2 with ⟨hw2, ehw2⟩ | ⟨hw2, ehw2⟩
  · have hl3 : Int32.toInt 1 = 1 := rfl
    have hl4 : Int32.toInt 9999 = 9999 := rfl
    subst ehw2
    refine lv_if_ne (tgt := 18) hx hb dd_X11_shortBy_8 (by decide) (fun _ => ?_) (fun c => absurd c (by decide))
    refine lv_aload_n hx hb dd_X11_shortBy_18 rfl (lv_at hl 0 rfl) ?_
    refine wk_get (v := .ref (q 94)) Sx ef_11 hK hP 0 rfl rfl 6 (by decide) kk_388 rfl dd_X11_shortBy_19 ?_
    refine lv_aload_n hx hb dd_X11_shortBy_22 rfl (lv_at hl 0 rfl) ?_
    refine wk_get (v := .ref (q 5)) Sx ef_11 hK hP 0 rfl rfl 3 (by decide) kk_385 rfl dd_X11_shortBy_23 ?_
    refine wk_get (v := .ref (q 6)) Sx ef_1 hK hP 2 rfl rfl 0 (by decide) kk_260 rfl dd_X11_shortBy_26 ?_
    refine lv_iload_n hx hb dd_X11_shortBy_29 rfl (lv_at hl 1 rfl) ?_
    refine hk_i (wr := [(q 0, .inr (11, fX q)), (q 2, .inl (cy 0, 5, .inl (fun _ => 0))), (q 5, .inr (1, fHall (fun k => q (5 + k))))]) (c1 := 0) (s1 := 0) [4, 5, 3] [0, 1, 2] (hc_V [.ref (q 6), .int su] [] [4, 5, 3] Sx hl.1 ws_X_359 md_X4_fewestPaid (c_fewestPaid l D cy (fun k => q (94 + k)) (fun k => q (6 + k)) su (by omega)) ⟨Nat.le_of_ble_eq_true rfl, Nat.le_of_ble_eq_true rfl⟩ hP hD rfl (by decide) hK nx_b (nx_w hX) (va_recv hK hP (ci := 4) (q0 := 4) rfl rfl) rfl rfl (Nat.le_of_ble_eq_true rfl) dd_X11_shortBy_30 ⟨Nat.le_of_ble_eq_true rfl, Nat.le_of_ble_eq_true rfl⟩) hS hA hP hD rfl rfl (by decide) (by decide) rfl rfl (fun r5 u6 H locs hw7 hP hD hS => ?_)
    have hP : va_P D cls [(q 0, .inr (11, fX q)), (q 2, .inl (cy 0, 5, .inl (fun _ => 0))), (q 5, .inr (1, fHall (fun k => q (5 + k))))] H := hP
    have hD : va_D A [(q 0, .inr (11, fX q)), (q 2, .inl (cy 0, 5, .inl (fun _ => 0))), (q 5, .inr (1, fHall (fun k => q (5 + k))))] := hD
    subst hw7
    exact hc_ret Sx hr hlocks dd_X11_shortBy_33 hS () (Or.inl ⟨by omega, rfl⟩) p_nil d_nil
  · have hl8 : Int32.toInt 1 = 1 := rfl
    have hl9 : Int32.toInt 9999 = 9999 := rfl
    subst ehw2
    refine lv_if_ne (tgt := 18) hx hb dd_X11_shortBy_8 (by decide) (fun c => absurd c (by decide)) (fun _ => ?_)
    refine lv_aload_n hx hb dd_X11_shortBy_11 rfl (lv_at hl 0 rfl) ?_
    refine lv_bipush (v := (-2)) hx hb dd_X11_shortBy_12 (by decide) ?_
    refine hk_i (wr := [(q 5, .inr (1, fHall (fun k => q (5 + k)))), (q 6, .inr (10, fThings (fun k => q (6 + k)))), (q 94, .inr (4, fPicks (fun k => q (94 + k)))), (q 95, .inl (cy 0, 10000, .inl (fun _ => 0)))]) (c1 := 0) (s1 := 0) [0, 1] [2, 3, 4, 5] (hc_V [.int (-2)] [] [0, 1] Sx hl.1 ws_X_63 md_X11_refuse (c_refuse_2 l D cy q) ⟨Nat.le_of_ble_eq_true rfl, Nat.le_of_ble_eq_true rfl⟩ hP hD rfl (by decide) hK nx_b (nx_w hX) (va_recv hK hP (ci := 11) (q0 := 0) rfl rfl) rfl rfl (Nat.le_of_ble_eq_true rfl) dd_X11_shortBy_14 ⟨Nat.le_of_ble_eq_true rfl, Nat.le_of_ble_eq_true rfl⟩) hS hA hP hD rfl rfl (by decide) (by decide) rfl rfl (fun r10 u11 H locs hw12 hP hD hS => ?_)
    have hP : va_P D cls [(q 5, .inr (1, fHall (fun k => q (5 + k)))), (q 6, .inr (10, fThings (fun k => q (6 + k)))), (q 94, .inr (4, fPicks (fun k => q (94 + k)))), (q 95, .inl (cy 0, 10000, .inl (fun _ => 0)))] H := hP
    have hD : va_D A [(q 5, .inr (1, fHall (fun k => q (5 + k)))), (q 6, .inr (10, fThings (fun k => q (6 + k)))), (q 94, .inr (4, fPicks (fun k => q (94 + k)))), (q 95, .inl (cy 0, 10000, .inl (fun _ => 0)))] := hD
    subst hw12
    exact hc_ret Sx hr hlocks dd_X11_shortBy_17 hS () (Or.inr ⟨by omega, rfl⟩) p_nil d_nil
set_option maxHeartbeats 4000000 in
set_option maxRecDepth 100000 in
theorem c_X_status (l : Launch) (D : va_G) (cy : Nat → ClassId) (q : Nat → Nat) (wh : Int32) : PC l my_X11_status mb_X11_status 2 ((some .int)) (rmD 3 0 0) D (TY cy) [.ref (q 0), .int wh] NS [(q 0, .inr (11, fX q)), (q 1, .inl (cy 4, 8, .inr (.inr (.inr (.inr (shv q)))))), (q 2, .inl (cy 0, 5, .inl (fun _ => 0))), (q 3, .inr (9, fTape (fun k => q (3 + k)))), (q 5, .inr (1, fHall (fun k => q (5 + k)))), (q 6, .inr (10, fThings (fun k => q (6 + k)))), (q 14, .inr (2, fLadies (fun k => q (14 + k)))), (q 18, .inr (3, fLaws (fun k => q (18 + k)))), (q 21, .inr (0, fBuyers (fun k => q (21 + k)))), (q 27, .inr (8, fSightings (fun k => q (27 + k)))), (q 35, .inr (6, fSecrets (fun k => q (35 + k)))), (q 97, .inr (7, fShelf (fun k => q (97 + k)))), (q 98, .inl (cy 2, 40, .inr (.inl (fun _ => 0)))), (q 99, .inr (7, fShelf (fun k => q (99 + k)))), (q 100, .inl (cy 2, 40, .inr (.inl (fun _ => 0)))), (q 101, .inr (7, fShelf (fun k => q (101 + k)))), (q 102, .inl (cy 2, 40, .inr (.inl (fun _ => 0)))), (q 103, .inr (7, fShelf (fun k => q (103 + k)))), (q 104, .inl (cy 2, 40, .inr (.inl (fun _ => 0)))), (q 105, .inr (7, fShelf (fun k => q (105 + k)))), (q 106, .inl (cy 2, 40, .inr (.inl (fun _ => 0)))), (q 107, .inr (7, fShelf (fun k => q (107 + k)))), (q 108, .inl (cy 2, 40, .inr (.inl (fun _ => 0)))), (q 109, .inr (7, fShelf (fun k => q (109 + k)))), (q 110, .inl (cy 2, 40, .inr (.inl (fun _ => 0)))), (q 111, .inr (7, fShelf (fun k => q (111 + k)))), (q 112, .inl (cy 2, 40, .inr (.inl (fun _ => 0))))] (vp_Si (fun r => if2 ((0 ≤ wh.toInt ∧ wh.toInt ≤ 8) ∨ (12 ≤ wh.toInt ∧ wh.toInt ≤ 16)) 0 (-1) r)) := by
  refine pc_intro (by decide) (Nat.le_of_ble_eq_true rfl) (fun p e s m below meth c ls Sx hr hlocks hl hP hK hX => ?_)
  have hx := Sx.1
  have hb := Sx.2.1
  have hl : lv_has ls 2 [(0, .ref (q 0)), (1, .int wh)] := hl
  refine lv_iload_n hx hb dd_X11_status_0 rfl (lv_at hl 1 rfl) ?_
  by_cases hs1 : wh.toInt < 0 ∨ 8 < wh.toInt
  · refine lv_tableOut (tgt := 139) hx hb dd_X11_status_1 hs1 (by decide) ?_
    refine lv_iload_n hx hb dd_X11_status_139 rfl (lv_at hl 1 rfl) ?_
    refine lv_bipush (v := 12) hx hb dd_X11_status_140 (by decide) ?_
    refine lv_bipush (v := 16) hx hb dd_X11_status_142 (by decide) ?_
    refine pk_i (pc_T [.int wh, .int 12, .int 16] [] Sx hl.1 ws_X_59 md_X11_within (c_within l D cy wh 12 16) ⟨rfl, rfl⟩ ⟨Nat.le_of_ble_eq_true rfl, Nat.le_of_ble_eq_true rfl⟩ p_nil hK ns_b (ns_w hX) rfl rfl (Nat.le_of_ble_eq_true rfl) dd_X11_status_144 ⟨Nat.le_of_ble_eq_true rfl, Nat.le_of_ble_eq_true rfl⟩) (fun r2 hw3 => ?_)
    rcases hw3 with ⟨hw3, ehw3⟩ | ⟨hw3, ehw3⟩
    · have hl4 : Int32.toInt 12 = 12 := rfl
      have hl5 : Int32.toInt 16 = 16 := rfl
      subst ehw3
      refine lv_if_eq (tgt := 162) hx hb dd_X11_status_147 (by decide) (fun c => absurd c (by decide)) (fun _ => ?_)
      refine lv_aload_n hx hb dd_X11_status_150 rfl (lv_at hl 0 rfl) ?_
      refine wk_get (v := .ref (q 2)) Sx ef_11 hK hP 0 rfl rfl 1 (by decide) kk_383 rfl dd_X11_status_151 ?_
      refine lv_iload_n hx hb dd_X11_status_154 rfl (lv_at hl 1 rfl) ?_
      refine lv_bipush (v := 12) hx hb dd_X11_status_155 (by decide) ?_
      refine lv_isub hx hb dd_X11_status_157 ?_
      refine lv_topi (fun z6 ez6 => ?_)
      have fz6 : z6.toInt = wh.toInt - 12 := by rw [ez6]; exact ti_sub rfl rfl (by omega) (by omega)
      have hi7 : vp_in z6 5 := (vi_of (by omega))
      refine va_iald hx hb hK hP 2 0 rfl rfl hi7 dd_X11_status_158 ?_
      refine wk_int (v := 0) rfl ?_
      refine lv_goto (tgt := 163) hx hb dd_X11_status_159 (by decide) ?_
      exact pc_ret Sx hr hlocks rfl dd_X11_status_163 (Or.inl ⟨by omega, rfl⟩)
    · have hl8 : Int32.toInt 12 = 12 := rfl
      have hl9 : Int32.toInt 16 = 16 := rfl
      subst ehw3
      refine lv_if_eq (tgt := 162) hx hb dd_X11_status_147 (by decide) (fun _ => ?_) (fun c => absurd c (by decide))
      refine lv_iconst (v := (-1)) hx hb dd_X11_status_162 (by decide) ?_
      exact pc_ret Sx hr hlocks rfl dd_X11_status_163 (Or.inr ⟨by omega, rfl⟩)
  · rcases (show wh.toInt = 0 ∨ wh.toInt = 1 ∨ wh.toInt = 2 ∨ wh.toInt = 3 ∨ wh.toInt = 4 ∨ wh.toInt = 5 ∨ wh.toInt = 6 ∨ wh.toInt = 7 ∨ wh.toInt = 8 by omega) with hv10 | hv10 | hv10 | hv10 | hv10 | hv10 | hv10 | hv10 | hv10
    · obtain rfl : wh = 0 := ci_of rfl hv10
      refine lv_tableIn (off := 51) (tgt := 52) hx hb dd_X11_status_1 (by decide) (by decide) rfl (by decide) ?_
      refine lv_aload_n hx hb dd_X11_status_52 rfl (lv_at hl 0 rfl) ?_
      refine wk_get (v := .ref (q 5)) Sx ef_11 hK hP 0 rfl rfl 3 (by decide) kk_385 rfl dd_X11_status_53 ?_
      refine wk_get (v := .ref (q 6)) Sx ef_1 hK hP 4 rfl rfl 0 (by decide) kk_260 rfl dd_X11_status_56 ?_
      refine wk_get (v := .int 0) Sx ef_10 hK hP 5 rfl rfl 6 (by decide) kk_90 rfl dd_X11_status_59 ?_
      have htwh : (0 : Int32).toInt = 0 := rfl
      exact pc_ret Sx hr hlocks rfl dd_X11_status_62 (Or.inl ⟨by omega, rfl⟩)
    · obtain rfl : wh = 1 := ci_of rfl hv10
      refine lv_tableIn (off := 62) (tgt := 63) hx hb dd_X11_status_1 (by decide) (by decide) rfl (by decide) ?_
      refine lv_aload_n hx hb dd_X11_status_63 rfl (lv_at hl 0 rfl) ?_
      refine wk_get (v := .ref (q 5)) Sx ef_11 hK hP 0 rfl rfl 3 (by decide) kk_385 rfl dd_X11_status_64 ?_
      refine wk_get (v := .ref (q 14)) Sx ef_1 hK hP 4 rfl rfl 1 (by decide) kk_262 rfl dd_X11_status_67 ?_
      refine wk_get (v := .int 0) Sx ef_2 hK hP 6 rfl rfl 3 (by decide) kk_125 rfl dd_X11_status_70 ?_
      have htwh : (1 : Int32).toInt = 1 := rfl
      exact pc_ret Sx hr hlocks rfl dd_X11_status_73 (Or.inl ⟨by omega, rfl⟩)
    · obtain rfl : wh = 2 := ci_of rfl hv10
      refine lv_tableIn (off := 73) (tgt := 74) hx hb dd_X11_status_1 (by decide) (by decide) rfl (by decide) ?_
      refine lv_aload_n hx hb dd_X11_status_74 rfl (lv_at hl 0 rfl) ?_
      refine wk_get (v := .ref (q 5)) Sx ef_11 hK hP 0 rfl rfl 3 (by decide) kk_385 rfl dd_X11_status_75 ?_
      refine wk_get (v := .ref (q 18)) Sx ef_1 hK hP 4 rfl rfl 2 (by decide) kk_264 rfl dd_X11_status_78 ?_
      refine wk_get (v := .int 0) Sx ef_3 hK hP 7 rfl rfl 2 (by decide) kk_145 rfl dd_X11_status_81 ?_
      have htwh : (2 : Int32).toInt = 2 := rfl
      exact pc_ret Sx hr hlocks rfl dd_X11_status_84 (Or.inl ⟨by omega, rfl⟩)
    · obtain rfl : wh = 3 := ci_of rfl hv10
      refine lv_tableIn (off := 84) (tgt := 85) hx hb dd_X11_status_1 (by decide) (by decide) rfl (by decide) ?_
      refine lv_aload_n hx hb dd_X11_status_85 rfl (lv_at hl 0 rfl) ?_
      refine wk_get (v := .ref (q 5)) Sx ef_11 hK hP 0 rfl rfl 3 (by decide) kk_385 rfl dd_X11_status_86 ?_
      refine wk_get (v := .ref (q 21)) Sx ef_1 hK hP 4 rfl rfl 3 (by decide) kk_267 rfl dd_X11_status_89 ?_
      refine wk_get (v := .int 0) Sx ef_0 hK hP 8 rfl rfl 5 (by decide) kk_176 rfl dd_X11_status_92 ?_
      have htwh : (3 : Int32).toInt = 3 := rfl
      exact pc_ret Sx hr hlocks rfl dd_X11_status_95 (Or.inl ⟨by omega, rfl⟩)
    · obtain rfl : wh = 4 := ci_of rfl hv10
      refine lv_tableIn (off := 95) (tgt := 96) hx hb dd_X11_status_1 (by decide) (by decide) rfl (by decide) ?_
      refine lv_aload_n hx hb dd_X11_status_96 rfl (lv_at hl 0 rfl) ?_
      refine wk_get (v := .ref (q 5)) Sx ef_11 hK hP 0 rfl rfl 3 (by decide) kk_385 rfl dd_X11_status_97 ?_
      refine wk_get (v := .int 0) Sx ef_1 hK hP 4 rfl rfl 7 (by decide) kk_275 rfl dd_X11_status_100 ?_
      have htwh : (4 : Int32).toInt = 4 := rfl
      exact pc_ret Sx hr hlocks rfl dd_X11_status_103 (Or.inl ⟨by omega, rfl⟩)
    · obtain rfl : wh = 5 := ci_of rfl hv10
      refine lv_tableIn (off := 103) (tgt := 104) hx hb dd_X11_status_1 (by decide) (by decide) rfl (by decide) ?_
      refine lv_aload_n hx hb dd_X11_status_104 rfl (lv_at hl 0 rfl) ?_
      refine wk_get (v := .ref (q 5)) Sx ef_11 hK hP 0 rfl rfl 3 (by decide) kk_385 rfl dd_X11_status_105 ?_
      refine wk_get (v := .ref (q 27)) Sx ef_1 hK hP 4 rfl rfl 4 (by decide) kk_269 rfl dd_X11_status_108 ?_
      refine wk_get (v := .int 0) Sx ef_8 hK hP 9 rfl rfl 4 (by decide) kk_201 rfl dd_X11_status_111 ?_
      have htwh : (5 : Int32).toInt = 5 := rfl
      exact pc_ret Sx hr hlocks rfl dd_X11_status_114 (Or.inl ⟨by omega, rfl⟩)
    · obtain rfl : wh = 6 := ci_of rfl hv10
      refine lv_tableIn (off := 114) (tgt := 115) hx hb dd_X11_status_1 (by decide) (by decide) rfl (by decide) ?_
      refine lv_aload_n hx hb dd_X11_status_115 rfl (lv_at hl 0 rfl) ?_
      refine wk_get (v := .ref (q 5)) Sx ef_11 hK hP 0 rfl rfl 3 (by decide) kk_385 rfl dd_X11_status_116 ?_
      refine wk_get (v := .ref (q 35)) Sx ef_1 hK hP 4 rfl rfl 5 (by decide) kk_271 rfl dd_X11_status_119 ?_
      refine wk_get (v := .int 0) Sx ef_6 hK hP 10 rfl rfl 2 (by decide) kk_231 rfl dd_X11_status_122 ?_
      have htwh : (6 : Int32).toInt = 6 := rfl
      exact pc_ret Sx hr hlocks rfl dd_X11_status_125 (Or.inl ⟨by omega, rfl⟩)
    · obtain rfl : wh = 7 := ci_of rfl hv10
      refine lv_tableIn (off := 125) (tgt := 126) hx hb dd_X11_status_1 (by decide) (by decide) rfl (by decide) ?_
      refine lv_aload_n hx hb dd_X11_status_126 rfl (lv_at hl 0 rfl) ?_
      refine wk_get (v := .ref (q 3)) Sx ef_11 hK hP 0 rfl rfl 2 (by decide) kk_384 rfl dd_X11_status_127 ?_
      refine wk_get (v := .int 0) Sx ef_9 hK hP 3 rfl rfl 1 (by decide) kk_40 rfl dd_X11_status_130 ?_
      have htwh : (7 : Int32).toInt = 7 := rfl
      exact pc_ret Sx hr hlocks rfl dd_X11_status_133 (Or.inl ⟨by omega, rfl⟩)
    · obtain rfl : wh = 8 := ci_of rfl hv10
      refine lv_tableIn (off := 133) (tgt := 134) hx hb dd_X11_status_1 (by decide) (by decide) rfl (by decide) ?_
      refine lv_aload_n hx hb dd_X11_status_134 rfl (lv_at hl 0 rfl) ?_
      refine pk_i (pc_V [] [] Sx hl.1 ws_X_372 md_X11_shelvesInUse (c_shelvesInUse l D cy q) ⟨rfl, rfl⟩ ⟨Nat.le_of_ble_eq_true rfl, Nat.le_of_ble_eq_true rfl⟩ (hP.sub [0, 1, 11, 12, 13, 14, 15, 16, 17, 18, 19, 20, 21, 22, 23, 24, 25, 26] rfl) hK ns_b (ns_w hX) (va_recv hK hP (ci := 11) (q0 := 0) rfl rfl) rfl rfl (Nat.le_of_ble_eq_true rfl) dd_X11_status_135 ⟨Nat.le_of_ble_eq_true rfl, Nat.le_of_ble_eq_true rfl⟩) (fun r11 hw12 => ?_)
      subst hw12
      have htwh : (8 : Int32).toInt = 8 := rfl
      exact pc_ret Sx hr hlocks rfl dd_X11_status_138 (Or.inl ⟨by omega, rfl⟩)
end
