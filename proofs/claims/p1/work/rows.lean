section
-- ===== PART A: goes FIRST, ahead of the names: the tables' words, and 'selects' of the private methods out of them =====
/-- a private method of a class that the tables say can be made, by its rows of tables_1 -/
def lw_okq (q : MethodName × Nat) : Prop := (q.1.cls ≠ "java/lang/invoke/MethodHandle" ∧ q.1.cls ≠ "java/lang/invoke/VarHandle") ∧ Cond.instantiable q.1.cls q.2 ∈ tables_1 ∧ Cond.privateMethod q.1 ∈ tables_1 ∧ Cond.instanceMethod q.1 ∈ tables_1
theorem lw_p0 : lw_okq (⟨"AlreadyJudged$LawReader", "readLevel", "(II)V"⟩, 5) := ⟨⟨by decide +kernel, by decide +kernel⟩, List.mem_of_getElem? (i := 195) (by decide +kernel), List.mem_of_getElem? (i := 472) (by decide +kernel), List.mem_of_getElem? (i := 473) (by decide +kernel)⟩
theorem lw_p1 : lw_okq (⟨"AlreadyJudged$LawReader", "readOperand", "(I)V"⟩, 5) := ⟨⟨by decide +kernel, by decide +kernel⟩, List.mem_of_getElem? (i := 195) (by decide +kernel), List.mem_of_getElem? (i := 476) (by decide +kernel), List.mem_of_getElem? (i := 477) (by decide +kernel)⟩
theorem lw_p2 : lw_okq (⟨"AlreadyJudged", "placeAt", "(I)LAlreadyJudged$Place;"⟩, 11) := ⟨⟨by decide +kernel, by decide +kernel⟩, List.mem_of_getElem? (i := 25) (by decide +kernel), List.mem_of_getElem? (i := 675) (by decide +kernel), List.mem_of_getElem? (i := 676) (by decide +kernel)⟩
theorem lw_p3 : lw_okq (⟨"AlreadyJudged", "shoeFrom", "(LAlreadyJudged$Place;I)Z"⟩, 11) := ⟨⟨by decide +kernel, by decide +kernel⟩, List.mem_of_getElem? (i := 25) (by decide +kernel), List.mem_of_getElem? (i := 680) (by decide +kernel), List.mem_of_getElem? (i := 681) (by decide +kernel)⟩
theorem lw_p4 : lw_okq (⟨"AlreadyJudged", "isShoeNumber", "(I)Z"⟩, 11) := ⟨⟨by decide +kernel, by decide +kernel⟩, List.mem_of_getElem? (i := 25) (by decide +kernel), List.mem_of_getElem? (i := 692) (by decide +kernel), List.mem_of_getElem? (i := 693) (by decide +kernel)⟩
theorem lw_p5 : lw_okq (⟨"AlreadyJudged", "isClaim", "(I)Z"⟩, 11) := ⟨⟨by decide +kernel, by decide +kernel⟩, List.mem_of_getElem? (i := 25) (by decide +kernel), List.mem_of_getElem? (i := 781) (by decide +kernel), List.mem_of_getElem? (i := 782) (by decide +kernel)⟩
theorem lw_p6 : lw_okq (⟨"AlreadyJudged", "isClaimOf", "(II)Z"⟩, 11) := ⟨⟨by decide +kernel, by decide +kernel⟩, List.mem_of_getElem? (i := 25) (by decide +kernel), List.mem_of_getElem? (i := 921) (by decide +kernel), List.mem_of_getElem? (i := 922) (by decide +kernel)⟩
theorem lw_p7 : lw_okq (⟨"AlreadyJudged$Wishes", "seek", "(IIII)V"⟩, 9) := ⟨⟨by decide +kernel, by decide +kernel⟩, List.mem_of_getElem? (i := 218) (by decide +kernel), List.mem_of_getElem? (i := 1048) (by decide +kernel), List.mem_of_getElem? (i := 1049) (by decide +kernel)⟩
theorem lw_p8 : lw_okq (⟨"AlreadyJudged", "fewestTogether", "(I)I"⟩, 11) := ⟨⟨by decide +kernel, by decide +kernel⟩, List.mem_of_getElem? (i := 25) (by decide +kernel), List.mem_of_getElem? (i := 1068) (by decide +kernel), List.mem_of_getElem? (i := 1069) (by decide +kernel)⟩
theorem lw_p9 : lw_okq (⟨"AlreadyJudged", "toldWhoAre", "(II)I"⟩, 11) := ⟨⟨by decide +kernel, by decide +kernel⟩, List.mem_of_getElem? (i := 25) (by decide +kernel), List.mem_of_getElem? (i := 1074) (by decide +kernel), List.mem_of_getElem? (i := 1075) (by decide +kernel)⟩
theorem lw_p10 : lw_okq (⟨"AlreadyJudged", "firstRing", "(I)I"⟩, 11) := ⟨⟨by decide +kernel, by decide +kernel⟩, List.mem_of_getElem? (i := 25) (by decide +kernel), List.mem_of_getElem? (i := 1088) (by decide +kernel), List.mem_of_getElem? (i := 1089) (by decide +kernel)⟩
theorem lw_p11 : lw_okq (⟨"AlreadyJudged", "ringOn", "(IIIII)I"⟩, 11) := ⟨⟨by decide +kernel, by decide +kernel⟩, List.mem_of_getElem? (i := 25) (by decide +kernel), List.mem_of_getElem? (i := 1092) (by decide +kernel), List.mem_of_getElem? (i := 1093) (by decide +kernel)⟩
theorem lw_p12 : lw_okq (⟨"AlreadyJudged$Acts", "closes", "(II)I"⟩, 5) := ⟨⟨by decide +kernel, by decide +kernel⟩, List.mem_of_getElem? (i := 374) (by decide +kernel), List.mem_of_getElem? (i := 1138) (by decide +kernel), List.mem_of_getElem? (i := 1139) (by decide +kernel)⟩
theorem lw_p13 : lw_okq (⟨"AlreadyJudged$Acts", "settles", "(II)I"⟩, 5) := ⟨⟨by decide +kernel, by decide +kernel⟩, List.mem_of_getElem? (i := 374) (by decide +kernel), List.mem_of_getElem? (i := 1150) (by decide +kernel), List.mem_of_getElem? (i := 1151) (by decide +kernel)⟩
theorem lw_p14 : lw_okq (⟨"AlreadyJudged$Acts", "binds", "(II)I"⟩, 5) := ⟨⟨by decide +kernel, by decide +kernel⟩, List.mem_of_getElem? (i := 374) (by decide +kernel), List.mem_of_getElem? (i := 1155) (by decide +kernel), List.mem_of_getElem? (i := 1156) (by decide +kernel)⟩
theorem lw_p15 : lw_okq (⟨"AlreadyJudged$Acts", "tells", "(II)I"⟩, 5) := ⟨⟨by decide +kernel, by decide +kernel⟩, List.mem_of_getElem? (i := 374) (by decide +kernel), List.mem_of_getElem? (i := 1160) (by decide +kernel), List.mem_of_getElem? (i := 1161) (by decide +kernel)⟩
def lw_privs_1 : List (MethodName × Nat) := [(⟨"AlreadyJudged$LawReader", "readLevel", "(II)V"⟩, 5), (⟨"AlreadyJudged$LawReader", "readOperand", "(I)V"⟩, 5), (⟨"AlreadyJudged", "placeAt", "(I)LAlreadyJudged$Place;"⟩, 11), (⟨"AlreadyJudged", "shoeFrom", "(LAlreadyJudged$Place;I)Z"⟩, 11), (⟨"AlreadyJudged", "isShoeNumber", "(I)Z"⟩, 11), (⟨"AlreadyJudged", "isClaim", "(I)Z"⟩, 11), (⟨"AlreadyJudged", "isClaimOf", "(II)Z"⟩, 11), (⟨"AlreadyJudged$Wishes", "seek", "(IIII)V"⟩, 9), (⟨"AlreadyJudged", "fewestTogether", "(I)I"⟩, 11), (⟨"AlreadyJudged", "toldWhoAre", "(II)I"⟩, 11), (⟨"AlreadyJudged", "firstRing", "(I)I"⟩, 11), (⟨"AlreadyJudged", "ringOn", "(IIIII)I"⟩, 11), (⟨"AlreadyJudged$Acts", "closes", "(II)I"⟩, 5), (⟨"AlreadyJudged$Acts", "settles", "(II)I"⟩, 5), (⟨"AlreadyJudged$Acts", "binds", "(II)I"⟩, 5), (⟨"AlreadyJudged$Acts", "tells", "(II)I"⟩, 5)]
theorem lw_r1 : ∀ q ∈ lw_privs_1, lw_okq q := List.forall_mem_cons.mpr ⟨lw_p0, List.forall_mem_cons.mpr ⟨lw_p1, List.forall_mem_cons.mpr ⟨lw_p2, List.forall_mem_cons.mpr ⟨lw_p3, List.forall_mem_cons.mpr ⟨lw_p4, List.forall_mem_cons.mpr ⟨lw_p5, List.forall_mem_cons.mpr ⟨lw_p6, List.forall_mem_cons.mpr ⟨lw_p7, List.forall_mem_cons.mpr ⟨lw_p8, List.forall_mem_cons.mpr ⟨lw_p9, List.forall_mem_cons.mpr ⟨lw_p10, List.forall_mem_cons.mpr ⟨lw_p11, List.forall_mem_cons.mpr ⟨lw_p12, List.forall_mem_cons.mpr ⟨lw_p13, List.forall_mem_cons.mpr ⟨lw_p14, List.forall_mem_cons.mpr ⟨lw_p15, fun _ h => absurd h List.not_mem_nil⟩⟩⟩⟩⟩⟩⟩⟩⟩⟩⟩⟩⟩⟩⟩⟩
theorem lw_p16 : lw_okq (⟨"AlreadyJudgedModel", "isShoe", "(I)Z"⟩, 60) := ⟨⟨by decide +kernel, by decide +kernel⟩, List.mem_of_getElem? (i := 1217) (by decide +kernel), List.mem_of_getElem? (i := 1431) (by decide +kernel), List.mem_of_getElem? (i := 1432) (by decide +kernel)⟩
theorem lw_p17 : lw_okq (⟨"AlreadyJudgedModel", "isClaim", "(I)Z"⟩, 60) := ⟨⟨by decide +kernel, by decide +kernel⟩, List.mem_of_getElem? (i := 1217) (by decide +kernel), List.mem_of_getElem? (i := 1446) (by decide +kernel), List.mem_of_getElem? (i := 1447) (by decide +kernel)⟩
theorem lw_p18 : lw_okq (⟨"AlreadyJudgedModel", "readSuit", "(I)V"⟩, 60) := ⟨⟨by decide +kernel, by decide +kernel⟩, List.mem_of_getElem? (i := 1217) (by decide +kernel), List.mem_of_getElem? (i := 1458) (by decide +kernel), List.mem_of_getElem? (i := 1459) (by decide +kernel)⟩
theorem lw_p19 : lw_okq (⟨"AlreadyJudgedModel", "number", "(II)I"⟩, 60) := ⟨⟨by decide +kernel, by decide +kernel⟩, List.mem_of_getElem? (i := 1217) (by decide +kernel), List.mem_of_getElem? (i := 1462) (by decide +kernel), List.mem_of_getElem? (i := 1463) (by decide +kernel)⟩
theorem lw_p20 : lw_okq (⟨"AlreadyJudgedModel", "look", "()I"⟩, 60) := ⟨⟨by decide +kernel, by decide +kernel⟩, List.mem_of_getElem? (i := 1217) (by decide +kernel), List.mem_of_getElem? (i := 1466) (by decide +kernel), List.mem_of_getElem? (i := 1467) (by decide +kernel)⟩
theorem lw_p21 : lw_okq (⟨"AlreadyJudgedModel", "wrongAt", "(I)V"⟩, 60) := ⟨⟨by decide +kernel, by decide +kernel⟩, List.mem_of_getElem? (i := 1217) (by decide +kernel), List.mem_of_getElem? (i := 1470) (by decide +kernel), List.mem_of_getElem? (i := 1471) (by decide +kernel)⟩
theorem lw_p22 : lw_okq (⟨"AlreadyJudgedModel", "takes", "(I)Z"⟩, 60) := ⟨⟨by decide +kernel, by decide +kernel⟩, List.mem_of_getElem? (i := 1217) (by decide +kernel), List.mem_of_getElem? (i := 1474) (by decide +kernel), List.mem_of_getElem? (i := 1475) (by decide +kernel)⟩
theorem lw_p23 : lw_okq (⟨"AlreadyJudgedModel", "wrong", "()V"⟩, 60) := ⟨⟨by decide +kernel, by decide +kernel⟩, List.mem_of_getElem? (i := 1217) (by decide +kernel), List.mem_of_getElem? (i := 1478) (by decide +kernel), List.mem_of_getElem? (i := 1479) (by decide +kernel)⟩
theorem lw_p24 : lw_okq (⟨"AlreadyJudgedModel", "readClaims", "(I)V"⟩, 60) := ⟨⟨by decide +kernel, by decide +kernel⟩, List.mem_of_getElem? (i := 1217) (by decide +kernel), List.mem_of_getElem? (i := 1482) (by decide +kernel), List.mem_of_getElem? (i := 1483) (by decide +kernel)⟩
theorem lw_p25 : lw_okq (⟨"AlreadyJudgedModel", "wasAsked", "(II)Z"⟩, 60) := ⟨⟨by decide +kernel, by decide +kernel⟩, List.mem_of_getElem? (i := 1217) (by decide +kernel), List.mem_of_getElem? (i := 1486) (by decide +kernel), List.mem_of_getElem? (i := 1487) (by decide +kernel)⟩
theorem lw_p26 : lw_okq (⟨"AlreadyJudgedModel", "isNext", "(I)Z"⟩, 60) := ⟨⟨by decide +kernel, by decide +kernel⟩, List.mem_of_getElem? (i := 1217) (by decide +kernel), List.mem_of_getElem? (i := 1490) (by decide +kernel), List.mem_of_getElem? (i := 1491) (by decide +kernel)⟩
theorem lw_p27 : lw_okq (⟨"AlreadyJudgedModel", "readPoint", "(I)V"⟩, 60) := ⟨⟨by decide +kernel, by decide +kernel⟩, List.mem_of_getElem? (i := 1217) (by decide +kernel), List.mem_of_getElem? (i := 1494) (by decide +kernel), List.mem_of_getElem? (i := 1495) (by decide +kernel)⟩
theorem lw_p28 : lw_okq (⟨"AlreadyJudgedModel", "readEnding", "(I)V"⟩, 60) := ⟨⟨by decide +kernel, by decide +kernel⟩, List.mem_of_getElem? (i := 1217) (by decide +kernel), List.mem_of_getElem? (i := 1498) (by decide +kernel), List.mem_of_getElem? (i := 1499) (by decide +kernel)⟩
theorem lw_p29 : lw_okq (⟨"AlreadyJudgedModel", "isSuit", "(I)Z"⟩, 60) := ⟨⟨by decide +kernel, by decide +kernel⟩, List.mem_of_getElem? (i := 1217) (by decide +kernel), List.mem_of_getElem? (i := 1506) (by decide +kernel), List.mem_of_getElem? (i := 1507) (by decide +kernel)⟩
theorem lw_p30 : lw_okq (⟨"AlreadyJudgedModel", "bodyKind", "(I)I"⟩, 60) := ⟨⟨by decide +kernel, by decide +kernel⟩, List.mem_of_getElem? (i := 1217) (by decide +kernel), List.mem_of_getElem? (i := 1510) (by decide +kernel), List.mem_of_getElem? (i := 1511) (by decide +kernel)⟩
theorem lw_p31 : lw_okq (⟨"AlreadyJudgedModel", "set", "(III)V"⟩, 60) := ⟨⟨by decide +kernel, by decide +kernel⟩, List.mem_of_getElem? (i := 1217) (by decide +kernel), List.mem_of_getElem? (i := 1518) (by decide +kernel), List.mem_of_getElem? (i := 1519) (by decide +kernel)⟩
def lw_privs_2 : List (MethodName × Nat) := [(⟨"AlreadyJudgedModel", "isShoe", "(I)Z"⟩, 60), (⟨"AlreadyJudgedModel", "isClaim", "(I)Z"⟩, 60), (⟨"AlreadyJudgedModel", "readSuit", "(I)V"⟩, 60), (⟨"AlreadyJudgedModel", "number", "(II)I"⟩, 60), (⟨"AlreadyJudgedModel", "look", "()I"⟩, 60), (⟨"AlreadyJudgedModel", "wrongAt", "(I)V"⟩, 60), (⟨"AlreadyJudgedModel", "takes", "(I)Z"⟩, 60), (⟨"AlreadyJudgedModel", "wrong", "()V"⟩, 60), (⟨"AlreadyJudgedModel", "readClaims", "(I)V"⟩, 60), (⟨"AlreadyJudgedModel", "wasAsked", "(II)Z"⟩, 60), (⟨"AlreadyJudgedModel", "isNext", "(I)Z"⟩, 60), (⟨"AlreadyJudgedModel", "readPoint", "(I)V"⟩, 60), (⟨"AlreadyJudgedModel", "readEnding", "(I)V"⟩, 60), (⟨"AlreadyJudgedModel", "isSuit", "(I)Z"⟩, 60), (⟨"AlreadyJudgedModel", "bodyKind", "(I)I"⟩, 60), (⟨"AlreadyJudgedModel", "set", "(III)V"⟩, 60)]
theorem lw_r2 : ∀ q ∈ lw_privs_2, lw_okq q := List.forall_mem_cons.mpr ⟨lw_p16, List.forall_mem_cons.mpr ⟨lw_p17, List.forall_mem_cons.mpr ⟨lw_p18, List.forall_mem_cons.mpr ⟨lw_p19, List.forall_mem_cons.mpr ⟨lw_p20, List.forall_mem_cons.mpr ⟨lw_p21, List.forall_mem_cons.mpr ⟨lw_p22, List.forall_mem_cons.mpr ⟨lw_p23, List.forall_mem_cons.mpr ⟨lw_p24, List.forall_mem_cons.mpr ⟨lw_p25, List.forall_mem_cons.mpr ⟨lw_p26, List.forall_mem_cons.mpr ⟨lw_p27, List.forall_mem_cons.mpr ⟨lw_p28, List.forall_mem_cons.mpr ⟨lw_p29, List.forall_mem_cons.mpr ⟨lw_p30, List.forall_mem_cons.mpr ⟨lw_p31, fun _ h => absurd h List.not_mem_nil⟩⟩⟩⟩⟩⟩⟩⟩⟩⟩⟩⟩⟩⟩⟩⟩
theorem lw_p32 : lw_okq (⟨"AlreadyJudgedModel", "changes", "(III)I"⟩, 60) := ⟨⟨by decide +kernel, by decide +kernel⟩, List.mem_of_getElem? (i := 1217) (by decide +kernel), List.mem_of_getElem? (i := 1530) (by decide +kernel), List.mem_of_getElem? (i := 1531) (by decide +kernel)⟩
theorem lw_p33 : lw_okq (⟨"AlreadyJudgedModel", "line", "()V"⟩, 60) := ⟨⟨by decide +kernel, by decide +kernel⟩, List.mem_of_getElem? (i := 1217) (by decide +kernel), List.mem_of_getElem? (i := 1549) (by decide +kernel), List.mem_of_getElem? (i := 1550) (by decide +kernel)⟩
theorem lw_p34 : lw_okq (⟨"AlreadyJudgedModel", "either", "()V"⟩, 60) := ⟨⟨by decide +kernel, by decide +kernel⟩, List.mem_of_getElem? (i := 1217) (by decide +kernel), List.mem_of_getElem? (i := 1553) (by decide +kernel), List.mem_of_getElem? (i := 1554) (by decide +kernel)⟩
theorem lw_p35 : lw_okq (⟨"AlreadyJudgedModel", "both", "()V"⟩, 60) := ⟨⟨by decide +kernel, by decide +kernel⟩, List.mem_of_getElem? (i := 1217) (by decide +kernel), List.mem_of_getElem? (i := 1557) (by decide +kernel), List.mem_of_getElem? (i := 1558) (by decide +kernel)⟩
theorem lw_p36 : lw_okq (⟨"AlreadyJudgedModel", "compared", "()V"⟩, 60) := ⟨⟨by decide +kernel, by decide +kernel⟩, List.mem_of_getElem? (i := 1217) (by decide +kernel), List.mem_of_getElem? (i := 1561) (by decide +kernel), List.mem_of_getElem? (i := 1562) (by decide +kernel)⟩
theorem lw_p37 : lw_okq (⟨"AlreadyJudgedModel", "sum", "()V"⟩, 60) := ⟨⟨by decide +kernel, by decide +kernel⟩, List.mem_of_getElem? (i := 1217) (by decide +kernel), List.mem_of_getElem? (i := 1565) (by decide +kernel), List.mem_of_getElem? (i := 1566) (by decide +kernel)⟩
theorem lw_p38 : lw_okq (⟨"AlreadyJudgedModel", "product", "()V"⟩, 60) := ⟨⟨by decide +kernel, by decide +kernel⟩, List.mem_of_getElem? (i := 1217) (by decide +kernel), List.mem_of_getElem? (i := 1569) (by decide +kernel), List.mem_of_getElem? (i := 1570) (by decide +kernel)⟩
theorem lw_p39 : lw_okq (⟨"AlreadyJudgedModel", "operand", "()V"⟩, 60) := ⟨⟨by decide +kernel, by decide +kernel⟩, List.mem_of_getElem? (i := 1217) (by decide +kernel), List.mem_of_getElem? (i := 1573) (by decide +kernel), List.mem_of_getElem? (i := 1574) (by decide +kernel)⟩
theorem lw_p40 : lw_okq (⟨"AlreadyJudgedModel", "lay", "(II)V"⟩, 60) := ⟨⟨by decide +kernel, by decide +kernel⟩, List.mem_of_getElem? (i := 1217) (by decide +kernel), List.mem_of_getElem? (i := 1580) (by decide +kernel), List.mem_of_getElem? (i := 1581) (by decide +kernel)⟩
theorem lw_p41 : lw_okq (⟨"AlreadyJudgedModel", "opensOne", "()Z"⟩, 60) := ⟨⟨by decide +kernel, by decide +kernel⟩, List.mem_of_getElem? (i := 1217) (by decide +kernel), List.mem_of_getElem? (i := 1584) (by decide +kernel), List.mem_of_getElem? (i := 1585) (by decide +kernel)⟩
theorem lw_p42 : lw_okq (⟨"AlreadyJudgedModel", "figure", "()V"⟩, 60) := ⟨⟨by decide +kernel, by decide +kernel⟩, List.mem_of_getElem? (i := 1217) (by decide +kernel), List.mem_of_getElem? (i := 1588) (by decide +kernel), List.mem_of_getElem? (i := 1589) (by decide +kernel)⟩
theorem lw_p43 : lw_okq (⟨"AlreadyJudgedModel", "findBound", "(III)V"⟩, 60) := ⟨⟨by decide +kernel, by decide +kernel⟩, List.mem_of_getElem? (i := 1217) (by decide +kernel), List.mem_of_getElem? (i := 1596) (by decide +kernel), List.mem_of_getElem? (i := 1597) (by decide +kernel)⟩
theorem lw_p44 : lw_okq (⟨"AlreadyJudgedModel", "clearFacts", "()V"⟩, 60) := ⟨⟨by decide +kernel, by decide +kernel⟩, List.mem_of_getElem? (i := 1217) (by decide +kernel), List.mem_of_getElem? (i := 1600) (by decide +kernel), List.mem_of_getElem? (i := 1601) (by decide +kernel)⟩
theorem lw_p45 : lw_okq (⟨"AlreadyJudgedModel", "isSo", "(II)Z"⟩, 60) := ⟨⟨by decide +kernel, by decide +kernel⟩, List.mem_of_getElem? (i := 1217) (by decide +kernel), List.mem_of_getElem? (i := 1604) (by decide +kernel), List.mem_of_getElem? (i := 1605) (by decide +kernel)⟩
theorem lw_p46 : lw_okq (⟨"AlreadyJudgedModel", "gives", "(I)I"⟩, 60) := ⟨⟨by decide +kernel, by decide +kernel⟩, List.mem_of_getElem? (i := 1217) (by decide +kernel), List.mem_of_getElem? (i := 1608) (by decide +kernel), List.mem_of_getElem? (i := 1609) (by decide +kernel)⟩
theorem lw_p47 : lw_okq (⟨"AlreadyJudgedModel", "worked", "(III)I"⟩, 60) := ⟨⟨by decide +kernel, by decide +kernel⟩, List.mem_of_getElem? (i := 1217) (by decide +kernel), List.mem_of_getElem? (i := 1612) (by decide +kernel), List.mem_of_getElem? (i := 1613) (by decide +kernel)⟩
def lw_privs_3 : List (MethodName × Nat) := [(⟨"AlreadyJudgedModel", "changes", "(III)I"⟩, 60), (⟨"AlreadyJudgedModel", "line", "()V"⟩, 60), (⟨"AlreadyJudgedModel", "either", "()V"⟩, 60), (⟨"AlreadyJudgedModel", "both", "()V"⟩, 60), (⟨"AlreadyJudgedModel", "compared", "()V"⟩, 60), (⟨"AlreadyJudgedModel", "sum", "()V"⟩, 60), (⟨"AlreadyJudgedModel", "product", "()V"⟩, 60), (⟨"AlreadyJudgedModel", "operand", "()V"⟩, 60), (⟨"AlreadyJudgedModel", "lay", "(II)V"⟩, 60), (⟨"AlreadyJudgedModel", "opensOne", "()Z"⟩, 60), (⟨"AlreadyJudgedModel", "figure", "()V"⟩, 60), (⟨"AlreadyJudgedModel", "findBound", "(III)V"⟩, 60), (⟨"AlreadyJudgedModel", "clearFacts", "()V"⟩, 60), (⟨"AlreadyJudgedModel", "isSo", "(II)Z"⟩, 60), (⟨"AlreadyJudgedModel", "gives", "(I)I"⟩, 60), (⟨"AlreadyJudgedModel", "worked", "(III)I"⟩, 60)]
theorem lw_r3 : ∀ q ∈ lw_privs_3, lw_okq q := List.forall_mem_cons.mpr ⟨lw_p32, List.forall_mem_cons.mpr ⟨lw_p33, List.forall_mem_cons.mpr ⟨lw_p34, List.forall_mem_cons.mpr ⟨lw_p35, List.forall_mem_cons.mpr ⟨lw_p36, List.forall_mem_cons.mpr ⟨lw_p37, List.forall_mem_cons.mpr ⟨lw_p38, List.forall_mem_cons.mpr ⟨lw_p39, List.forall_mem_cons.mpr ⟨lw_p40, List.forall_mem_cons.mpr ⟨lw_p41, List.forall_mem_cons.mpr ⟨lw_p42, List.forall_mem_cons.mpr ⟨lw_p43, List.forall_mem_cons.mpr ⟨lw_p44, List.forall_mem_cons.mpr ⟨lw_p45, List.forall_mem_cons.mpr ⟨lw_p46, List.forall_mem_cons.mpr ⟨lw_p47, fun _ h => absurd h List.not_mem_nil⟩⟩⟩⟩⟩⟩⟩⟩⟩⟩⟩⟩⟩⟩⟩⟩
theorem lw_p48 : lw_okq (⟨"AlreadyJudgedModel", "firstShoe", "(III)I"⟩, 60) := ⟨⟨by decide +kernel, by decide +kernel⟩, List.mem_of_getElem? (i := 1217) (by decide +kernel), List.mem_of_getElem? (i := 1619) (by decide +kernel), List.mem_of_getElem? (i := 1620) (by decide +kernel)⟩
theorem lw_p49 : lw_okq (⟨"AlreadyJudgedModel", "doesCount", "(III)Z"⟩, 60) := ⟨⟨by decide +kernel, by decide +kernel⟩, List.mem_of_getElem? (i := 1217) (by decide +kernel), List.mem_of_getElem? (i := 1627) (by decide +kernel), List.mem_of_getElem? (i := 1628) (by decide +kernel)⟩
theorem lw_p50 : lw_okq (⟨"AlreadyJudgedModel", "findSuit", "(III)V"⟩, 60) := ⟨⟨by decide +kernel, by decide +kernel⟩, List.mem_of_getElem? (i := 1217) (by decide +kernel), List.mem_of_getElem? (i := 1631) (by decide +kernel), List.mem_of_getElem? (i := 1632) (by decide +kernel)⟩
theorem lw_p51 : lw_okq (⟨"AlreadyJudgedModel", "kindOn", "(II)I"⟩, 60) := ⟨⟨by decide +kernel, by decide +kernel⟩, List.mem_of_getElem? (i := 1217) (by decide +kernel), List.mem_of_getElem? (i := 1635) (by decide +kernel), List.mem_of_getElem? (i := 1636) (by decide +kernel)⟩
theorem lw_p52 : lw_okq (⟨"AlreadyJudgedModel", "isAsk", "(III)Z"⟩, 60) := ⟨⟨by decide +kernel, by decide +kernel⟩, List.mem_of_getElem? (i := 1217) (by decide +kernel), List.mem_of_getElem? (i := 1643) (by decide +kernel), List.mem_of_getElem? (i := 1644) (by decide +kernel)⟩
theorem lw_p53 : lw_okq (⟨"AlreadyJudgedModel", "sideBy", "(II)I"⟩, 60) := ⟨⟨by decide +kernel, by decide +kernel⟩, List.mem_of_getElem? (i := 1217) (by decide +kernel), List.mem_of_getElem? (i := 1650) (by decide +kernel), List.mem_of_getElem? (i := 1651) (by decide +kernel)⟩
theorem lw_p54 : lw_okq (⟨"AlreadyJudgedModel", "sideOn", "(II)I"⟩, 60) := ⟨⟨by decide +kernel, by decide +kernel⟩, List.mem_of_getElem? (i := 1217) (by decide +kernel), List.mem_of_getElem? (i := 1654) (by decide +kernel), List.mem_of_getElem? (i := 1655) (by decide +kernel)⟩
theorem lw_p55 : lw_okq (⟨"AlreadyJudgedModel", "metBy", "(IIIIIII)I"⟩, 60) := ⟨⟨by decide +kernel, by decide +kernel⟩, List.mem_of_getElem? (i := 1217) (by decide +kernel), List.mem_of_getElem? (i := 1658) (by decide +kernel), List.mem_of_getElem? (i := 1659) (by decide +kernel)⟩
theorem lw_p56 : lw_okq (⟨"AlreadyJudgedModel", "doesClose", "(IIIIII)Z"⟩, 60) := ⟨⟨by decide +kernel, by decide +kernel⟩, List.mem_of_getElem? (i := 1217) (by decide +kernel), List.mem_of_getElem? (i := 1662) (by decide +kernel), List.mem_of_getElem? (i := 1663) (by decide +kernel)⟩
theorem lw_p57 : lw_okq (⟨"AlreadyJudgedModel", "isBound", "(II)Z"⟩, 60) := ⟨⟨by decide +kernel, by decide +kernel⟩, List.mem_of_getElem? (i := 1217) (by decide +kernel), List.mem_of_getElem? (i := 1666) (by decide +kernel), List.mem_of_getElem? (i := 1667) (by decide +kernel)⟩
theorem lw_p58 : lw_okq (⟨"AlreadyJudgedModel", "pointBy", "(IIIIII)I"⟩, 60) := ⟨⟨by decide +kernel, by decide +kernel⟩, List.mem_of_getElem? (i := 1217) (by decide +kernel), List.mem_of_getElem? (i := 1677) (by decide +kernel), List.mem_of_getElem? (i := 1678) (by decide +kernel)⟩
theorem lw_p59 : lw_okq (⟨"AlreadyJudgedModel", "orders", "(IIIIII)V"⟩, 60) := ⟨⟨by decide +kernel, by decide +kernel⟩, List.mem_of_getElem? (i := 1217) (by decide +kernel), List.mem_of_getElem? (i := 1710) (by decide +kernel), List.mem_of_getElem? (i := 1711) (by decide +kernel)⟩
theorem lw_p60 : lw_okq (⟨"AlreadyJudgedModel", "tryOut", "(IIII)V"⟩, 60) := ⟨⟨by decide +kernel, by decide +kernel⟩, List.mem_of_getElem? (i := 1217) (by decide +kernel), List.mem_of_getElem? (i := 1714) (by decide +kernel), List.mem_of_getElem? (i := 1715) (by decide +kernel)⟩
theorem lw_p61 : lw_okq (⟨"AlreadyJudgedModel", "ringOn", "(IIIII)Z"⟩, 60) := ⟨⟨by decide +kernel, by decide +kernel⟩, List.mem_of_getElem? (i := 1217) (by decide +kernel), List.mem_of_getElem? (i := 1729) (by decide +kernel), List.mem_of_getElem? (i := 1730) (by decide +kernel)⟩
theorem lw_p62 : lw_okq (⟨"AlreadyJudgedModel", "heeds", "(II)Z"⟩, 60) := ⟨⟨by decide +kernel, by decide +kernel⟩, List.mem_of_getElem? (i := 1217) (by decide +kernel), List.mem_of_getElem? (i := 1733) (by decide +kernel), List.mem_of_getElem? (i := 1734) (by decide +kernel)⟩
theorem lw_p63 : lw_okq (⟨"AlreadyJudgedModel", "closes", "(II)I"⟩, 60) := ⟨⟨by decide +kernel, by decide +kernel⟩, List.mem_of_getElem? (i := 1217) (by decide +kernel), List.mem_of_getElem? (i := 1749) (by decide +kernel), List.mem_of_getElem? (i := 1750) (by decide +kernel)⟩
def lw_privs_4 : List (MethodName × Nat) := [(⟨"AlreadyJudgedModel", "firstShoe", "(III)I"⟩, 60), (⟨"AlreadyJudgedModel", "doesCount", "(III)Z"⟩, 60), (⟨"AlreadyJudgedModel", "findSuit", "(III)V"⟩, 60), (⟨"AlreadyJudgedModel", "kindOn", "(II)I"⟩, 60), (⟨"AlreadyJudgedModel", "isAsk", "(III)Z"⟩, 60), (⟨"AlreadyJudgedModel", "sideBy", "(II)I"⟩, 60), (⟨"AlreadyJudgedModel", "sideOn", "(II)I"⟩, 60), (⟨"AlreadyJudgedModel", "metBy", "(IIIIIII)I"⟩, 60), (⟨"AlreadyJudgedModel", "doesClose", "(IIIIII)Z"⟩, 60), (⟨"AlreadyJudgedModel", "isBound", "(II)Z"⟩, 60), (⟨"AlreadyJudgedModel", "pointBy", "(IIIIII)I"⟩, 60), (⟨"AlreadyJudgedModel", "orders", "(IIIIII)V"⟩, 60), (⟨"AlreadyJudgedModel", "tryOut", "(IIII)V"⟩, 60), (⟨"AlreadyJudgedModel", "ringOn", "(IIIII)Z"⟩, 60), (⟨"AlreadyJudgedModel", "heeds", "(II)Z"⟩, 60), (⟨"AlreadyJudgedModel", "closes", "(II)I"⟩, 60)]
theorem lw_r4 : ∀ q ∈ lw_privs_4, lw_okq q := List.forall_mem_cons.mpr ⟨lw_p48, List.forall_mem_cons.mpr ⟨lw_p49, List.forall_mem_cons.mpr ⟨lw_p50, List.forall_mem_cons.mpr ⟨lw_p51, List.forall_mem_cons.mpr ⟨lw_p52, List.forall_mem_cons.mpr ⟨lw_p53, List.forall_mem_cons.mpr ⟨lw_p54, List.forall_mem_cons.mpr ⟨lw_p55, List.forall_mem_cons.mpr ⟨lw_p56, List.forall_mem_cons.mpr ⟨lw_p57, List.forall_mem_cons.mpr ⟨lw_p58, List.forall_mem_cons.mpr ⟨lw_p59, List.forall_mem_cons.mpr ⟨lw_p60, List.forall_mem_cons.mpr ⟨lw_p61, List.forall_mem_cons.mpr ⟨lw_p62, List.forall_mem_cons.mpr ⟨lw_p63, fun _ h => absurd h List.not_mem_nil⟩⟩⟩⟩⟩⟩⟩⟩⟩⟩⟩⟩⟩⟩⟩⟩
theorem lw_p64 : lw_okq (⟨"AlreadyJudgedModel", "ran", "(I)V"⟩, 60) := ⟨⟨by decide +kernel, by decide +kernel⟩, List.mem_of_getElem? (i := 1217) (by decide +kernel), List.mem_of_getElem? (i := 1753) (by decide +kernel), List.mem_of_getElem? (i := 1754) (by decide +kernel)⟩
theorem lw_p65 : lw_okq (⟨"AlreadyJudgedModel", "plainCloses", "(II)I"⟩, 60) := ⟨⟨by decide +kernel, by decide +kernel⟩, List.mem_of_getElem? (i := 1217) (by decide +kernel), List.mem_of_getElem? (i := 1757) (by decide +kernel), List.mem_of_getElem? (i := 1758) (by decide +kernel)⟩
theorem lw_p66 : lw_okq (⟨"AlreadyJudgedModel", "settles", "(II)I"⟩, 60) := ⟨⟨by decide +kernel, by decide +kernel⟩, List.mem_of_getElem? (i := 1217) (by decide +kernel), List.mem_of_getElem? (i := 1761) (by decide +kernel), List.mem_of_getElem? (i := 1762) (by decide +kernel)⟩
theorem lw_p67 : lw_okq (⟨"AlreadyJudgedModel", "plainSettles", "(II)I"⟩, 60) := ⟨⟨by decide +kernel, by decide +kernel⟩, List.mem_of_getElem? (i := 1217) (by decide +kernel), List.mem_of_getElem? (i := 1765) (by decide +kernel), List.mem_of_getElem? (i := 1766) (by decide +kernel)⟩
theorem lw_p68 : lw_okq (⟨"AlreadyJudgedModel", "meritsSettles", "(II)I"⟩, 60) := ⟨⟨by decide +kernel, by decide +kernel⟩, List.mem_of_getElem? (i := 1217) (by decide +kernel), List.mem_of_getElem? (i := 1769) (by decide +kernel), List.mem_of_getElem? (i := 1770) (by decide +kernel)⟩
theorem lw_p69 : lw_okq (⟨"AlreadyJudgedModel", "binds", "(II)I"⟩, 60) := ⟨⟨by decide +kernel, by decide +kernel⟩, List.mem_of_getElem? (i := 1217) (by decide +kernel), List.mem_of_getElem? (i := 1773) (by decide +kernel), List.mem_of_getElem? (i := 1774) (by decide +kernel)⟩
theorem lw_p70 : lw_okq (⟨"AlreadyJudgedModel", "plainBinds", "(II)I"⟩, 60) := ⟨⟨by decide +kernel, by decide +kernel⟩, List.mem_of_getElem? (i := 1217) (by decide +kernel), List.mem_of_getElem? (i := 1780) (by decide +kernel), List.mem_of_getElem? (i := 1781) (by decide +kernel)⟩
theorem lw_p71 : lw_okq (⟨"AlreadyJudgedModel", "tells", "(II)I"⟩, 60) := ⟨⟨by decide +kernel, by decide +kernel⟩, List.mem_of_getElem? (i := 1217) (by decide +kernel), List.mem_of_getElem? (i := 1784) (by decide +kernel), List.mem_of_getElem? (i := 1785) (by decide +kernel)⟩
theorem lw_p72 : lw_okq (⟨"AlreadyJudgedModel", "plainTells", "(II)I"⟩, 60) := ⟨⟨by decide +kernel, by decide +kernel⟩, List.mem_of_getElem? (i := 1217) (by decide +kernel), List.mem_of_getElem? (i := 1788) (by decide +kernel), List.mem_of_getElem? (i := 1789) (by decide +kernel)⟩
theorem lw_p73 : lw_okq (⟨"AlreadyJudgedModel", "whyNoPlace", "(II)I"⟩, 60) := ⟨⟨by decide +kernel, by decide +kernel⟩, List.mem_of_getElem? (i := 1217) (by decide +kernel), List.mem_of_getElem? (i := 1812) (by decide +kernel), List.mem_of_getElem? (i := 1813) (by decide +kernel)⟩
def lw_privs_5 : List (MethodName × Nat) := [(⟨"AlreadyJudgedModel", "ran", "(I)V"⟩, 60), (⟨"AlreadyJudgedModel", "plainCloses", "(II)I"⟩, 60), (⟨"AlreadyJudgedModel", "settles", "(II)I"⟩, 60), (⟨"AlreadyJudgedModel", "plainSettles", "(II)I"⟩, 60), (⟨"AlreadyJudgedModel", "meritsSettles", "(II)I"⟩, 60), (⟨"AlreadyJudgedModel", "binds", "(II)I"⟩, 60), (⟨"AlreadyJudgedModel", "plainBinds", "(II)I"⟩, 60), (⟨"AlreadyJudgedModel", "tells", "(II)I"⟩, 60), (⟨"AlreadyJudgedModel", "plainTells", "(II)I"⟩, 60), (⟨"AlreadyJudgedModel", "whyNoPlace", "(II)I"⟩, 60)]
theorem lw_r5 : ∀ q ∈ lw_privs_5, lw_okq q := List.forall_mem_cons.mpr ⟨lw_p64, List.forall_mem_cons.mpr ⟨lw_p65, List.forall_mem_cons.mpr ⟨lw_p66, List.forall_mem_cons.mpr ⟨lw_p67, List.forall_mem_cons.mpr ⟨lw_p68, List.forall_mem_cons.mpr ⟨lw_p69, List.forall_mem_cons.mpr ⟨lw_p70, List.forall_mem_cons.mpr ⟨lw_p71, List.forall_mem_cons.mpr ⟨lw_p72, List.forall_mem_cons.mpr ⟨lw_p73, fun _ h => absurd h List.not_mem_nil⟩⟩⟩⟩⟩⟩⟩⟩⟩⟩
def lw_privs : List (MethodName × Nat) := lw_privs_1 ++ (lw_privs_2 ++ (lw_privs_3 ++ (lw_privs_4 ++ (lw_privs_5))))
def lw_tbl : List Cond := k2_sels lw_privs ++ tables_1
theorem lw_privs_ok : ∀ q ∈ lw_privs, lw_okq q := by
  show ∀ q ∈ lw_privs_1 ++ (lw_privs_2 ++ (lw_privs_3 ++ (lw_privs_4 ++ (lw_privs_5)))), lw_okq q
  exact List.forall_mem_append.mpr ⟨lw_r1, List.forall_mem_append.mpr ⟨lw_r2, List.forall_mem_append.mpr ⟨lw_r3, List.forall_mem_append.mpr ⟨lw_r4, lw_r5⟩⟩⟩⟩
end
section
def RX0 : String := "AlreadyJudged$Acts"
def TX0 : u_T := fun k => match k with
  | 0 => ("AlreadyJudged$Acts", "bodies", "[I", true)
  | 1 => ("AlreadyJudged$Acts", "ran", "I", false)
  | 2 => ("AlreadyJudged$Acts", "kind", "I", false)
  | 3 => ("AlreadyJudged$Acts", "number", "I", false)
  | _ => ("AlreadyJudged$Acts", "claims", "I", false)
def tyX0 : Nat → FieldType := fun k => match k with
  | 0 => .array .int
  | 1 => .int
  | 2 => .int
  | 3 => .int
  | _ => .int
abbrev wsX00 : List Cond := u_ws RX0 TX0 5
theorem nmX0 : ∀ a, a < 5 → ∀ b, b < 5 → a ≠ b → (TX0 a).2.1 ≠ (TX0 b).2.1 := by decide +kernel
theorem tyX0_ok : ∀ k, k < 5 → parseFieldDescriptor (TX0 k).2.2.1 = some (tyX0 k) := by decide +kernel
def RX1 : String := "AlreadyJudged$Changes"
def TX1 : u_T := fun k => match k with
  | 0 => ("AlreadyJudged$Changes", "court", "LAlreadyJudged$Court;", true)
  | 1 => ("AlreadyJudged$Changes", "sorts", "[I", true)
  | 2 => ("AlreadyJudged$Changes", "numbers", "[I", true)
  | 3 => ("AlreadyJudged$Changes", "befores", "[I", true)
  | 4 => ("AlreadyJudged$Changes", "afters", "[I", true)
  | 5 => ("AlreadyJudged$Changes", "done", "I", false)
  | _ => ("AlreadyJudged$Changes", "size", "I", false)
def tyX1 : Nat → FieldType := fun k => match k with
  | 0 => .object "AlreadyJudged$Court"
  | 1 => .array .int
  | 2 => .array .int
  | 3 => .array .int
  | 4 => .array .int
  | 5 => .int
  | _ => .int
abbrev wsX10 : List Cond := u_ws RX1 TX1 7
theorem nmX1 : ∀ a, a < 7 → ∀ b, b < 7 → a ≠ b → (TX1 a).2.1 ≠ (TX1 b).2.1 := by decide +kernel
theorem tyX1_ok : ∀ k, k < 7 → parseFieldDescriptor (TX1 k).2.2.1 = some (tyX1 k) := by decide +kernel
def RX2 : String := "AlreadyJudged$Court"
def TX2 : u_T := fun k => match k with
  | 0 => ("AlreadyJudged$Court", "shoePerson", "[I", true)
  | 1 => ("AlreadyJudged$Court", "shoeOther", "[I", true)
  | 2 => ("AlreadyJudged$Court", "shoeSort", "[I", true)
  | 3 => ("AlreadyJudged$Court", "shoeDay", "[I", true)
  | 4 => ("AlreadyJudged$Court", "claimWho", "[I", true)
  | 5 => ("AlreadyJudged$Court", "claimAgainst", "[I", true)
  | 6 => ("AlreadyJudged$Court", "claimFact", "[I", true)
  | 7 => ("AlreadyJudged$Court", "claimPlea", "[I", true)
  | 8 => ("AlreadyJudged$Court", "suits", "[LAlreadyJudged$Suit;", true)
  | 9 => ("AlreadyJudged$Court", "laws", "[LAlreadyJudged$Law;", true)
  | 10 => ("AlreadyJudged$Court", "shoeCount", "I", false)
  | 11 => ("AlreadyJudged$Court", "claimCount", "I", false)
  | _ => ("AlreadyJudged$Court", "suitCount", "I", false)
def tyX2 : Nat → FieldType := fun k => match k with
  | 0 => .array .int
  | 1 => .array .int
  | 2 => .array .int
  | 3 => .array .int
  | 4 => .array .int
  | 5 => .array .int
  | 6 => .array .int
  | 7 => .array .int
  | 8 => .array (.object "AlreadyJudged$Suit")
  | 9 => .array (.object "AlreadyJudged$Law")
  | 10 => .int
  | 11 => .int
  | _ => .int
abbrev wsX20 : List Cond := u_ws RX2 TX2 13
theorem nmX2 : ∀ a, a < 13 → ∀ b, b < 13 → a ≠ b → (TX2 a).2.1 ≠ (TX2 b).2.1 := by decide +kernel
theorem tyX2_ok : ∀ k, k < 13 → parseFieldDescriptor (TX2 k).2.2.1 = some (tyX2 k) := by decide +kernel
def RX3 : String := "AlreadyJudged$Inquiry"
def TX3 : u_T := fun k => match k with
  | 0 => ("AlreadyJudged$Inquiry", "court", "LAlreadyJudged$Court;", true)
  | 1 => ("AlreadyJudged$Inquiry", "names", "[I", true)
  | 2 => ("AlreadyJudged$Inquiry", "stack", "[I", true)
  | 3 => ("AlreadyJudged$Inquiry", "judgedShoes", "[J", true)
  | 4 => ("AlreadyJudged$Inquiry", "bindingShoes", "[J", true)
  | 5 => ("AlreadyJudged$Inquiry", "boundAs", "[I", true)
  | 6 => ("AlreadyJudged$Inquiry", "standing", "[I", true)
  | 7 => ("AlreadyJudged$Inquiry", "arriving", "[I", true)
  | 8 => ("AlreadyJudged$Inquiry", "day", "I", false)
  | 9 => ("AlreadyJudged$Inquiry", "land", "I", false)
  | _ => ("AlreadyJudged$Inquiry", "shoeLeftOut", "I", false)
def tyX3 : Nat → FieldType := fun k => match k with
  | 0 => .object "AlreadyJudged$Court"
  | 1 => .array .int
  | 2 => .array .int
  | 3 => .array .long
  | 4 => .array .long
  | 5 => .array .int
  | 6 => .array .int
  | 7 => .array .int
  | 8 => .int
  | 9 => .int
  | _ => .int
abbrev wsX30 : List Cond := u_ws RX3 TX3 11
theorem nmX3 : ∀ a, a < 11 → ∀ b, b < 11 → a ≠ b → (TX3 a).2.1 ≠ (TX3 b).2.1 := by decide +kernel
theorem tyX3_ok : ∀ k, k < 11 → parseFieldDescriptor (TX3 k).2.2.1 = some (tyX3 k) := by decide +kernel
def RX4 : String := "AlreadyJudged$Law"
def TX4 : u_T := fun k => match k with
  | _ => ("AlreadyJudged$Law", "code", "[I", true)
def tyX4 : Nat → FieldType := fun k => match k with
  | _ => .array .int
abbrev wsX40 : List Cond := u_ws RX4 TX4 1
theorem nmX4 : ∀ a, a < 1 → ∀ b, b < 1 → a ≠ b → (TX4 a).2.1 ≠ (TX4 b).2.1 := by decide +kernel
theorem tyX4_ok : ∀ k, k < 1 → parseFieldDescriptor (TX4 k).2.2.1 = some (tyX4 k) := by decide +kernel
def RX5 : String := "AlreadyJudged$LawReader"
def TX5 : u_T := fun k => match k with
  | 0 => ("AlreadyJudged$LawReader", "tape", "LAlreadyJudged$Tape;", true)
  | 1 => ("AlreadyJudged$LawReader", "code", "[I", true)
  | 2 => ("AlreadyJudged$LawReader", "size", "I", false)
  | 3 => ("AlreadyJudged$LawReader", "at", "I", false)
  | _ => ("AlreadyJudged$LawReader", "fault", "I", false)
def tyX5 : Nat → FieldType := fun k => match k with
  | 0 => .object "AlreadyJudged$Tape"
  | 1 => .array .int
  | 2 => .int
  | 3 => .int
  | _ => .int
abbrev wsX50 : List Cond := u_ws RX5 TX5 5
theorem nmX5 : ∀ a, a < 5 → ∀ b, b < 5 → a ≠ b → (TX5 a).2.1 ≠ (TX5 b).2.1 := by decide +kernel
theorem tyX5_ok : ∀ k, k < 5 → parseFieldDescriptor (TX5 k).2.2.1 = some (tyX5 k) := by decide +kernel
def RX6 : String := "AlreadyJudged$Place"
def TX6 : u_T := fun k => match k with
  | 0 => ("AlreadyJudged$Place", "holds", "I", false)
  | 1 => ("AlreadyJudged$Place", "suit", "I", false)
  | 2 => ("AlreadyJudged$Place", "size", "I", false)
  | _ => ("AlreadyJudged$Place", "elements", "[J", true)
def tyX6 : Nat → FieldType := fun k => match k with
  | 0 => .int
  | 1 => .int
  | 2 => .int
  | _ => .array .long
abbrev wsX60 : List Cond := u_ws RX6 TX6 4
theorem nmX6 : ∀ a, a < 4 → ∀ b, b < 4 → a ≠ b → (TX6 a).2.1 ≠ (TX6 b).2.1 := by decide +kernel
theorem tyX6_ok : ∀ k, k < 4 → parseFieldDescriptor (TX6 k).2.2.1 = some (tyX6 k) := by decide +kernel
def RX7 : String := "AlreadyJudged$Suit"
def TX7 : u_T := fun k => match k with
  | 0 => ("AlreadyJudged$Suit", "who", "I", false)
  | 1 => ("AlreadyJudged$Suit", "against", "I", false)
  | 2 => ("AlreadyJudged$Suit", "kind", "I", false)
  | 3 => ("AlreadyJudged$Suit", "won", "I", false)
  | 4 => ("AlreadyJudged$Suit", "day", "I", false)
  | 5 => ("AlreadyJudged$Suit", "land", "I", false)
  | 6 => ("AlreadyJudged$Suit", "undoneFrom", "I", false)
  | 7 => ("AlreadyJudged$Suit", "asked", "[I", true)
  | 8 => ("AlreadyJudged$Suit", "askedCount", "I", false)
  | 9 => ("AlreadyJudged$Suit", "askedBits", "I", false)
  | 10 => ("AlreadyJudged$Suit", "first", "I", false)
  | 11 => ("AlreadyJudged$Suit", "foundSo", "I", false)
  | 12 => ("AlreadyJudged$Suit", "foundNot", "I", false)
  | 13 => ("AlreadyJudged$Suit", "fought", "I", false)
  | _ => ("AlreadyJudged$Suit", "needed", "I", false)
def tyX7 : Nat → FieldType := fun k => match k with
  | 0 => .int
  | 1 => .int
  | 2 => .int
  | 3 => .int
  | 4 => .int
  | 5 => .int
  | 6 => .int
  | 7 => .array .int
  | 8 => .int
  | 9 => .int
  | 10 => .int
  | 11 => .int
  | 12 => .int
  | 13 => .int
  | _ => .int
abbrev wsX70 : List Cond := u_ws RX7 TX7 15
theorem nmX7 : ∀ a, a < 15 → ∀ b, b < 15 → a ≠ b → (TX7 a).2.1 ≠ (TX7 b).2.1 := by decide +kernel
theorem tyX7_ok : ∀ k, k < 15 → parseFieldDescriptor (TX7 k).2.2.1 = some (tyX7 k) := by decide +kernel
def RX8 : String := "AlreadyJudged$SuitReader"
def TX8 : u_T := fun k => match k with
  | 0 => ("AlreadyJudged$SuitReader", "tape", "LAlreadyJudged$Tape;", true)
  | 1 => ("AlreadyJudged$SuitReader", "spare", "LAlreadyJudged$Suit;", false)
  | 2 => ("AlreadyJudged$SuitReader", "at", "I", false)
  | 3 => ("AlreadyJudged$SuitReader", "numberAt", "I", false)
  | _ => ("AlreadyJudged$SuitReader", "fault", "I", false)
def tyX8 : Nat → FieldType := fun k => match k with
  | 0 => .object "AlreadyJudged$Tape"
  | 1 => .object "AlreadyJudged$Suit"
  | 2 => .int
  | 3 => .int
  | _ => .int
abbrev wsX80 : List Cond := u_ws RX8 TX8 5
theorem nmX8 : ∀ a, a < 5 → ∀ b, b < 5 → a ≠ b → (TX8 a).2.1 ≠ (TX8 b).2.1 := by decide +kernel
theorem tyX8_ok : ∀ k, k < 5 → parseFieldDescriptor (TX8 k).2.2.1 = some (tyX8 k) := by decide +kernel
def RX9 : String := "AlreadyJudged$Tape"
def TX9 : u_T := fun k => match k with
  | 0 => ("AlreadyJudged$Tape", "bytes", "[I", true)
  | _ => ("AlreadyJudged$Tape", "size", "I", false)
def tyX9 : Nat → FieldType := fun k => match k with
  | 0 => .array .int
  | _ => .int
abbrev wsX90 : List Cond := u_ws RX9 TX9 2
theorem nmX9 : ∀ a, a < 2 → ∀ b, b < 2 → a ≠ b → (TX9 a).2.1 ≠ (TX9 b).2.1 := by decide +kernel
theorem tyX9_ok : ∀ k, k < 2 → parseFieldDescriptor (TX9 k).2.2.1 = some (tyX9 k) := by decide +kernel
def RX10 : String := "AlreadyJudged$Wishes"
def TX10 : u_T := fun k => match k with
  | 0 => ("AlreadyJudged$Wishes", "claims", "[I", true)
  | 1 => ("AlreadyJudged$Wishes", "wins", "[I", true)
  | 2 => ("AlreadyJudged$Wishes", "size", "I", false)
  | 3 => ("AlreadyJudged$Wishes", "closed", "[I", true)
  | 4 => ("AlreadyJudged$Wishes", "closers", "[I", true)
  | 5 => ("AlreadyJudged$Wishes", "placeOn", "[I", true)
  | 6 => ("AlreadyJudged$Wishes", "brought", "LAlreadyJudged$Suit;", true)
  | 7 => ("AlreadyJudged$Wishes", "best", "I", false)
  | _ => ("AlreadyJudged$Wishes", "bestRow", "I", false)
def tyX10 : Nat → FieldType := fun k => match k with
  | 0 => .array .int
  | 1 => .array .int
  | 2 => .int
  | 3 => .array .int
  | 4 => .array .int
  | 5 => .array .int
  | 6 => .object "AlreadyJudged$Suit"
  | 7 => .int
  | _ => .int
abbrev wsX100 : List Cond := u_ws RX10 TX10 9
theorem nmX10 : ∀ a, a < 9 → ∀ b, b < 9 → a ≠ b → (TX10 a).2.1 ≠ (TX10 b).2.1 := by decide +kernel
theorem tyX10_ok : ∀ k, k < 9 → parseFieldDescriptor (TX10 k).2.2.1 = some (tyX10 k) := by decide +kernel
def RX11 : String := "AlreadyJudged"
def TX11 : u_T := fun k => match k with
  | 0 => ("AlreadyJudged", "court", "LAlreadyJudged$Court;", true)
  | 1 => ("AlreadyJudged", "inquiry", "LAlreadyJudged$Inquiry;", true)
  | 2 => ("AlreadyJudged", "tape", "LAlreadyJudged$Tape;", true)
  | 3 => ("AlreadyJudged", "suitReader", "LAlreadyJudged$SuitReader;", true)
  | 4 => ("AlreadyJudged", "lawReader", "LAlreadyJudged$LawReader;", true)
  | 5 => ("AlreadyJudged", "wishes", "LAlreadyJudged$Wishes;", true)
  | 6 => ("AlreadyJudged", "changes", "LAlreadyJudged$Changes;", true)
  | 7 => ("AlreadyJudged", "acts", "LAlreadyJudged$Acts;", true)
  | 8 => ("AlreadyJudged", "places", "[LAlreadyJudged$Place;", true)
  | 9 => ("AlreadyJudged", "covers", "[I", true)
  | _ => ("AlreadyJudged", "heeded", "[I", true)
def tyX11 : Nat → FieldType := fun k => match k with
  | 0 => .object "AlreadyJudged$Court"
  | 1 => .object "AlreadyJudged$Inquiry"
  | 2 => .object "AlreadyJudged$Tape"
  | 3 => .object "AlreadyJudged$SuitReader"
  | 4 => .object "AlreadyJudged$LawReader"
  | 5 => .object "AlreadyJudged$Wishes"
  | 6 => .object "AlreadyJudged$Changes"
  | 7 => .object "AlreadyJudged$Acts"
  | 8 => .array (.object "AlreadyJudged$Place")
  | 9 => .array .int
  | _ => .array .int
abbrev wsX110 : List Cond := u_ws RX11 TX11 11
theorem nmX11 : ∀ a, a < 11 → ∀ b, b < 11 → a ≠ b → (TX11 a).2.1 ≠ (TX11 b).2.1 := by decide +kernel
theorem tyX11_ok : ∀ k, k < 11 → parseFieldDescriptor (TX11 k).2.2.1 = some (tyX11 k) := by decide +kernel
def RX12 : String := "AlreadyJudgedModel"
def TX12 : u_T := fun k => match k with
  | 0 => ("AlreadyJudgedModel", "code", "I", false)
  | 1 => ("AlreadyJudgedModel", "shoes", "I", false)
  | 2 => ("AlreadyJudgedModel", "wearer", "[I", true)
  | 3 => ("AlreadyJudgedModel", "wornFor", "[I", true)
  | 4 => ("AlreadyJudgedModel", "shoeSort", "[I", true)
  | 5 => ("AlreadyJudgedModel", "shoeDay", "[I", true)
  | 6 => ("AlreadyJudgedModel", "claims", "I", false)
  | 7 => ("AlreadyJudgedModel", "claimBy", "[I", true)
  | 8 => ("AlreadyJudgedModel", "claimOn", "[I", true)
  | 9 => ("AlreadyJudgedModel", "factOf", "[I", true)
  | 10 => ("AlreadyJudgedModel", "pleaOf", "[I", true)
  | 11 => ("AlreadyJudgedModel", "tape", "[B", true)
  | 12 => ("AlreadyJudgedModel", "taped", "I", false)
  | 13 => ("AlreadyJudgedModel", "here", "I", false)
  | 14 => ("AlreadyJudgedModel", "fault", "I", false)
  | 15 => ("AlreadyJudgedModel", "suits", "I", false)
  | 16 => ("AlreadyJudgedModel", "suedBy", "[I", true)
  | 17 => ("AlreadyJudgedModel", "suedOn", "[I", true)
  | 18 => ("AlreadyJudgedModel", "endKind", "[I", true)
  | 19 => ("AlreadyJudgedModel", "isWon", "[I", true)
  | 20 => ("AlreadyJudgedModel", "suitDay", "[I", true)
  | 21 => ("AlreadyJudgedModel", "suitLand", "[I", true)
  | 22 => ("AlreadyJudgedModel", "undoneFrom", "[I", true)
  | 23 => ("AlreadyJudgedModel", "askedMany", "[I", true)
  | 24 => ("AlreadyJudgedModel", "firstMany", "[I", true)
  | 25 => ("AlreadyJudgedModel", "asked", "[B", true)
  | 26 => ("AlreadyJudgedModel", "pointIs", "[B", true)
  | 27 => ("AlreadyJudgedModel", "doneMany", "I", false)
  | 28 => ("AlreadyJudgedModel", "undoneMany", "I", false)
  | 29 => ("AlreadyJudgedModel", "changeOf", "[I", true)
  | 30 => ("AlreadyJudgedModel", "changeAt", "[I", true)
  | 31 => ("AlreadyJudgedModel", "before", "[I", true)
  | 32 => ("AlreadyJudgedModel", "behind", "[I", true)
  | 33 => ("AlreadyJudgedModel", "open", "I", false)
  | 34 => ("AlreadyJudgedModel", "laid", "I", false)
  | 35 => ("AlreadyJudgedModel", "act", "[B", true)
  | 36 => ("AlreadyJudgedModel", "with", "[I", true)
  | 37 => ("AlreadyJudgedModel", "lineMany", "[I", true)
  | 38 => ("AlreadyJudgedModel", "testEnd", "[S", true)
  | 39 => ("AlreadyJudgedModel", "lineEnd", "[S", true)
  | 40 => ("AlreadyJudgedModel", "facts", "[I", true)
  | 41 => ("AlreadyJudgedModel", "pile", "[I", true)
  | 42 => ("AlreadyJudgedModel", "doesBind", "[Z", true)
  | 43 => ("AlreadyJudgedModel", "boundAs", "[I", true)
  | 44 => ("AlreadyJudgedModel", "comesTo", "[I", true)
  | 45 => ("AlreadyJudgedModel", "isBoth", "Z", false)
  | 46 => ("AlreadyJudgedModel", "wished", "I", false)
  | 47 => ("AlreadyJudgedModel", "wishClaim", "[I", true)
  | 48 => ("AlreadyJudgedModel", "wishWon", "[I", true)
  | 49 => ("AlreadyJudgedModel", "bestMany", "I", false)
  | 50 => ("AlreadyJudgedModel", "bestRow", "I", false)
  | 51 => ("AlreadyJudgedModel", "fewest", "[I", true)
  | 52 => ("AlreadyJudgedModel", "serves", "[I", true)
  | 53 => ("AlreadyJudgedModel", "ringDigits", "I", false)
  | 54 => ("AlreadyJudgedModel", "traces", "I", false)
  | 55 => ("AlreadyJudgedModel", "traced", "[I", true)
  | 56 => ("AlreadyJudgedModel", "holds", "[I", true)
  | 57 => ("AlreadyJudgedModel", "size", "[I", true)
  | 58 => ("AlreadyJudgedModel", "elements", "[J", true)
  | _ => ("AlreadyJudgedModel", "shifted", "[J", true)
def tyX12 : Nat → FieldType := fun k => match k with
  | 0 => .int
  | 1 => .int
  | 2 => .array .int
  | 3 => .array .int
  | 4 => .array .int
  | 5 => .array .int
  | 6 => .int
  | 7 => .array .int
  | 8 => .array .int
  | 9 => .array .int
  | 10 => .array .int
  | 11 => .array .byte
  | 12 => .int
  | 13 => .int
  | 14 => .int
  | 15 => .int
  | 16 => .array .int
  | 17 => .array .int
  | 18 => .array .int
  | 19 => .array .int
  | 20 => .array .int
  | 21 => .array .int
  | 22 => .array .int
  | 23 => .array .int
  | 24 => .array .int
  | 25 => .array .byte
  | 26 => .array .byte
  | 27 => .int
  | 28 => .int
  | 29 => .array .int
  | 30 => .array .int
  | 31 => .array .int
  | 32 => .array .int
  | 33 => .int
  | 34 => .int
  | 35 => .array .byte
  | 36 => .array .int
  | 37 => .array .int
  | 38 => .array .short
  | 39 => .array .short
  | 40 => .array .int
  | 41 => .array .int
  | 42 => .array .boolean
  | 43 => .array .int
  | 44 => .array .int
  | 45 => .boolean
  | 46 => .int
  | 47 => .array .int
  | 48 => .array .int
  | 49 => .int
  | 50 => .int
  | 51 => .array .int
  | 52 => .array .int
  | 53 => .int
  | 54 => .int
  | 55 => .array .int
  | 56 => .array .int
  | 57 => .array .int
  | 58 => .array .long
  | _ => .array .long
abbrev wsX120 : List Cond := u_ws RX12 TX12 60
theorem nmX12 : ∀ a, a < 60 → ∀ b, b < 60 → a ≠ b → (TX12 a).2.1 ≠ (TX12 b).2.1 := by decide +kernel
theorem tyX12_ok : ∀ k, k < 60 → parseFieldDescriptor (TX12 k).2.2.1 = some (tyX12 k) := by decide +kernel
def RJ11 : String := "java/lang/Character"
def RJ6 : String := "java/lang/Integer"
def RJ13 : String := "java/lang/Long"
def RJ9 : String := "java/lang/Math"
def RJ0 : String := "java/lang/String"
def RJ1 : String := "java/lang/StringLatin1"
def RJ2 : String := "java/lang/StringUTF16"
def RJ10 : String := "java/lang/System"
def RJ7 : String := "java/util/Arrays"
def RJ3 : String := "jdk/internal/util/Preconditions"
abbrev cX0_init : ByteArray := prog_2_method_1_code
def yX0_init : MethodName := ⟨RX0, "<init>", "()V"⟩
abbrev cX0_begin : ByteArray := prog_2_method_2_code
def yX0_begin : MethodName := ⟨RX0, "begin", "(III)V"⟩
abbrev cX0_above : ByteArray := prog_2_method_3_code
def yX0_above : MethodName := ⟨RX0, "above", "(I)I"⟩
abbrev cX0_note : ByteArray := prog_2_method_4_code
def yX0_note : MethodName := ⟨RX0, "note", "(I)V"⟩
abbrev cX0_closes : ByteArray := prog_2_method_5_code
def yX0_closes : MethodName := ⟨RX0, "closes", "(II)I"⟩
abbrev cX0_settles : ByteArray := prog_2_method_6_code
def yX0_settles : MethodName := ⟨RX0, "settles", "(II)I"⟩
abbrev cX0_binds : ByteArray := prog_2_method_7_code
def yX0_binds : MethodName := ⟨RX0, "binds", "(II)I"⟩
abbrev cX0_tells : ByteArray := prog_2_method_8_code
def yX0_tells : MethodName := ⟨RX0, "tells", "(II)I"⟩
abbrev cX1_init : ByteArray := prog_3_method_1_code
def yX1_init : MethodName := ⟨RX1, "<init>", "(LAlreadyJudged$Court;)V"⟩
abbrev cX1_make : ByteArray := prog_3_method_2_code
def yX1_make : MethodName := ⟨RX1, "make", "(IIII)V"⟩
abbrev cX1_dropOldest : ByteArray := prog_3_method_3_code
def yX1_dropOldest : MethodName := ⟨RX1, "dropOldest", "([I)V"⟩
abbrev cX1_back : ByteArray := prog_3_method_4_code
def yX1_back : MethodName := ⟨RX1, "back", "()I"⟩
abbrev cX1_again : ByteArray := prog_3_method_5_code
def yX1_again : MethodName := ⟨RX1, "again", "()I"⟩
abbrev cX1_set : ByteArray := prog_3_method_6_code
def yX1_set : MethodName := ⟨RX1, "set", "(III)V"⟩
abbrev cX2_init : ByteArray := prog_4_method_1_code
def yX2_init : MethodName := ⟨RX2, "<init>", "()V"⟩
abbrev cX2_isShoe : ByteArray := prog_4_method_2_code
def yX2_isShoe : MethodName := ⟨RX2, "isShoe", "(IIII)Z"⟩
abbrev cX2_addShoe : ByteArray := prog_4_method_3_code
def yX2_addShoe : MethodName := ⟨RX2, "addShoe", "(IIII)I"⟩
abbrev cX2_addClaim : ByteArray := prog_4_method_4_code
def yX2_addClaim : MethodName := ⟨RX2, "addClaim", "(III)I"⟩
abbrev cX2_addSuit : ByteArray := prog_4_method_5_code
def yX2_addSuit : MethodName := ⟨RX2, "addSuit", "(LAlreadyJudged$Suit;)I"⟩
abbrev cX2_suitAt : ByteArray := prog_4_method_6_code
def yX2_suitAt : MethodName := ⟨RX2, "suitAt", "(I)LAlreadyJudged$Suit;"⟩
abbrev cX2_clashingWith : ByteArray := prog_4_method_7_code
def yX2_clashingWith : MethodName := ⟨RX2, "clashingWith", "(II)J"⟩
abbrev cX3_init : ByteArray := prog_5_method_1_code
def yX3_init : MethodName := ⟨RX3, "<init>", "(LAlreadyJudged$Court;)V"⟩
abbrev cX3_turnTo : ByteArray := prog_5_method_2_code
def yX3_turnTo : MethodName := ⟨RX3, "turnTo", "(II)V"⟩
abbrev cX3_open : ByteArray := prog_5_method_3_code
def yX3_open : MethodName := ⟨RX3, "open", "(II)V"⟩
abbrev cX3_leaveOut : ByteArray := prog_5_method_4_code
def yX3_leaveOut : MethodName := ⟨RX3, "leaveOut", "(I)V"⟩
abbrev cX3_spread : ByteArray := prog_5_method_5_code
def yX3_spread : MethodName := ⟨RX3, "spread", "()V"⟩
abbrev cX3_nextFront : ByteArray := prog_5_method_6_code
def yX3_nextFront : MethodName := ⟨RX3, "nextFront", "(II)I"⟩
abbrev cX3_isBinding : ByteArray := prog_5_method_7_code
def yX3_isBinding : MethodName := ⟨RX3, "isBinding", "(II)Z"⟩
abbrev cX3_stepsTo : ByteArray := prog_5_method_8_code
def yX3_stepsTo : MethodName := ⟨RX3, "stepsTo", "(II)I"⟩
abbrev cX3_firstSort : ByteArray := prog_5_method_9_code
def yX3_firstSort : MethodName := ⟨RX3, "firstSort", "(III)I"⟩
abbrev cX3_lawGives : ByteArray := prog_5_method_10_code
def yX3_lawGives : MethodName := ⟨RX3, "lawGives", "(I)I"⟩
abbrev cX3_nameJudgment : ByteArray := prog_5_method_11_code
def yX3_nameJudgment : MethodName := ⟨RX3, "nameJudgment", "(LAlreadyJudged$Suit;)V"⟩
abbrev cX3_isCounting : ByteArray := prog_5_method_12_code
def yX3_isCounting : MethodName := ⟨RX3, "isCounting", "(LAlreadyJudged$Suit;)Z"⟩
abbrev cX3_landsHeeded : ByteArray := prog_5_method_13_code
def yX3_landsHeeded : MethodName := ⟨RX3, "landsHeeded", "(I)I"⟩
abbrev cX3_areBound : ByteArray := prog_5_method_14_code
def yX3_areBound : MethodName := ⟨RX3, "areBound", "(IIII)Z"⟩
abbrev cX3_isClosing : ByteArray := prog_5_method_15_code
def yX3_isClosing : MethodName := ⟨RX3, "isClosing", "(LAlreadyJudged$Suit;II)Z"⟩
abbrev cX3_likenessesOf : ByteArray := prog_5_method_16_code
def yX3_likenessesOf : MethodName := ⟨RX3, "likenessesOf", "(LAlreadyJudged$Suit;I)I"⟩
abbrev cX3_closesSome : ByteArray := prog_5_method_17_code
def yX3_closesSome : MethodName := ⟨RX3, "closesSome", "(LAlreadyJudged$Suit;II)Z"⟩
abbrev cX3_firstCloser : ByteArray := prog_5_method_18_code
def yX3_firstCloser : MethodName := ⟨RX3, "firstCloser", "(III)I"⟩
abbrev cX3_firstHook : ByteArray := prog_5_method_19_code
def yX3_firstHook : MethodName := ⟨RX3, "firstHook", "(II)I"⟩
abbrev cX3_findPoint : ByteArray := prog_5_method_20_code
def yX3_findPoint : MethodName := ⟨RX3, "findPoint", "(IIII)I"⟩
abbrev cX3_isSettling : ByteArray := prog_5_method_21_code
def yX3_isSettling : MethodName := ⟨RX3, "isSettling", "(LAlreadyJudged$Suit;III)Z"⟩
abbrev cX4_init : ByteArray := prog_6_method_1_code
def yX4_init : MethodName := ⟨RX4, "<init>", "([I)V"⟩
abbrev cX4_value : ByteArray := prog_6_method_2_code
def yX4_value : MethodName := ⟨RX4, "value", "([I[I)I"⟩
abbrev cX4_join : ByteArray := prog_6_method_3_code
def yX4_join : MethodName := ⟨RX4, "join", "(III)I"⟩
abbrev cX5_init : ByteArray := prog_7_method_1_code
def yX5_init : MethodName := ⟨RX5, "<init>", "(LAlreadyJudged$Tape;)V"⟩
abbrev cX5_read : ByteArray := prog_7_method_2_code
def yX5_read : MethodName := ⟨RX5, "read", "()LAlreadyJudged$Law;"⟩
abbrev cX5_readLine : ByteArray := prog_7_method_3_code
def yX5_readLine : MethodName := ⟨RX5, "readLine", "()V"⟩
abbrev cX5_readLevel : ByteArray := prog_7_method_4_code
def yX5_readLevel : MethodName := ⟨RX5, "readLevel", "(II)V"⟩
abbrev cX5_operatorAt : ByteArray := prog_7_method_5_code
def yX5_operatorAt : MethodName := ⟨RX5, "operatorAt", "(I)I"⟩
abbrev cX5_readOperand : ByteArray := prog_7_method_6_code
def yX5_readOperand : MethodName := ⟨RX5, "readOperand", "(I)V"⟩
abbrev cX5_mayOpen : ByteArray := prog_7_method_7_code
def yX5_mayOpen : MethodName := ⟨RX5, "mayOpen", "(I)Z"⟩
abbrev cX5_readNumber : ByteArray := prog_7_method_8_code
def yX5_readNumber : MethodName := ⟨RX5, "readNumber", "()V"⟩
abbrev cX5_readName : ByteArray := prog_7_method_9_code
def yX5_readName : MethodName := ⟨RX5, "readName", "(I)V"⟩
abbrev cX5_accept : ByteArray := prog_7_method_10_code
def yX5_accept : MethodName := ⟨RX5, "accept", "(I)Z"⟩
abbrev cX5_fail : ByteArray := prog_7_method_11_code
def yX5_fail : MethodName := ⟨RX5, "fail", "()V"⟩
abbrev cX5_emit : ByteArray := prog_7_method_12_code
def yX5_emit : MethodName := ⟨RX5, "emit", "(I)V"⟩
abbrev cX6_init : ByteArray := prog_8_method_1_code
def yX6_init : MethodName := ⟨RX6, "<init>", "()V"⟩
abbrev cX6_becomeRow : ByteArray := prog_8_method_2_code
def yX6_becomeRow : MethodName := ⟨RX6, "becomeRow", "(II)V"⟩
abbrev cX6_refusalOf : ByteArray := prog_8_method_3_code
def yX6_refusalOf : MethodName := ⟨RX6, "refusalOf", "(I)I"⟩
abbrev cX6_hasRange : ByteArray := prog_8_method_4_code
def yX6_hasRange : MethodName := ⟨RX6, "hasRange", "(II)Z"⟩
abbrev cX6_lowestBits : ByteArray := prog_8_method_5_code
def yX6_lowestBits : MethodName := ⟨RX6, "lowestBits", "(J)J"⟩
abbrev cX7_init : ByteArray := prog_9_method_1_code
def yX7_init : MethodName := ⟨RX7, "<init>", "()V"⟩
abbrev cX7_forget : ByteArray := prog_9_method_2_code
def yX7_forget : MethodName := ⟨RX7, "forget", "()V"⟩
abbrev cX7_ask : ByteArray := prog_9_method_3_code
def yX7_ask : MethodName := ⟨RX7, "ask", "(I)V"⟩
abbrev cX7_hasAsked : ByteArray := prog_9_method_4_code
def yX7_hasAsked : MethodName := ⟨RX7, "hasAsked", "(I)Z"⟩
abbrev cX7_hasFound : ByteArray := prog_9_method_5_code
def yX7_hasFound : MethodName := ⟨RX7, "hasFound", "(I)Z"⟩
abbrev cX7_hasNeeded : ByteArray := prog_9_method_6_code
def yX7_hasNeeded : MethodName := ⟨RX7, "hasNeeded", "(I)Z"⟩
abbrev cX7_wayOf : ByteArray := prog_9_method_7_code
def yX7_wayOf : MethodName := ⟨RX7, "wayOf", "(I)I"⟩
abbrev cX7_pointBits : ByteArray := prog_9_method_8_code
def yX7_pointBits : MethodName := ⟨RX7, "pointBits", "(I)I"⟩
abbrev cX7_kindOn : ByteArray := prog_9_method_9_code
def yX7_kindOn : MethodName := ⟨RX7, "kindOn", "(I)I"⟩
abbrev cX7_bodyKind : ByteArray := prog_9_method_10_code
def yX7_bodyKind : MethodName := ⟨RX7, "bodyKind", "()I"⟩
abbrev cX7_detail : ByteArray := prog_9_method_11_code
def yX7_detail : MethodName := ⟨RX7, "detail", "(I)I"⟩
abbrev cX8_init : ByteArray := prog_10_method_1_code
def yX8_init : MethodName := ⟨RX8, "<init>", "(LAlreadyJudged$Tape;)V"⟩
abbrev cX8_read : ByteArray := prog_10_method_2_code
def yX8_read : MethodName := ⟨RX8, "read", "(I)LAlreadyJudged$Suit;"⟩
abbrev cX8_blank : ByteArray := prog_10_method_3_code
def yX8_blank : MethodName := ⟨RX8, "blank", "()LAlreadyJudged$Suit;"⟩
abbrev cX8_readSides : ByteArray := prog_10_method_4_code
def yX8_readSides : MethodName := ⟨RX8, "readSides", "(LAlreadyJudged$Suit;)V"⟩
abbrev cX8_readClaims : ByteArray := prog_10_method_5_code
def yX8_readClaims : MethodName := ⟨RX8, "readClaims", "(LAlreadyJudged$Suit;I)V"⟩
abbrev cX8_readPoints : ByteArray := prog_10_method_6_code
def yX8_readPoints : MethodName := ⟨RX8, "readPoints", "(LAlreadyJudged$Suit;)V"⟩
abbrev cX8_readEnding : ByteArray := prog_10_method_7_code
def yX8_readEnding : MethodName := ⟨RX8, "readEnding", "(LAlreadyJudged$Suit;)V"⟩
abbrev cX8_readTime : ByteArray := prog_10_method_8_code
def yX8_readTime : MethodName := ⟨RX8, "readTime", "(LAlreadyJudged$Suit;)V"⟩
abbrev cX8_number : ByteArray := prog_10_method_9_code
def yX8_number : MethodName := ⟨RX8, "number", "(I)I"⟩
abbrev cX8_accept : ByteArray := prog_10_method_10_code
def yX8_accept : MethodName := ⟨RX8, "accept", "(I)Z"⟩
abbrev cX8_expect : ByteArray := prog_10_method_11_code
def yX8_expect : MethodName := ⟨RX8, "expect", "(I)V"⟩
abbrev cX8_judge : ByteArray := prog_10_method_12_code
def yX8_judge : MethodName := ⟨RX8, "judge", "(ZI)V"⟩
abbrev cX9_init : ByteArray := prog_11_method_1_code
def yX9_init : MethodName := ⟨RX9, "<init>", "()V"⟩
abbrev cX9_add : ByteArray := prog_11_method_2_code
def yX9_add : MethodName := ⟨RX9, "add", "(I)V"⟩
abbrev cX9_write : ByteArray := prog_11_method_3_code
def yX9_write : MethodName := ⟨RX9, "write", "(Ljava/lang/String;)V"⟩
abbrev cX9_byteAt : ByteArray := prog_11_method_4_code
def yX9_byteAt : MethodName := ⟨RX9, "byteAt", "(I)I"⟩
abbrev cX9_isDigitAt : ByteArray := prog_11_method_5_code
def yX9_isDigitAt : MethodName := ⟨RX9, "isDigitAt", "(I)Z"⟩
abbrev cX10_init : ByteArray := prog_12_method_1_code
def yX10_init : MethodName := ⟨RX10, "<init>", "()V"⟩
abbrev cX10_has : ByteArray := prog_12_method_2_code
def yX10_has : MethodName := ⟨RX10, "has", "(I)Z"⟩
abbrev cX10_add : ByteArray := prog_12_method_3_code
def yX10_add : MethodName := ⟨RX10, "add", "(II)V"⟩
abbrev cX10_prepare : ByteArray := prog_12_method_4_code
def yX10_prepare : MethodName := ⟨RX10, "prepare", "(LAlreadyJudged$Inquiry;II)V"⟩
abbrev cX10_slot : ByteArray := prog_12_method_5_code
def yX10_slot : MethodName := ⟨RX10, "slot", "(III)I"⟩
abbrev cX10_closersOf : ByteArray := prog_12_method_6_code
def yX10_closersOf : MethodName := ⟨RX10, "closersOf", "(LAlreadyJudged$Inquiry;II)I"⟩
abbrev cX10_bring : ByteArray := prog_12_method_7_code
def yX10_bring : MethodName := ⟨RX10, "bring", "(LAlreadyJudged$Inquiry;II)V"⟩
abbrev cX10_seek : ByteArray := prog_12_method_8_code
def yX10_seek : MethodName := ⟨RX10, "seek", "(IIII)V"⟩
abbrev cX10_mayAsk : ByteArray := prog_12_method_9_code
def yX10_mayAsk : MethodName := ⟨RX10, "mayAsk", "(III)Z"⟩
abbrev cX11_init : ByteArray := prog_1_method_1_code
def yX11_init : MethodName := ⟨RX11, "<init>", "()V"⟩
abbrev cX11_shoe : ByteArray := prog_1_method_2_code
def yX11_shoe : MethodName := ⟨RX11, "shoe", "(IIII)I"⟩
abbrev cX11_shoes : ByteArray := prog_1_method_3_code
def yX11_shoes : MethodName := ⟨RX11, "shoes", "(III)I"⟩
abbrev cX11_ofShoe : ByteArray := prog_1_method_4_code
def yX11_ofShoe : MethodName := ⟨RX11, "ofShoe", "(II)I"⟩
abbrev cX11_moveShoe : ByteArray := prog_1_method_5_code
def yX11_moveShoe : MethodName := ⟨RX11, "moveShoe", "(II)I"⟩
abbrev cX11_bound : ByteArray := prog_1_method_6_code
def yX11_bound : MethodName := ⟨RX11, "bound", "(IIII)I"⟩
abbrev cX11_claim : ByteArray := prog_1_method_7_code
def yX11_claim : MethodName := ⟨RX11, "claim", "(III)I"⟩
abbrev cX11_ofClaim : ByteArray := prog_1_method_8_code
def yX11_ofClaim : MethodName := ⟨RX11, "ofClaim", "(II)I"⟩
abbrev cX11_feed : ByteArray := prog_1_method_9_code
def yX11_feed : MethodName := ⟨RX11, "feed", "(II)I"⟩
abbrev cX11_suit : ByteArray := prog_1_method_10_code
def yX11_suit : MethodName := ⟨RX11, "suit", "()I"⟩
abbrev cX11_ofSuit : ByteArray := prog_1_method_11_code
def yX11_ofSuit : MethodName := ⟨RX11, "ofSuit", "(II)I"⟩
abbrev cX11_won : ByteArray := prog_1_method_12_code
def yX11_won : MethodName := ⟨RX11, "won", "(II)I"⟩
abbrev cX11_undone : ByteArray := prog_1_method_13_code
def yX11_undone : MethodName := ⟨RX11, "undone", "(II)I"⟩
abbrev cX11_law : ByteArray := prog_1_method_14_code
def yX11_law : MethodName := ⟨RX11, "law", "(I)I"⟩
abbrev cX11_counts : ByteArray := prog_1_method_15_code
def yX11_counts : MethodName := ⟨RX11, "counts", "(III)I"⟩
abbrev cX11_met : ByteArray := prog_1_method_16_code
def yX11_met : MethodName := ⟨RX11, "met", "(III)I"⟩
abbrev cX11_point : ByteArray := prog_1_method_17_code
def yX11_point : MethodName := ⟨RX11, "point", "(IIII)I"⟩
abbrev cX11_left : ByteArray := prog_1_method_18_code
def yX11_left : MethodName := ⟨RX11, "left", "(II)I"⟩
abbrev cX11_lost : ByteArray := prog_1_method_19_code
def yX11_lost : MethodName := ⟨RX11, "lost", "(II)I"⟩
abbrev cX11_opens : ByteArray := prog_1_method_20_code
def yX11_opens : MethodName := ⟨RX11, "opens", "(II)J"⟩
abbrev cX11_clash : ByteArray := prog_1_method_21_code
def yX11_clash : MethodName := ⟨RX11, "clash", "(I)I"⟩
abbrev cX11_wish : ByteArray := prog_1_method_22_code
def yX11_wish : MethodName := ⟨RX11, "wish", "(II)I"⟩
abbrev cX11_order : ByteArray := prog_1_method_23_code
def yX11_order : MethodName := ⟨RX11, "order", "(II)I"⟩
abbrev cX11_unwish : ByteArray := prog_1_method_24_code
def yX11_unwish : MethodName := ⟨RX11, "unwish", "()I"⟩
abbrev cX11_joined : ByteArray := prog_1_method_25_code
def yX11_joined : MethodName := ⟨RX11, "joined", "(III)I"⟩
abbrev cX11_ring : ByteArray := prog_1_method_26_code
def yX11_ring : MethodName := ⟨RX11, "ring", "(I)I"⟩
abbrev cX11_hangs : ByteArray := prog_1_method_27_code
def yX11_hangs : MethodName := ⟨RX11, "hangs", "(III)I"⟩
abbrev cX11_need : ByteArray := prog_1_method_28_code
def yX11_need : MethodName := ⟨RX11, "need", "(III)I"⟩
abbrev cX11_undo : ByteArray := prog_1_method_29_code
def yX11_undo : MethodName := ⟨RX11, "undo", "()I"⟩
abbrev cX11_redo : ByteArray := prog_1_method_30_code
def yX11_redo : MethodName := ⟨RX11, "redo", "()I"⟩
abbrev cX11_act : ByteArray := prog_1_method_31_code
def yX11_act : MethodName := ⟨RX11, "act", "(III)I"⟩
abbrev cX11_trace : ByteArray := prog_1_method_32_code
def yX11_trace : MethodName := ⟨RX11, "trace", "(I)I"⟩
abbrev cX11_keep : ByteArray := prog_1_method_33_code
def yX11_keep : MethodName := ⟨RX11, "keep", "(II)I"⟩
abbrev cX11_row : ByteArray := prog_1_method_34_code
def yX11_row : MethodName := ⟨RX11, "row", "(III)I"⟩
abbrev cX11_put : ByteArray := prog_1_method_35_code
def yX11_put : MethodName := ⟨RX11, "put", "(IIJ)I"⟩
abbrev cX11_element : ByteArray := prog_1_method_36_code
def yX11_element : MethodName := ⟨RX11, "element", "(II)J"⟩
abbrev cX11_shift : ByteArray := prog_1_method_37_code
def yX11_shift : MethodName := ⟨RX11, "shift", "(IIIII)I"⟩
abbrev cX11_taken : ByteArray := prog_1_method_38_code
def yX11_taken : MethodName := ⟨RX11, "taken", "(II)I"⟩
abbrev cX11_count : ByteArray := prog_1_method_39_code
def yX11_count : MethodName := ⟨RX11, "count", "(I)I"⟩
abbrev cX11_usualLaw : ByteArray := prog_1_method_40_code
def yX11_usualLaw : MethodName := ⟨RX11, "usualLaw", "(I)Ljava/lang/String;"⟩
abbrev cX11_isDay : ByteArray := prog_1_method_41_code
def yX11_isDay : MethodName := ⟨RX11, "isDay", "(I)Z"⟩
abbrev cX11_isLand : ByteArray := prog_1_method_42_code
def yX11_isLand : MethodName := ⟨RX11, "isLand", "(I)Z"⟩
abbrev cX11_isPoint : ByteArray := prog_1_method_43_code
def yX11_isPoint : MethodName := ⟨RX11, "isPoint", "(I)Z"⟩
abbrev cX11_isChoice : ByteArray := prog_1_method_44_code
def yX11_isChoice : MethodName := ⟨RX11, "isChoice", "(I)Z"⟩
abbrev cX11_isPair : ByteArray := prog_1_method_45_code
def yX11_isPair : MethodName := ⟨RX11, "isPair", "(I)Z"⟩
abbrev cX11_isWhen : ByteArray := prog_1_method_46_code
def yX11_isWhen : MethodName := ⟨RX11, "isWhen", "(I)Z"⟩
abbrev cX11_isShoeNumber : ByteArray := prog_1_method_47_code
def yX11_isShoeNumber : MethodName := ⟨RX11, "isShoeNumber", "(I)Z"⟩
abbrev cX11_isClaim : ByteArray := prog_1_method_48_code
def yX11_isClaim : MethodName := ⟨RX11, "isClaim", "(I)Z"⟩
abbrev cX11_isClaimOf : ByteArray := prog_1_method_49_code
def yX11_isClaimOf : MethodName := ⟨RX11, "isClaimOf", "(II)Z"⟩
abbrev cX11_placeAt : ByteArray := prog_1_method_50_code
def yX11_placeAt : MethodName := ⟨RX11, "placeAt", "(I)LAlreadyJudged$Place;"⟩
abbrev cX11_shoeFrom : ByteArray := prog_1_method_51_code
def yX11_shoeFrom : MethodName := ⟨RX11, "shoeFrom", "(LAlreadyJudged$Place;I)Z"⟩
abbrev cX11_bitOrSize : ByteArray := prog_1_method_52_code
def yX11_bitOrSize : MethodName := ⟨RX11, "bitOrSize", "(JI)I"⟩
abbrev cX11_isUnder : ByteArray := prog_1_method_53_code
def yX11_isUnder : MethodName := ⟨RX11, "isUnder", "(II)Z"⟩
abbrev cX11_fewestTogether : ByteArray := prog_1_method_54_code
def yX11_fewestTogether : MethodName := ⟨RX11, "fewestTogether", "(I)I"⟩
abbrev cX11_toldWhoAre : ByteArray := prog_1_method_55_code
def yX11_toldWhoAre : MethodName := ⟨RX11, "toldWhoAre", "(II)I"⟩
abbrev cX11_firstRing : ByteArray := prog_1_method_56_code
def yX11_firstRing : MethodName := ⟨RX11, "firstRing", "(I)I"⟩
abbrev cX11_ringOn : ByteArray := prog_1_method_57_code
def yX11_ringOn : MethodName := ⟨RX11, "ringOn", "(IIIII)I"⟩
abbrev cX12_init : ByteArray := prog_14_method_1_code
def yX12_init : MethodName := ⟨RX12, "<init>", "()V"⟩
abbrev cX12_in : ByteArray := prog_14_method_3_code
def yX12_in : MethodName := ⟨RX12, "in", "(III)Z"⟩
abbrev cX12_isDay : ByteArray := prog_14_method_4_code
def yX12_isDay : MethodName := ⟨RX12, "isDay", "(I)Z"⟩
abbrev cX12_isLand : ByteArray := prog_14_method_5_code
def yX12_isLand : MethodName := ⟨RX12, "isLand", "(I)Z"⟩
abbrev cX12_isPair : ByteArray := prog_14_method_6_code
def yX12_isPair : MethodName := ⟨RX12, "isPair", "(I)Z"⟩
abbrev cX12_isWhen : ByteArray := prog_14_method_7_code
def yX12_isWhen : MethodName := ⟨RX12, "isWhen", "(I)Z"⟩
abbrev cX12_isShoe : ByteArray := prog_14_method_8_code
def yX12_isShoe : MethodName := ⟨RX12, "isShoe", "(I)Z"⟩
abbrev cX12_isClaim : ByteArray := prog_14_method_9_code
def yX12_isClaim : MethodName := ⟨RX12, "isClaim", "(I)Z"⟩
abbrev cX12_isPerson : ByteArray := prog_14_method_10_code
def yX12_isPerson : MethodName := ⟨RX12, "isPerson", "(I)Z"⟩
abbrev cX12_shoe : ByteArray := prog_14_method_11_code
def yX12_shoe : MethodName := ⟨RX12, "shoe", "(IIII)I"⟩
abbrev cX12_shoes : ByteArray := prog_14_method_12_code
def yX12_shoes : MethodName := ⟨RX12, "shoes", "(III)I"⟩
abbrev cX12_ofShoe : ByteArray := prog_14_method_13_code
def yX12_ofShoe : MethodName := ⟨RX12, "ofShoe", "(II)I"⟩
abbrev cX12_claim : ByteArray := prog_14_method_14_code
def yX12_claim : MethodName := ⟨RX12, "claim", "(III)I"⟩
abbrev cX12_ofClaim : ByteArray := prog_14_method_15_code
def yX12_ofClaim : MethodName := ⟨RX12, "ofClaim", "(II)I"⟩
abbrev cX12_feed : ByteArray := prog_14_method_16_code
def yX12_feed : MethodName := ⟨RX12, "feed", "(II)I"⟩
abbrev cX12_isSuit : ByteArray := prog_14_method_17_code
def yX12_isSuit : MethodName := ⟨RX12, "isSuit", "(I)Z"⟩
abbrev cX12_isPoint : ByteArray := prog_14_method_18_code
def yX12_isPoint : MethodName := ⟨RX12, "isPoint", "(I)Z"⟩
abbrev cX12_number : ByteArray := prog_14_method_19_code
def yX12_number : MethodName := ⟨RX12, "number", "(II)I"⟩
abbrev cX12_wrongAt : ByteArray := prog_14_method_20_code
def yX12_wrongAt : MethodName := ⟨RX12, "wrongAt", "(I)V"⟩
abbrev cX12_takes : ByteArray := prog_14_method_21_code
def yX12_takes : MethodName := ⟨RX12, "takes", "(I)Z"⟩
abbrev cX12_isNext : ByteArray := prog_14_method_22_code
def yX12_isNext : MethodName := ⟨RX12, "isNext", "(I)Z"⟩
abbrev cX12_wasAsked : ByteArray := prog_14_method_23_code
def yX12_wasAsked : MethodName := ⟨RX12, "wasAsked", "(II)Z"⟩
abbrev cX12_readClaims : ByteArray := prog_14_method_24_code
def yX12_readClaims : MethodName := ⟨RX12, "readClaims", "(I)V"⟩
abbrev cX12_readPoint : ByteArray := prog_14_method_25_code
def yX12_readPoint : MethodName := ⟨RX12, "readPoint", "(I)V"⟩
abbrev cX12_readEnding : ByteArray := prog_14_method_26_code
def yX12_readEnding : MethodName := ⟨RX12, "readEnding", "(I)V"⟩
abbrev cX12_readSuit : ByteArray := prog_14_method_27_code
def yX12_readSuit : MethodName := ⟨RX12, "readSuit", "(I)V"⟩
abbrev cX12_suit : ByteArray := prog_14_method_28_code
def yX12_suit : MethodName := ⟨RX12, "suit", "()I"⟩
abbrev cX12_bodyKind : ByteArray := prog_14_method_29_code
def yX12_bodyKind : MethodName := ⟨RX12, "bodyKind", "(I)I"⟩
abbrev cX12_kindOn : ByteArray := prog_14_method_30_code
def yX12_kindOn : MethodName := ⟨RX12, "kindOn", "(II)I"⟩
abbrev cX12_ofSuit : ByteArray := prog_14_method_31_code
def yX12_ofSuit : MethodName := ⟨RX12, "ofSuit", "(II)I"⟩
abbrev cX12_set : ByteArray := prog_14_method_32_code
def yX12_set : MethodName := ⟨RX12, "set", "(III)V"⟩
abbrev cX12_changes : ByteArray := prog_14_method_33_code
def yX12_changes : MethodName := ⟨RX12, "changes", "(III)I"⟩
abbrev cX12_undo : ByteArray := prog_14_method_34_code
def yX12_undo : MethodName := ⟨RX12, "undo", "()I"⟩
abbrev cX12_redo : ByteArray := prog_14_method_35_code
def yX12_redo : MethodName := ⟨RX12, "redo", "()I"⟩
abbrev cX12_moveShoe : ByteArray := prog_14_method_36_code
def yX12_moveShoe : MethodName := ⟨RX12, "moveShoe", "(II)I"⟩
abbrev cX12_won : ByteArray := prog_14_method_37_code
def yX12_won : MethodName := ⟨RX12, "won", "(II)I"⟩
abbrev cX12_undone : ByteArray := prog_14_method_38_code
def yX12_undone : MethodName := ⟨RX12, "undone", "(II)I"⟩
abbrev cX12_look : ByteArray := prog_14_method_39_code
def yX12_look : MethodName := ⟨RX12, "look", "()I"⟩
abbrev cX12_wrong : ByteArray := prog_14_method_40_code
def yX12_wrong : MethodName := ⟨RX12, "wrong", "()V"⟩
abbrev cX12_lay : ByteArray := prog_14_method_41_code
def yX12_lay : MethodName := ⟨RX12, "lay", "(II)V"⟩
abbrev cX12_nameOf : ByteArray := prog_14_method_42_code
def yX12_nameOf : MethodName := ⟨RX12, "nameOf", "(I)I"⟩
abbrev cX12_opensOne : ByteArray := prog_14_method_43_code
def yX12_opensOne : MethodName := ⟨RX12, "opensOne", "()Z"⟩
abbrev cX12_figure : ByteArray := prog_14_method_44_code
def yX12_figure : MethodName := ⟨RX12, "figure", "()V"⟩
abbrev cX12_operand : ByteArray := prog_14_method_45_code
def yX12_operand : MethodName := ⟨RX12, "operand", "()V"⟩
abbrev cX12_product : ByteArray := prog_14_method_46_code
def yX12_product : MethodName := ⟨RX12, "product", "()V"⟩
abbrev cX12_sum : ByteArray := prog_14_method_47_code
def yX12_sum : MethodName := ⟨RX12, "sum", "()V"⟩
abbrev cX12_compared : ByteArray := prog_14_method_48_code
def yX12_compared : MethodName := ⟨RX12, "compared", "()V"⟩
abbrev cX12_both : ByteArray := prog_14_method_49_code
def yX12_both : MethodName := ⟨RX12, "both", "()V"⟩
abbrev cX12_either : ByteArray := prog_14_method_50_code
def yX12_either : MethodName := ⟨RX12, "either", "()V"⟩
abbrev cX12_line : ByteArray := prog_14_method_51_code
def yX12_line : MethodName := ⟨RX12, "line", "()V"⟩
abbrev cX12_law : ByteArray := prog_14_method_52_code
def yX12_law : MethodName := ⟨RX12, "law", "(I)I"⟩
abbrev cX12_twoOf : ByteArray := prog_14_method_53_code
def yX12_twoOf : MethodName := ⟨RX12, "twoOf", "(III)I"⟩
abbrev cX12_worked : ByteArray := prog_14_method_54_code
def yX12_worked : MethodName := ⟨RX12, "worked", "(III)I"⟩
abbrev cX12_gives : ByteArray := prog_14_method_55_code
def yX12_gives : MethodName := ⟨RX12, "gives", "(I)I"⟩
abbrev cX12_clearFacts : ByteArray := prog_14_method_56_code
def yX12_clearFacts : MethodName := ⟨RX12, "clearFacts", "()V"⟩
abbrev cX12_isSo : ByteArray := prog_14_method_57_code
def yX12_isSo : MethodName := ⟨RX12, "isSo", "(II)Z"⟩
abbrev cX12_findBound : ByteArray := prog_14_method_58_code
def yX12_findBound : MethodName := ⟨RX12, "findBound", "(III)V"⟩
abbrev cX12_isBound : ByteArray := prog_14_method_59_code
def yX12_isBound : MethodName := ⟨RX12, "isBound", "(II)Z"⟩
abbrev cX12_firstShoe : ByteArray := prog_14_method_60_code
def yX12_firstShoe : MethodName := ⟨RX12, "firstShoe", "(III)I"⟩
abbrev cX12_bound : ByteArray := prog_14_method_61_code
def yX12_bound : MethodName := ⟨RX12, "bound", "(IIII)I"⟩
abbrev cX12_findSuit : ByteArray := prog_14_method_62_code
def yX12_findSuit : MethodName := ⟨RX12, "findSuit", "(III)V"⟩
abbrev cX12_doesCount : ByteArray := prog_14_method_63_code
def yX12_doesCount : MethodName := ⟨RX12, "doesCount", "(III)Z"⟩
abbrev cX12_counts : ByteArray := prog_14_method_64_code
def yX12_counts : MethodName := ⟨RX12, "counts", "(III)I"⟩
abbrev cX12_doesClose : ByteArray := prog_14_method_65_code
def yX12_doesClose : MethodName := ⟨RX12, "doesClose", "(IIIIII)Z"⟩
abbrev cX12_metBy : ByteArray := prog_14_method_66_code
def yX12_metBy : MethodName := ⟨RX12, "metBy", "(IIIIIII)I"⟩
abbrev cX12_sideBy : ByteArray := prog_14_method_67_code
def yX12_sideBy : MethodName := ⟨RX12, "sideBy", "(II)I"⟩
abbrev cX12_sideOn : ByteArray := prog_14_method_68_code
def yX12_sideOn : MethodName := ⟨RX12, "sideOn", "(II)I"⟩
abbrev cX12_isAsk : ByteArray := prog_14_method_69_code
def yX12_isAsk : MethodName := ⟨RX12, "isAsk", "(III)Z"⟩
abbrev cX12_met : ByteArray := prog_14_method_70_code
def yX12_met : MethodName := ⟨RX12, "met", "(III)I"⟩
abbrev cX12_pointBy : ByteArray := prog_14_method_71_code
def yX12_pointBy : MethodName := ⟨RX12, "pointBy", "(IIIIII)I"⟩
abbrev cX12_point : ByteArray := prog_14_method_72_code
def yX12_point : MethodName := ⟨RX12, "point", "(IIII)I"⟩
abbrev cX12_left : ByteArray := prog_14_method_73_code
def yX12_left : MethodName := ⟨RX12, "left", "(II)I"⟩
abbrev cX12_lost : ByteArray := prog_14_method_74_code
def yX12_lost : MethodName := ⟨RX12, "lost", "(II)I"⟩
abbrev cX12_opens : ByteArray := prog_14_method_75_code
def yX12_opens : MethodName := ⟨RX12, "opens", "(II)J"⟩
abbrev cX12_clash : ByteArray := prog_14_method_76_code
def yX12_clash : MethodName := ⟨RX12, "clash", "(I)I"⟩
abbrev cX12_wish : ByteArray := prog_14_method_77_code
def yX12_wish : MethodName := ⟨RX12, "wish", "(II)I"⟩
abbrev cX12_unwish : ByteArray := prog_14_method_78_code
def yX12_unwish : MethodName := ⟨RX12, "unwish", "()I"⟩
abbrev cX12_tryOut : ByteArray := prog_14_method_79_code
def yX12_tryOut : MethodName := ⟨RX12, "tryOut", "(IIII)V"⟩
abbrev cX12_orders : ByteArray := prog_14_method_80_code
def yX12_orders : MethodName := ⟨RX12, "orders", "(IIIIII)V"⟩
abbrev cX12_order : ByteArray := prog_14_method_81_code
def yX12_order : MethodName := ⟨RX12, "order", "(II)I"⟩
abbrev cX12_joined : ByteArray := prog_14_method_82_code
def yX12_joined : MethodName := ⟨RX12, "joined", "(III)I"⟩
abbrev cX12_bitsOf : ByteArray := prog_14_method_83_code
def yX12_bitsOf : MethodName := ⟨RX12, "bitsOf", "(I)I"⟩
abbrev cX12_heeds : ByteArray := prog_14_method_84_code
def yX12_heeds : MethodName := ⟨RX12, "heeds", "(II)Z"⟩
abbrev cX12_ringOn : ByteArray := prog_14_method_85_code
def yX12_ringOn : MethodName := ⟨RX12, "ringOn", "(IIIII)Z"⟩
abbrev cX12_ring : ByteArray := prog_14_method_86_code
def yX12_ring : MethodName := ⟨RX12, "ring", "(I)I"⟩
abbrev cX12_hangs : ByteArray := prog_14_method_87_code
def yX12_hangs : MethodName := ⟨RX12, "hangs", "(III)I"⟩
abbrev cX12_need : ByteArray := prog_14_method_88_code
def yX12_need : MethodName := ⟨RX12, "need", "(III)I"⟩
abbrev cX12_isUnder : ByteArray := prog_14_method_89_code
def yX12_isUnder : MethodName := ⟨RX12, "isUnder", "(II)Z"⟩
abbrev cX12_ran : ByteArray := prog_14_method_90_code
def yX12_ran : MethodName := ⟨RX12, "ran", "(I)V"⟩
abbrev cX12_plainCloses : ByteArray := prog_14_method_91_code
def yX12_plainCloses : MethodName := ⟨RX12, "plainCloses", "(II)I"⟩
abbrev cX12_closes : ByteArray := prog_14_method_92_code
def yX12_closes : MethodName := ⟨RX12, "closes", "(II)I"⟩
abbrev cX12_plainSettles : ByteArray := prog_14_method_93_code
def yX12_plainSettles : MethodName := ⟨RX12, "plainSettles", "(II)I"⟩
abbrev cX12_meritsSettles : ByteArray := prog_14_method_94_code
def yX12_meritsSettles : MethodName := ⟨RX12, "meritsSettles", "(II)I"⟩
abbrev cX12_settles : ByteArray := prog_14_method_95_code
def yX12_settles : MethodName := ⟨RX12, "settles", "(II)I"⟩
abbrev cX12_plainBinds : ByteArray := prog_14_method_96_code
def yX12_plainBinds : MethodName := ⟨RX12, "plainBinds", "(II)I"⟩
abbrev cX12_binds : ByteArray := prog_14_method_97_code
def yX12_binds : MethodName := ⟨RX12, "binds", "(II)I"⟩
abbrev cX12_plainTells : ByteArray := prog_14_method_98_code
def yX12_plainTells : MethodName := ⟨RX12, "plainTells", "(II)I"⟩
abbrev cX12_tells : ByteArray := prog_14_method_99_code
def yX12_tells : MethodName := ⟨RX12, "tells", "(II)I"⟩
abbrev cX12_act : ByteArray := prog_14_method_100_code
def yX12_act : MethodName := ⟨RX12, "act", "(III)I"⟩
abbrev cX12_trace : ByteArray := prog_14_method_101_code
def yX12_trace : MethodName := ⟨RX12, "trace", "(I)I"⟩
abbrev cX12_count : ByteArray := prog_14_method_102_code
def yX12_count : MethodName := ⟨RX12, "count", "(I)I"⟩
abbrev cX12_isShelf : ByteArray := prog_14_method_103_code
def yX12_isShelf : MethodName := ⟨RX12, "isShelf", "(I)Z"⟩
abbrev cX12_keep : ByteArray := prog_14_method_104_code
def yX12_keep : MethodName := ⟨RX12, "keep", "(II)I"⟩
abbrev cX12_row : ByteArray := prog_14_method_105_code
def yX12_row : MethodName := ⟨RX12, "row", "(III)I"⟩
abbrev cX12_whyNoPlace : ByteArray := prog_14_method_106_code
def yX12_whyNoPlace : MethodName := ⟨RX12, "whyNoPlace", "(II)I"⟩
abbrev cX12_put : ByteArray := prog_14_method_107_code
def yX12_put : MethodName := ⟨RX12, "put", "(IIJ)I"⟩
abbrev cX12_element : ByteArray := prog_14_method_108_code
def yX12_element : MethodName := ⟨RX12, "element", "(II)J"⟩
abbrev cX12_shift : ByteArray := prog_14_method_109_code
def yX12_shift : MethodName := ⟨RX12, "shift", "(IIIII)I"⟩
abbrev cX12_taken : ByteArray := prog_14_method_110_code
def yX12_taken : MethodName := ⟨RX12, "taken", "(II)I"⟩
abbrev cJ11_isValidCodePoint_9a6ad : ByteArray := prog_15_method_11_code
def yJ11_isValidCodePoint_9a6ad : MethodName := ⟨RJ11, "isValidCodePoint", "(I)Z"⟩
abbrev cJ11_highSurrogate_5068e : ByteArray := prog_15_method_28_code
def yJ11_highSurrogate_5068e : MethodName := ⟨RJ11, "highSurrogate", "(I)C"⟩
abbrev cJ11_lowSurrogate_5068e : ByteArray := prog_15_method_29_code
def yJ11_lowSurrogate_5068e : MethodName := ⟨RJ11, "lowSurrogate", "(I)C"⟩
abbrev cJ6_bitCount_0f7a4 : ByteArray := prog_17_method_49_code
def yJ6_bitCount_0f7a4 : MethodName := ⟨RJ6, "bitCount", "(I)I"⟩
abbrev cJ13_bitCount_95d88 : ByteArray := prog_18_method_50_code
def yJ13_bitCount_95d88 : MethodName := ⟨RJ13, "bitCount", "(J)I"⟩
abbrev cJ9_max_7cf53 : ByteArray := prog_19_method_65_code
def yJ9_max_7cf53 : MethodName := ⟨RJ9, "max", "(II)I"⟩
abbrev cJ9_min_7cf53 : ByteArray := prog_19_method_69_code
def yJ9_min_7cf53 : MethodName := ⟨RJ9, "min", "(II)I"⟩
abbrev cJ0_length_8abf5 : ByteArray := prog_20_method_54_code
def yJ0_length_8abf5 : MethodName := ⟨RJ0, "length", "()I"⟩
abbrev cJ0_charAt_5068e : ByteArray := prog_20_method_56_code
def yJ0_charAt_5068e : MethodName := ⟨RJ0, "charAt", "(I)C"⟩
abbrev cJ0_indexOf_0f7a4 : ByteArray := prog_20_method_79_code
def yJ0_indexOf_0f7a4 : MethodName := ⟨RJ0, "indexOf", "(I)I"⟩
abbrev cJ0_indexOf_7cf53 : ByteArray := prog_20_method_80_code
def yJ0_indexOf_7cf53 : MethodName := ⟨RJ0, "indexOf", "(II)I"⟩
abbrev cJ0_coder_7d493 : ByteArray := prog_20_method_152_code
def yJ0_coder_7d493 : MethodName := ⟨RJ0, "coder", "()B"⟩
abbrev cJ0_isLatin1_aae02 : ByteArray := prog_20_method_154_code
def yJ0_isLatin1_aae02 : MethodName := ⟨RJ0, "isLatin1", "()Z"⟩
abbrev cJ0_checkIndex_df160 : ByteArray := prog_20_method_155_code
def yJ0_checkIndex_df160 : MethodName := ⟨RJ0, "checkIndex", "(II)V"⟩
abbrev cJ0_checkBoundsBeginEnd_23922 : ByteArray := prog_20_method_158_code
def yJ0_checkBoundsBeginEnd_23922 : MethodName := ⟨RJ0, "checkBoundsBeginEnd", "(III)V"⟩
abbrev cJ1_charAt_3b067 : ByteArray := prog_21_method_2_code
def yJ1_charAt_3b067 : MethodName := ⟨RJ1, "charAt", "([BI)C"⟩
abbrev cJ1_canEncode_9a6ad : ByteArray := prog_21_method_4_code
def yJ1_canEncode_9a6ad : MethodName := ⟨RJ1, "canEncode", "(I)Z"⟩
abbrev cJ1_indexOf_4cfef : ByteArray := prog_21_method_22_code
def yJ1_indexOf_4cfef : MethodName := ⟨RJ1, "indexOf", "([BIII)I"⟩
abbrev cJ1_indexOfChar_4cfef : ByteArray := prog_21_method_23_code
def yJ1_indexOfChar_4cfef : MethodName := ⟨RJ1, "indexOfChar", "([BIII)I"⟩
abbrev cJ2_getChar_3b067 : ByteArray := prog_22_method_5_code
def yJ2_getChar_3b067 : MethodName := ⟨RJ2, "getChar", "([BI)C"⟩
abbrev cJ2_length_9d52b : ByteArray := prog_22_method_6_code
def yJ2_length_9d52b : MethodName := ⟨RJ2, "length", "([B)I"⟩
abbrev cJ2_indexOf_4cfef : ByteArray := prog_22_method_40_code
def yJ2_indexOf_4cfef : MethodName := ⟨RJ2, "indexOf", "([BIII)I"⟩
abbrev cJ2_indexOfChar_4cfef : ByteArray := prog_22_method_47_code
def yJ2_indexOfChar_4cfef : MethodName := ⟨RJ2, "indexOfChar", "([BIII)I"⟩
abbrev cJ2_indexOfCharUnsafe_4cfef : ByteArray := prog_22_method_48_code
def yJ2_indexOfCharUnsafe_4cfef : MethodName := ⟨RJ2, "indexOfCharUnsafe", "([BIII)I"⟩
abbrev cJ2_indexOfSupplementary_4cfef : ByteArray := prog_22_method_49_code
def yJ2_indexOfSupplementary_4cfef : MethodName := ⟨RJ2, "indexOfSupplementary", "([BIII)I"⟩
abbrev cJ2_charAt_3b067 : ByteArray := prog_22_method_83_code
def yJ2_charAt_3b067 : MethodName := ⟨RJ2, "charAt", "([BI)C"⟩
abbrev cJ2_checkIndex_2214a : ByteArray := prog_22_method_91_code
def yJ2_checkIndex_2214a : MethodName := ⟨RJ2, "checkIndex", "(I[B)V"⟩
abbrev cJ2_checkBoundsBeginEnd_d044e : ByteArray := prog_22_method_93_code
def yJ2_checkBoundsBeginEnd_d044e : MethodName := ⟨RJ2, "checkBoundsBeginEnd", "(II[B)V"⟩
abbrev cJ7_fill_d0a16 : ByteArray := prog_24_method_101_code
def yJ7_fill_d0a16 : MethodName := ⟨RJ7, "fill", "([JJ)V"⟩
abbrev cJ7_fill_53178 : ByteArray := prog_24_method_103_code
def yJ7_fill_53178 : MethodName := ⟨RJ7, "fill", "([II)V"⟩
abbrev cJ7_copyOf_59c91 : ByteArray := prog_24_method_123_code
def yJ7_copyOf_59c91 : MethodName := ⟨RJ7, "copyOf", "([II)[I"⟩
abbrev cJ3_checkIndex_8e157 : ByteArray := prog_25_method_11_code
def yJ3_checkIndex_8e157 : MethodName := ⟨RJ3, "checkIndex", "(IILjava/util/function/BiFunction;)I"⟩
abbrev cJ3_checkFromToIndex_8c36e : ByteArray := prog_25_method_12_code
def yJ3_checkFromToIndex_8c36e : MethodName := ⟨RJ3, "checkFromToIndex", "(IIILjava/util/function/BiFunction;)I"⟩
abbrev vwCl : List vw_C := [(RX0, TX0, 5), (RX1, TX1, 7), (RX2, TX2, 13), (RX3, TX3, 11), (RX4, TX4, 1), (RX5, TX5, 5), (RX6, TX6, 4), (RX7, TX7, 15), (RX8, TX8, 5), (RX9, TX9, 2), (RX10, TX10, 9), (RX11, TX11, 11), (RX12, TX12, 60)]
abbrev classes : List vw_C := vwCl
end
section
def zW : List Cond := lw_tbl.filter goodWord
theorem zwI {w : Cond} {i : Nat} (h : lw_tbl[i]? = some w) (hg : goodWord w = true) : w ∈ zW := List.mem_filter.mpr ⟨List.mem_of_getElem? h, hg⟩
theorem zG {ws : List Cond} (h : ∀ w ∈ ws, w ∈ zW) : GoodIn zW ws := fun w hw => ⟨h w hw, good_of_word (List.mem_filter.mp (h w hw)).2⟩
theorem zGV {own C : String} {idx : Nat} {y : MethodName} {cw : Cond} (h1 : Cond.methodLink own idx y ∈ zW) (h2 : Cond.instanceMethod y ∈ zW) (h3 : Cond.selects C y y ∈ zW) (h4 : Cond.initialized C ∈ zW) (h5 : cw ∈ zW) : GoodIn zW (wsV own idx C y (cw :: zW)) := zG (fun w hw => by
  unfold wsV at hw
  rcases List.mem_append.mp hw with h | h
  · simp only [List.mem_cons, List.not_mem_nil, or_false] at h
    rcases h with rfl | rfl | rfl | rfl <;> assumption
  · rcases List.mem_cons.mp h with rfl | h
    · exact h5
    · exact h)
theorem zGS {own : String} {idx : Nat} {y : MethodName} {cw : Cond} (h1 : Cond.methodLink own idx y ∈ zW) (h2 : Cond.static y ∈ zW) (h4 : Cond.initialized y.cls ∈ zW) (h5 : cw ∈ zW) : GoodIn zW (va_wsS own idx y (cw :: zW)) := zG (fun w hw => by
  unfold va_wsS at hw
  rcases List.mem_append.mp hw with h | h
  · simp only [List.mem_cons, List.not_mem_nil, or_false] at h
    rcases h with rfl | rfl | rfl <;> assumption
  · rcases List.mem_cons.mp h with rfl | h
    · exact h5
    · exact h)
-- rows for walks that a program lays: a method's world is one list, its pure function tells the answer
def zC (p : Program) (s : State) (m : MethodId) (args : Array Value) (meth : Method) (c : Code) (cc : ByteArray) (maxL : Nat) (rt : Option FieldType) (own : String) (ws : List Cond) : Prop :=
  p.tables.exec = Jvm.exec ∧ c.code = cc ∧ meth.sig.returnType = rt ∧ c.maxLocals = maxL ∧ s.vm.findClass own = some m.cls ∧ (∀ w ∈ ws, w.before args s = true) ∧ meth.locks = false
theorem zk_gd {c : Prop} [Decidable c] {α : Type} {x : Option α} {R : α} (h : (if c then none else x) = some R) : ¬ c ∧ x = some R := by
  by_cases hc : c
  · rw [if_pos hc] at h; cases h
  · rw [if_neg hc] at h; exact ⟨hc, h⟩
theorem zk_t {c : Prop} [Decidable c] {α : Type} {x y : Option α} {R : α} (hc : c) (h : (if c then x else y) = some R) : x = some R := by rw [if_pos hc] at h; exact h
theorem zk_f {c : Prop} [Decidable c] {α : Type} {x y : Option α} {R : α} (hc : ¬ c) (h : (if c then x else y) = some R) : y = some R := by rw [if_neg hc] at h; exact h
def zk_let {α β : Type} (x : α) (k : α → Option β) : Option β := k x
theorem zk_lt {α β : Type} {x : α} {k : α → Option β} {R : β} (h : zk_let x k = some R) : ∃ y, y = x ∧ k y = some R := ⟨x, rfl, h⟩
def zk_b1 {A B : Type} (x : Option A) (k : A → Option B) : Option B := x.bind k
theorem zk_o1 {A B : Type} {x : Option A} {k : A → Option B} {R : B} (h : zk_b1 x k = some R) : ∃ a, x = some a ∧ k a = some R := by
  unfold zk_b1 at h; exact Option.bind_eq_some_iff.mp h
theorem zk_fm {is : List Nat} {ws wc : va_W} : is.map (fun i => ws[i]?) = wc.map some → is.filterMap (fun i => ws[i]?) = wc := by
  induction is generalizing wc with
  | nil => intro h; cases wc with
    | nil => rfl
    | cons a l => cases h
  | cons i l ih =>
    intro h
    cases wc with
    | nil => cases h
    | cons a wl =>
      rw [List.map_cons, List.map_cons] at h
      injection h with h1 h2
      rw [List.filterMap_cons, h1, ih h2]
theorem zk_nz {x : Int32} (h : ¬ ¬ (x = 0 ∨ x = 1)) : narrow .boolean (.int x) = .int x := by
  rcases Decidable.not_not.mp h with rfl | rfl <;> rfl
theorem zk_fz {x : Int32} (h : ¬ ¬ (x = 0 ∨ x = 1)) : fits .boolean (.int x) = true := by
  rcases Decidable.not_not.mp h with rfl | rfl <;> rfl
theorem zk_out {x : Int32} {lo hi : Int} (L : List Int32) (hL : (List.range (hi - lo + 1).toNat).all (fun k => L.any (fun y => decide (y.toInt = lo + (k : Int)))) = true) (h : ∀ y ∈ L, ¬ x = y) : x.toInt < lo ∨ hi < x.toInt := by
  by_cases h1 : x.toInt < lo
  · exact Or.inl h1
  by_cases h2 : hi < x.toInt
  · exact Or.inr h2
  have hm : (x.toInt - lo).toNat ∈ List.range (hi - lo + 1).toNat := List.mem_range.mpr (by omega)
  obtain ⟨y, hy, e⟩ := List.any_eq_true.mp (List.all_eq_true.mp hL _ hm)
  have e2 : y.toInt = lo + (((x.toInt - lo).toNat : Nat) : Int) := of_decide_eq_true e
  have e3 : y.toInt = x.toInt := by omega
  exact absurd (Int32.toInt_inj.mp e3.symm) (h y hy)
abbrev zT (cs : Nat → ClassId) : List (ClassId × FieldType) := [(cs 0, .int), (cs 1, .long), (cs 2, .byte), (cs 3, .short), (cs 4, .boolean), (cs 5, .object "AlreadyJudged$Suit"), (cs 6, .object "AlreadyJudged$Law"), (cs 7, .object "AlreadyJudged$Place")]
def zPre (D : va_G) (cs : Nat → ClassId) (w : va_W) (sz : Nat) : State → Prop := fun U => U.heap.size = sz ∧ va_P D classes w U.heap ∧ va_K D classes (zT cs) U ∧ va_D (fun _ => True) w
theorem zPre_blind {D : va_G} {cs : Nat → ClassId} {w : va_W} {sz : Nat} {As : List Value} : FrameBlind (va_Pc As (zPre D cs w sz)) := fun a U g mk q => by
  obtain ⟨q0, q1, qP, qK, qD⟩ := q
  exact ⟨q0, q1, qP, va_K.moved (u := U) (U := U.calling g mk a) (Vm.Alike.refl U.vm) qK, qD⟩
section ZK
variable {p : Program} {l : Launch} {e : Env} {R : Room} {s : State} {m : MethodId} {args : Array Value} {below : List Frame} {meth : Method} {c : Code} {H : Heap} {locs : List Loc} {cells slots : Nat} {Q : State → Prop} {ls : Array Slot} {pc : Nat}
variable {A : Nat → Prop} {D : va_G} {cs : Nat → ClassId} {ws wc : va_W} {S : Type} {w1 : S → va_W} {y : MethodName} {wsY : List Cond} {rm : Room} {C own : String} {index maxL mc ms n nL : Nat} {bytes cc : ByteArray} {ret : Option FieldType} {b : Nat} {As rest : List Value}
theorem zk_vi {post : Int32 → S → Prop} (hM : Met l y wsY rm (va_Pc (.ref b :: As) (zPre D cs wc H.size)) (va_Qi post (fun (u : S) (t : State) => va_P D classes (w1 u) t.heap ∧ va_D (va_A wc H.size) (w1 u)) (va_A wc H.size)) mc ms (va_A wc H.size))
    (S0 : CallFix p m c cc nL s args zW own) (cw : CallW R s args own C index y bytes maxL ret wsY rm mc ms n) (hrv : ∃ cellB : Cell, H[b]? = some cellB ∧ cellB.vm.isStatics = false ∧ s.vm.findClass C = some cellB.cls)
    (hP : va_P D classes ws H) (hD : va_D A ws) (hS : va_S A s.heap H locs) (hK : va_K D classes (zT cs) s) (hA : ∀ q : Nat, s.heap.size ≤ q → A q) (isC isR : List Nat) (hC : isC.map (fun i => ws[i]?) = wc.map some) (hnC : va_nd isC = true) (hR : isR.map (fun i => ws[i]?) = (isR.filterMap (fun i => ws[i]?)).map some) (hn : va_nd isR = true) (hdis : ∀ i ∈ isR, i ∉ isC)
    (hlen : As.length = n) (hsize : ls.size = nL) (hW : (rest.map fun v => v.category).sum ≤ 8) (hdg : decode cc pc = .ok (.invokevirtual index, 3)) (hf : cells + mc ≤ R.cells ∧ slots + ms ≤ R.slots)
    (kk : ∀ (r : Int32) (u : S) (H1 : Heap) (locs1 : List Loc), post r u → va_P D classes (isR.filterMap (fun i => ws[i]?) ++ w1 u) H1 → va_D A (isR.filterMap (fun i => ws[i]?) ++ w1 u) → va_S A s.heap H1 locs1 → W p l e R s m args below meth c H1 locs1 (cells + mc) (slots + ms) Q (F0 m (pc + 3) ls (.int r :: rest))) :
    W p l e R s m args below meth c H locs cells slots Q (F0 m pc ls (As.reverse ++ .ref b :: rest)) := by
  have hPc : va_P D classes wc H := hP.sub isC (zk_fm hC)
  have hDc : va_D A wc := hD.sub isC hnC hC
  have hFc := va_free hD hS hA isC hC
  refine va_calli (va_runV (As := As) (rest := rest) S0 hM cw ⟨zPre_blind, hrv, fun U hU hW => ⟨rfl, by rw [hU], by rw [hU]; exact hPc, va_K.moved hW.alike hK, hDc.weaken (fun _ _ _ _ => trivial)⟩⟩ rfl hlen hsize rfl (lv_room hW) hdg hf) hS (fun q _ h => hFc q h) hFc (fun r u t H1 locs1 ht hvm hw hB hz1 hk1 hS1 => ?_)
  have hB : va_P D classes (w1 u) t.heap ∧ va_D (va_A wc H.size) (w1 u) := hB
  rw [ht] at hB
  obtain ⟨hP2, hD2⟩ := va_join hP hD isC isR hC hR hn hdis hk1 hFc hB.1 hB.2
  exact kk r u H1 locs1 hw hP2 hD2 hS1
theorem zk_vl {post : Int64 → S → Prop} (hM : Met l y wsY rm (va_Pc (.ref b :: As) (zPre D cs wc H.size)) (va_Ql post (fun (u : S) (t : State) => va_P D classes (w1 u) t.heap ∧ va_D (va_A wc H.size) (w1 u)) (va_A wc H.size)) mc ms (va_A wc H.size))
    (S0 : CallFix p m c cc nL s args zW own) (cw : CallW R s args own C index y bytes maxL ret wsY rm mc ms n) (hrv : ∃ cellB : Cell, H[b]? = some cellB ∧ cellB.vm.isStatics = false ∧ s.vm.findClass C = some cellB.cls)
    (hP : va_P D classes ws H) (hD : va_D A ws) (hS : va_S A s.heap H locs) (hK : va_K D classes (zT cs) s) (hA : ∀ q : Nat, s.heap.size ≤ q → A q) (isC isR : List Nat) (hC : isC.map (fun i => ws[i]?) = wc.map some) (hnC : va_nd isC = true) (hR : isR.map (fun i => ws[i]?) = (isR.filterMap (fun i => ws[i]?)).map some) (hn : va_nd isR = true) (hdis : ∀ i ∈ isR, i ∉ isC)
    (hlen : As.length = n) (hsize : ls.size = nL) (hW : (rest.map fun v => v.category).sum ≤ 8) (hdg : decode cc pc = .ok (.invokevirtual index, 3)) (hf : cells + mc ≤ R.cells ∧ slots + ms ≤ R.slots)
    (kk : ∀ (r : Int64) (u : S) (H1 : Heap) (locs1 : List Loc), post r u → va_P D classes (isR.filterMap (fun i => ws[i]?) ++ w1 u) H1 → va_D A (isR.filterMap (fun i => ws[i]?) ++ w1 u) → va_S A s.heap H1 locs1 → W p l e R s m args below meth c H1 locs1 (cells + mc) (slots + ms) Q (F0 m (pc + 3) ls (.long r :: rest))) :
    W p l e R s m args below meth c H locs cells slots Q (F0 m pc ls (As.reverse ++ .ref b :: rest)) := by
  have hPc : va_P D classes wc H := hP.sub isC (zk_fm hC)
  have hDc : va_D A wc := hD.sub isC hnC hC
  have hFc := va_free hD hS hA isC hC
  refine va_calll (va_runV (As := As) (rest := rest) S0 hM cw ⟨zPre_blind, hrv, fun U hU hW => ⟨rfl, by rw [hU], by rw [hU]; exact hPc, va_K.moved hW.alike hK, hDc.weaken (fun _ _ _ _ => trivial)⟩⟩ rfl hlen hsize rfl (lv_room hW) hdg hf) hS (fun q _ h => hFc q h) hFc (fun r u t H1 locs1 ht hvm hw hB hz1 hk1 hS1 => ?_)
  have hB : va_P D classes (w1 u) t.heap ∧ va_D (va_A wc H.size) (w1 u) := hB
  rw [ht] at hB
  obtain ⟨hP2, hD2⟩ := va_join hP hD isC isR hC hR hn hdis hk1 hFc hB.1 hB.2
  exact kk r u H1 locs1 hw hP2 hD2 hS1
theorem zk_vv {post : S → Prop} (hM : Met l y wsY rm (va_Pc (.ref b :: As) (zPre D cs wc H.size)) (va_Qv post (fun (u : S) (t : State) => va_P D classes (w1 u) t.heap ∧ va_D (va_A wc H.size) (w1 u)) (va_A wc H.size)) mc ms (va_A wc H.size))
    (S0 : CallFix p m c cc nL s args zW own) (cw : CallW R s args own C index y bytes maxL ret wsY rm mc ms n) (hrv : ∃ cellB : Cell, H[b]? = some cellB ∧ cellB.vm.isStatics = false ∧ s.vm.findClass C = some cellB.cls)
    (hP : va_P D classes ws H) (hD : va_D A ws) (hS : va_S A s.heap H locs) (hK : va_K D classes (zT cs) s) (hA : ∀ q : Nat, s.heap.size ≤ q → A q) (isC isR : List Nat) (hC : isC.map (fun i => ws[i]?) = wc.map some) (hnC : va_nd isC = true) (hR : isR.map (fun i => ws[i]?) = (isR.filterMap (fun i => ws[i]?)).map some) (hn : va_nd isR = true) (hdis : ∀ i ∈ isR, i ∉ isC)
    (hlen : As.length = n) (hsize : ls.size = nL) (hW : (rest.map fun v => v.category).sum ≤ 8) (hdg : decode cc pc = .ok (.invokevirtual index, 3)) (hf : cells + mc ≤ R.cells ∧ slots + ms ≤ R.slots)
    (kk : ∀ (u : S) (H1 : Heap) (locs1 : List Loc), post u → va_P D classes (isR.filterMap (fun i => ws[i]?) ++ w1 u) H1 → va_D A (isR.filterMap (fun i => ws[i]?) ++ w1 u) → va_S A s.heap H1 locs1 → W p l e R s m args below meth c H1 locs1 (cells + mc) (slots + ms) Q (F0 m (pc + 3) ls (rest))) :
    W p l e R s m args below meth c H locs cells slots Q (F0 m pc ls (As.reverse ++ .ref b :: rest)) := by
  have hPc : va_P D classes wc H := hP.sub isC (zk_fm hC)
  have hDc : va_D A wc := hD.sub isC hnC hC
  have hFc := va_free hD hS hA isC hC
  refine va_callv (va_runV (As := As) (rest := rest) S0 hM cw ⟨zPre_blind, hrv, fun U hU hW => ⟨rfl, by rw [hU], by rw [hU]; exact hPc, va_K.moved hW.alike hK, hDc.weaken (fun _ _ _ _ => trivial)⟩⟩ rfl hlen hsize rfl (lv_room hW) hdg hf) hS (fun q _ h => hFc q h) hFc (fun u t H1 locs1 ht hvm hw hB hz1 hk1 hS1 => ?_)
  have hB : va_P D classes (w1 u) t.heap ∧ va_D (va_A wc H.size) (w1 u) := hB
  rw [ht] at hB
  obtain ⟨hP2, hD2⟩ := va_join hP hD isC isR hC hR hn hdis hk1 hFc hB.1 hB.2
  exact kk u H1 locs1 hw hP2 hD2 hS1
theorem zk_si {post : Int32 → S → Prop} (hM : Met l y wsY rm (va_Pc As (zPre D cs wc H.size)) (va_Qi post (fun (u : S) (t : State) => va_P D classes (w1 u) t.heap ∧ va_D (va_A wc H.size) (w1 u)) (va_A wc H.size)) mc ms (va_A wc H.size))
    (S0 : CallFix p m c cc nL s args zW own) (cw : CallB R s args own index y bytes maxL ret wsY rm mc ms n ∧ (Cond.static y).before args s = true)
    (hP : va_P D classes ws H) (hD : va_D A ws) (hS : va_S A s.heap H locs) (hK : va_K D classes (zT cs) s) (hA : ∀ q : Nat, s.heap.size ≤ q → A q) (isC isR : List Nat) (hC : isC.map (fun i => ws[i]?) = wc.map some) (hnC : va_nd isC = true) (hR : isR.map (fun i => ws[i]?) = (isR.filterMap (fun i => ws[i]?)).map some) (hn : va_nd isR = true) (hdis : ∀ i ∈ isR, i ∉ isC)
    (hlen : As.length = n) (hsize : ls.size = nL) (hW : (rest.map fun v => v.category).sum ≤ 8) (hdg : decode cc pc = .ok (.invokestatic index, 3)) (hf : cells + mc ≤ R.cells ∧ slots + ms ≤ R.slots)
    (kk : ∀ (r : Int32) (u : S) (H1 : Heap) (locs1 : List Loc), post r u → va_P D classes (isR.filterMap (fun i => ws[i]?) ++ w1 u) H1 → va_D A (isR.filterMap (fun i => ws[i]?) ++ w1 u) → va_S A s.heap H1 locs1 → W p l e R s m args below meth c H1 locs1 (cells + mc) (slots + ms) Q (F0 m (pc + 3) ls (.int r :: rest))) :
    W p l e R s m args below meth c H locs cells slots Q (F0 m pc ls (As.reverse ++ rest)) := by
  have hPc : va_P D classes wc H := hP.sub isC (zk_fm hC)
  have hDc : va_D A wc := hD.sub isC hnC hC
  have hFc := va_free hD hS hA isC hC
  refine va_calli (va_runS (As := As) (rest := rest) S0 hM cw ⟨zPre_blind, fun U hU hW => ⟨rfl, by rw [hU], by rw [hU]; exact hPc, va_K.moved hW.alike hK, hDc.weaken (fun _ _ _ _ => trivial)⟩⟩ rfl hlen hsize rfl (lv_room hW) hdg hf) hS (fun q _ h => hFc q h) hFc (fun r u t H1 locs1 ht hvm hw hB hz1 hk1 hS1 => ?_)
  have hB : va_P D classes (w1 u) t.heap ∧ va_D (va_A wc H.size) (w1 u) := hB
  rw [ht] at hB
  obtain ⟨hP2, hD2⟩ := va_join hP hD isC isR hC hR hn hdis hk1 hFc hB.1 hB.2
  exact kk r u H1 locs1 hw hP2 hD2 hS1
theorem zk_sl {post : Int64 → S → Prop} (hM : Met l y wsY rm (va_Pc As (zPre D cs wc H.size)) (va_Ql post (fun (u : S) (t : State) => va_P D classes (w1 u) t.heap ∧ va_D (va_A wc H.size) (w1 u)) (va_A wc H.size)) mc ms (va_A wc H.size))
    (S0 : CallFix p m c cc nL s args zW own) (cw : CallB R s args own index y bytes maxL ret wsY rm mc ms n ∧ (Cond.static y).before args s = true)
    (hP : va_P D classes ws H) (hD : va_D A ws) (hS : va_S A s.heap H locs) (hK : va_K D classes (zT cs) s) (hA : ∀ q : Nat, s.heap.size ≤ q → A q) (isC isR : List Nat) (hC : isC.map (fun i => ws[i]?) = wc.map some) (hnC : va_nd isC = true) (hR : isR.map (fun i => ws[i]?) = (isR.filterMap (fun i => ws[i]?)).map some) (hn : va_nd isR = true) (hdis : ∀ i ∈ isR, i ∉ isC)
    (hlen : As.length = n) (hsize : ls.size = nL) (hW : (rest.map fun v => v.category).sum ≤ 8) (hdg : decode cc pc = .ok (.invokestatic index, 3)) (hf : cells + mc ≤ R.cells ∧ slots + ms ≤ R.slots)
    (kk : ∀ (r : Int64) (u : S) (H1 : Heap) (locs1 : List Loc), post r u → va_P D classes (isR.filterMap (fun i => ws[i]?) ++ w1 u) H1 → va_D A (isR.filterMap (fun i => ws[i]?) ++ w1 u) → va_S A s.heap H1 locs1 → W p l e R s m args below meth c H1 locs1 (cells + mc) (slots + ms) Q (F0 m (pc + 3) ls (.long r :: rest))) :
    W p l e R s m args below meth c H locs cells slots Q (F0 m pc ls (As.reverse ++ rest)) := by
  have hPc : va_P D classes wc H := hP.sub isC (zk_fm hC)
  have hDc : va_D A wc := hD.sub isC hnC hC
  have hFc := va_free hD hS hA isC hC
  refine va_calll (va_runS (As := As) (rest := rest) S0 hM cw ⟨zPre_blind, fun U hU hW => ⟨rfl, by rw [hU], by rw [hU]; exact hPc, va_K.moved hW.alike hK, hDc.weaken (fun _ _ _ _ => trivial)⟩⟩ rfl hlen hsize rfl (lv_room hW) hdg hf) hS (fun q _ h => hFc q h) hFc (fun r u t H1 locs1 ht hvm hw hB hz1 hk1 hS1 => ?_)
  have hB : va_P D classes (w1 u) t.heap ∧ va_D (va_A wc H.size) (w1 u) := hB
  rw [ht] at hB
  obtain ⟨hP2, hD2⟩ := va_join hP hD isC isR hC hR hn hdis hk1 hFc hB.1 hB.2
  exact kk r u H1 locs1 hw hP2 hD2 hS1
theorem zk_sv {post : S → Prop} (hM : Met l y wsY rm (va_Pc As (zPre D cs wc H.size)) (va_Qv post (fun (u : S) (t : State) => va_P D classes (w1 u) t.heap ∧ va_D (va_A wc H.size) (w1 u)) (va_A wc H.size)) mc ms (va_A wc H.size))
    (S0 : CallFix p m c cc nL s args zW own) (cw : CallB R s args own index y bytes maxL ret wsY rm mc ms n ∧ (Cond.static y).before args s = true)
    (hP : va_P D classes ws H) (hD : va_D A ws) (hS : va_S A s.heap H locs) (hK : va_K D classes (zT cs) s) (hA : ∀ q : Nat, s.heap.size ≤ q → A q) (isC isR : List Nat) (hC : isC.map (fun i => ws[i]?) = wc.map some) (hnC : va_nd isC = true) (hR : isR.map (fun i => ws[i]?) = (isR.filterMap (fun i => ws[i]?)).map some) (hn : va_nd isR = true) (hdis : ∀ i ∈ isR, i ∉ isC)
    (hlen : As.length = n) (hsize : ls.size = nL) (hW : (rest.map fun v => v.category).sum ≤ 8) (hdg : decode cc pc = .ok (.invokestatic index, 3)) (hf : cells + mc ≤ R.cells ∧ slots + ms ≤ R.slots)
    (kk : ∀ (u : S) (H1 : Heap) (locs1 : List Loc), post u → va_P D classes (isR.filterMap (fun i => ws[i]?) ++ w1 u) H1 → va_D A (isR.filterMap (fun i => ws[i]?) ++ w1 u) → va_S A s.heap H1 locs1 → W p l e R s m args below meth c H1 locs1 (cells + mc) (slots + ms) Q (F0 m (pc + 3) ls (rest))) :
    W p l e R s m args below meth c H locs cells slots Q (F0 m pc ls (As.reverse ++ rest)) := by
  have hPc : va_P D classes wc H := hP.sub isC (zk_fm hC)
  have hDc : va_D A wc := hD.sub isC hnC hC
  have hFc := va_free hD hS hA isC hC
  refine va_callv (va_runS (As := As) (rest := rest) S0 hM cw ⟨zPre_blind, fun U hU hW => ⟨rfl, by rw [hU], by rw [hU]; exact hPc, va_K.moved hW.alike hK, hDc.weaken (fun _ _ _ _ => trivial)⟩⟩ rfl hlen hsize rfl (lv_room hW) hdg hf) hS (fun q _ h => hFc q h) hFc (fun u t H1 locs1 ht hvm hw hB hz1 hk1 hS1 => ?_)
  have hB : va_P D classes (w1 u) t.heap ∧ va_D (va_A wc H.size) (w1 u) := hB
  rw [ht] at hB
  obtain ⟨hP2, hD2⟩ := va_join hP hD isC isR hC hR hn hdis hk1 hFc hB.1 hB.2
  exact kk u H1 locs1 hw hP2 hD2 hS1
def zk_b2 {A0 A1 B : Type} (x : Option (A0 × A1)) (k : A0 → A1 → Option B) : Option B := x.bind (fun R => k R.1 R.2)
theorem zk_o2 {A0 A1 B : Type} {x : Option (A0 × A1)} {k : A0 → A1 → Option B} {R : B} (h : zk_b2 x k = some R) : ∃ a0 a1, x = some (a0, a1) ∧ k a0 a1 = some R := by
  unfold zk_b2 at h
  obtain ⟨⟨a0, a1⟩, h1, h2⟩ := Option.bind_eq_some_iff.mp h
  exact ⟨a0, a1, h1, h2⟩
def zk_b3 {A0 A1 A2 B : Type} (x : Option (A0 × A1 × A2)) (k : A0 → A1 → A2 → Option B) : Option B := x.bind (fun R => k R.1 R.2.1 R.2.2)
theorem zk_o3 {A0 A1 A2 B : Type} {x : Option (A0 × A1 × A2)} {k : A0 → A1 → A2 → Option B} {R : B} (h : zk_b3 x k = some R) : ∃ a0 a1 a2, x = some (a0, a1, a2) ∧ k a0 a1 a2 = some R := by
  unfold zk_b3 at h
  obtain ⟨⟨a0, a1, a2⟩, h1, h2⟩ := Option.bind_eq_some_iff.mp h
  exact ⟨a0, a1, a2, h1, h2⟩
def zk_b4 {A0 A1 A2 A3 B : Type} (x : Option (A0 × A1 × A2 × A3)) (k : A0 → A1 → A2 → A3 → Option B) : Option B := x.bind (fun R => k R.1 R.2.1 R.2.2.1 R.2.2.2)
theorem zk_o4 {A0 A1 A2 A3 B : Type} {x : Option (A0 × A1 × A2 × A3)} {k : A0 → A1 → A2 → A3 → Option B} {R : B} (h : zk_b4 x k = some R) : ∃ a0 a1 a2 a3, x = some (a0, a1, a2, a3) ∧ k a0 a1 a2 a3 = some R := by
  unfold zk_b4 at h
  obtain ⟨⟨a0, a1, a2, a3⟩, h1, h2⟩ := Option.bind_eq_some_iff.mp h
  exact ⟨a0, a1, a2, a3, h1, h2⟩
def zk_b5 {A0 A1 A2 A3 A4 B : Type} (x : Option (A0 × A1 × A2 × A3 × A4)) (k : A0 → A1 → A2 → A3 → A4 → Option B) : Option B := x.bind (fun R => k R.1 R.2.1 R.2.2.1 R.2.2.2.1 R.2.2.2.2)
theorem zk_o5 {A0 A1 A2 A3 A4 B : Type} {x : Option (A0 × A1 × A2 × A3 × A4)} {k : A0 → A1 → A2 → A3 → A4 → Option B} {R : B} (h : zk_b5 x k = some R) : ∃ a0 a1 a2 a3 a4, x = some (a0, a1, a2, a3, a4) ∧ k a0 a1 a2 a3 a4 = some R := by
  unfold zk_b5 at h
  obtain ⟨⟨a0, a1, a2, a3, a4⟩, h1, h2⟩ := Option.bind_eq_some_iff.mp h
  exact ⟨a0, a1, a2, a3, a4, h1, h2⟩
def zk_b6 {A0 A1 A2 A3 A4 A5 B : Type} (x : Option (A0 × A1 × A2 × A3 × A4 × A5)) (k : A0 → A1 → A2 → A3 → A4 → A5 → Option B) : Option B := x.bind (fun R => k R.1 R.2.1 R.2.2.1 R.2.2.2.1 R.2.2.2.2.1 R.2.2.2.2.2)
theorem zk_o6 {A0 A1 A2 A3 A4 A5 B : Type} {x : Option (A0 × A1 × A2 × A3 × A4 × A5)} {k : A0 → A1 → A2 → A3 → A4 → A5 → Option B} {R : B} (h : zk_b6 x k = some R) : ∃ a0 a1 a2 a3 a4 a5, x = some (a0, a1, a2, a3, a4, a5) ∧ k a0 a1 a2 a3 a4 a5 = some R := by
  unfold zk_b6 at h
  obtain ⟨⟨a0, a1, a2, a3, a4, a5⟩, h1, h2⟩ := Option.bind_eq_some_iff.mp h
  exact ⟨a0, a1, a2, a3, a4, a5, h1, h2⟩
def zk_b7 {A0 A1 A2 A3 A4 A5 A6 B : Type} (x : Option (A0 × A1 × A2 × A3 × A4 × A5 × A6)) (k : A0 → A1 → A2 → A3 → A4 → A5 → A6 → Option B) : Option B := x.bind (fun R => k R.1 R.2.1 R.2.2.1 R.2.2.2.1 R.2.2.2.2.1 R.2.2.2.2.2.1 R.2.2.2.2.2.2)
theorem zk_o7 {A0 A1 A2 A3 A4 A5 A6 B : Type} {x : Option (A0 × A1 × A2 × A3 × A4 × A5 × A6)} {k : A0 → A1 → A2 → A3 → A4 → A5 → A6 → Option B} {R : B} (h : zk_b7 x k = some R) : ∃ a0 a1 a2 a3 a4 a5 a6, x = some (a0, a1, a2, a3, a4, a5, a6) ∧ k a0 a1 a2 a3 a4 a5 a6 = some R := by
  unfold zk_b7 at h
  obtain ⟨⟨a0, a1, a2, a3, a4, a5, a6⟩, h1, h2⟩ := Option.bind_eq_some_iff.mp h
  exact ⟨a0, a1, a2, a3, a4, a5, a6, h1, h2⟩
def zk_b8 {A0 A1 A2 A3 A4 A5 A6 A7 B : Type} (x : Option (A0 × A1 × A2 × A3 × A4 × A5 × A6 × A7)) (k : A0 → A1 → A2 → A3 → A4 → A5 → A6 → A7 → Option B) : Option B := x.bind (fun R => k R.1 R.2.1 R.2.2.1 R.2.2.2.1 R.2.2.2.2.1 R.2.2.2.2.2.1 R.2.2.2.2.2.2.1 R.2.2.2.2.2.2.2)
theorem zk_o8 {A0 A1 A2 A3 A4 A5 A6 A7 B : Type} {x : Option (A0 × A1 × A2 × A3 × A4 × A5 × A6 × A7)} {k : A0 → A1 → A2 → A3 → A4 → A5 → A6 → A7 → Option B} {R : B} (h : zk_b8 x k = some R) : ∃ a0 a1 a2 a3 a4 a5 a6 a7, x = some (a0, a1, a2, a3, a4, a5, a6, a7) ∧ k a0 a1 a2 a3 a4 a5 a6 a7 = some R := by
  unfold zk_b8 at h
  obtain ⟨⟨a0, a1, a2, a3, a4, a5, a6, a7⟩, h1, h2⟩ := Option.bind_eq_some_iff.mp h
  exact ⟨a0, a1, a2, a3, a4, a5, a6, a7, h1, h2⟩
def zk_b9 {A0 A1 A2 A3 A4 A5 A6 A7 A8 B : Type} (x : Option (A0 × A1 × A2 × A3 × A4 × A5 × A6 × A7 × A8)) (k : A0 → A1 → A2 → A3 → A4 → A5 → A6 → A7 → A8 → Option B) : Option B := x.bind (fun R => k R.1 R.2.1 R.2.2.1 R.2.2.2.1 R.2.2.2.2.1 R.2.2.2.2.2.1 R.2.2.2.2.2.2.1 R.2.2.2.2.2.2.2.1 R.2.2.2.2.2.2.2.2)
theorem zk_o9 {A0 A1 A2 A3 A4 A5 A6 A7 A8 B : Type} {x : Option (A0 × A1 × A2 × A3 × A4 × A5 × A6 × A7 × A8)} {k : A0 → A1 → A2 → A3 → A4 → A5 → A6 → A7 → A8 → Option B} {R : B} (h : zk_b9 x k = some R) : ∃ a0 a1 a2 a3 a4 a5 a6 a7 a8, x = some (a0, a1, a2, a3, a4, a5, a6, a7, a8) ∧ k a0 a1 a2 a3 a4 a5 a6 a7 a8 = some R := by
  unfold zk_b9 at h
  obtain ⟨⟨a0, a1, a2, a3, a4, a5, a6, a7, a8⟩, h1, h2⟩ := Option.bind_eq_some_iff.mp h
  exact ⟨a0, a1, a2, a3, a4, a5, a6, a7, a8, h1, h2⟩
def zk_b10 {A0 A1 A2 A3 A4 A5 A6 A7 A8 A9 B : Type} (x : Option (A0 × A1 × A2 × A3 × A4 × A5 × A6 × A7 × A8 × A9)) (k : A0 → A1 → A2 → A3 → A4 → A5 → A6 → A7 → A8 → A9 → Option B) : Option B := x.bind (fun R => k R.1 R.2.1 R.2.2.1 R.2.2.2.1 R.2.2.2.2.1 R.2.2.2.2.2.1 R.2.2.2.2.2.2.1 R.2.2.2.2.2.2.2.1 R.2.2.2.2.2.2.2.2.1 R.2.2.2.2.2.2.2.2.2)
theorem zk_o10 {A0 A1 A2 A3 A4 A5 A6 A7 A8 A9 B : Type} {x : Option (A0 × A1 × A2 × A3 × A4 × A5 × A6 × A7 × A8 × A9)} {k : A0 → A1 → A2 → A3 → A4 → A5 → A6 → A7 → A8 → A9 → Option B} {R : B} (h : zk_b10 x k = some R) : ∃ a0 a1 a2 a3 a4 a5 a6 a7 a8 a9, x = some (a0, a1, a2, a3, a4, a5, a6, a7, a8, a9) ∧ k a0 a1 a2 a3 a4 a5 a6 a7 a8 a9 = some R := by
  unfold zk_b10 at h
  obtain ⟨⟨a0, a1, a2, a3, a4, a5, a6, a7, a8, a9⟩, h1, h2⟩ := Option.bind_eq_some_iff.mp h
  exact ⟨a0, a1, a2, a3, a4, a5, a6, a7, a8, a9, h1, h2⟩
def zk_b11 {A0 A1 A2 A3 A4 A5 A6 A7 A8 A9 A10 B : Type} (x : Option (A0 × A1 × A2 × A3 × A4 × A5 × A6 × A7 × A8 × A9 × A10)) (k : A0 → A1 → A2 → A3 → A4 → A5 → A6 → A7 → A8 → A9 → A10 → Option B) : Option B := x.bind (fun R => k R.1 R.2.1 R.2.2.1 R.2.2.2.1 R.2.2.2.2.1 R.2.2.2.2.2.1 R.2.2.2.2.2.2.1 R.2.2.2.2.2.2.2.1 R.2.2.2.2.2.2.2.2.1 R.2.2.2.2.2.2.2.2.2.1 R.2.2.2.2.2.2.2.2.2.2)
theorem zk_o11 {A0 A1 A2 A3 A4 A5 A6 A7 A8 A9 A10 B : Type} {x : Option (A0 × A1 × A2 × A3 × A4 × A5 × A6 × A7 × A8 × A9 × A10)} {k : A0 → A1 → A2 → A3 → A4 → A5 → A6 → A7 → A8 → A9 → A10 → Option B} {R : B} (h : zk_b11 x k = some R) : ∃ a0 a1 a2 a3 a4 a5 a6 a7 a8 a9 a10, x = some (a0, a1, a2, a3, a4, a5, a6, a7, a8, a9, a10) ∧ k a0 a1 a2 a3 a4 a5 a6 a7 a8 a9 a10 = some R := by
  unfold zk_b11 at h
  obtain ⟨⟨a0, a1, a2, a3, a4, a5, a6, a7, a8, a9, a10⟩, h1, h2⟩ := Option.bind_eq_some_iff.mp h
  exact ⟨a0, a1, a2, a3, a4, a5, a6, a7, a8, a9, a10, h1, h2⟩
def zk_b12 {A0 A1 A2 A3 A4 A5 A6 A7 A8 A9 A10 A11 B : Type} (x : Option (A0 × A1 × A2 × A3 × A4 × A5 × A6 × A7 × A8 × A9 × A10 × A11)) (k : A0 → A1 → A2 → A3 → A4 → A5 → A6 → A7 → A8 → A9 → A10 → A11 → Option B) : Option B := x.bind (fun R => k R.1 R.2.1 R.2.2.1 R.2.2.2.1 R.2.2.2.2.1 R.2.2.2.2.2.1 R.2.2.2.2.2.2.1 R.2.2.2.2.2.2.2.1 R.2.2.2.2.2.2.2.2.1 R.2.2.2.2.2.2.2.2.2.1 R.2.2.2.2.2.2.2.2.2.2.1 R.2.2.2.2.2.2.2.2.2.2.2)
theorem zk_o12 {A0 A1 A2 A3 A4 A5 A6 A7 A8 A9 A10 A11 B : Type} {x : Option (A0 × A1 × A2 × A3 × A4 × A5 × A6 × A7 × A8 × A9 × A10 × A11)} {k : A0 → A1 → A2 → A3 → A4 → A5 → A6 → A7 → A8 → A9 → A10 → A11 → Option B} {R : B} (h : zk_b12 x k = some R) : ∃ a0 a1 a2 a3 a4 a5 a6 a7 a8 a9 a10 a11, x = some (a0, a1, a2, a3, a4, a5, a6, a7, a8, a9, a10, a11) ∧ k a0 a1 a2 a3 a4 a5 a6 a7 a8 a9 a10 a11 = some R := by
  unfold zk_b12 at h
  obtain ⟨⟨a0, a1, a2, a3, a4, a5, a6, a7, a8, a9, a10, a11⟩, h1, h2⟩ := Option.bind_eq_some_iff.mp h
  exact ⟨a0, a1, a2, a3, a4, a5, a6, a7, a8, a9, a10, a11, h1, h2⟩
def zk_b13 {A0 A1 A2 A3 A4 A5 A6 A7 A8 A9 A10 A11 A12 B : Type} (x : Option (A0 × A1 × A2 × A3 × A4 × A5 × A6 × A7 × A8 × A9 × A10 × A11 × A12)) (k : A0 → A1 → A2 → A3 → A4 → A5 → A6 → A7 → A8 → A9 → A10 → A11 → A12 → Option B) : Option B := x.bind (fun R => k R.1 R.2.1 R.2.2.1 R.2.2.2.1 R.2.2.2.2.1 R.2.2.2.2.2.1 R.2.2.2.2.2.2.1 R.2.2.2.2.2.2.2.1 R.2.2.2.2.2.2.2.2.1 R.2.2.2.2.2.2.2.2.2.1 R.2.2.2.2.2.2.2.2.2.2.1 R.2.2.2.2.2.2.2.2.2.2.2.1 R.2.2.2.2.2.2.2.2.2.2.2.2)
theorem zk_o13 {A0 A1 A2 A3 A4 A5 A6 A7 A8 A9 A10 A11 A12 B : Type} {x : Option (A0 × A1 × A2 × A3 × A4 × A5 × A6 × A7 × A8 × A9 × A10 × A11 × A12)} {k : A0 → A1 → A2 → A3 → A4 → A5 → A6 → A7 → A8 → A9 → A10 → A11 → A12 → Option B} {R : B} (h : zk_b13 x k = some R) : ∃ a0 a1 a2 a3 a4 a5 a6 a7 a8 a9 a10 a11 a12, x = some (a0, a1, a2, a3, a4, a5, a6, a7, a8, a9, a10, a11, a12) ∧ k a0 a1 a2 a3 a4 a5 a6 a7 a8 a9 a10 a11 a12 = some R := by
  unfold zk_b13 at h
  obtain ⟨⟨a0, a1, a2, a3, a4, a5, a6, a7, a8, a9, a10, a11, a12⟩, h1, h2⟩ := Option.bind_eq_some_iff.mp h
  exact ⟨a0, a1, a2, a3, a4, a5, a6, a7, a8, a9, a10, a11, a12, h1, h2⟩
def zk_b14 {A0 A1 A2 A3 A4 A5 A6 A7 A8 A9 A10 A11 A12 A13 B : Type} (x : Option (A0 × A1 × A2 × A3 × A4 × A5 × A6 × A7 × A8 × A9 × A10 × A11 × A12 × A13)) (k : A0 → A1 → A2 → A3 → A4 → A5 → A6 → A7 → A8 → A9 → A10 → A11 → A12 → A13 → Option B) : Option B := x.bind (fun R => k R.1 R.2.1 R.2.2.1 R.2.2.2.1 R.2.2.2.2.1 R.2.2.2.2.2.1 R.2.2.2.2.2.2.1 R.2.2.2.2.2.2.2.1 R.2.2.2.2.2.2.2.2.1 R.2.2.2.2.2.2.2.2.2.1 R.2.2.2.2.2.2.2.2.2.2.1 R.2.2.2.2.2.2.2.2.2.2.2.1 R.2.2.2.2.2.2.2.2.2.2.2.2.1 R.2.2.2.2.2.2.2.2.2.2.2.2.2)
theorem zk_o14 {A0 A1 A2 A3 A4 A5 A6 A7 A8 A9 A10 A11 A12 A13 B : Type} {x : Option (A0 × A1 × A2 × A3 × A4 × A5 × A6 × A7 × A8 × A9 × A10 × A11 × A12 × A13)} {k : A0 → A1 → A2 → A3 → A4 → A5 → A6 → A7 → A8 → A9 → A10 → A11 → A12 → A13 → Option B} {R : B} (h : zk_b14 x k = some R) : ∃ a0 a1 a2 a3 a4 a5 a6 a7 a8 a9 a10 a11 a12 a13, x = some (a0, a1, a2, a3, a4, a5, a6, a7, a8, a9, a10, a11, a12, a13) ∧ k a0 a1 a2 a3 a4 a5 a6 a7 a8 a9 a10 a11 a12 a13 = some R := by
  unfold zk_b14 at h
  obtain ⟨⟨a0, a1, a2, a3, a4, a5, a6, a7, a8, a9, a10, a11, a12, a13⟩, h1, h2⟩ := Option.bind_eq_some_iff.mp h
  exact ⟨a0, a1, a2, a3, a4, a5, a6, a7, a8, a9, a10, a11, a12, a13, h1, h2⟩
end ZK
end
section
theorem iX0 : ∀ w ∈ u_ws RX0 TX0 5, w ∈ zW := fun w hw => List.mem_filter.mpr ⟨(by decide +kernel : ∀ w ∈ u_ws RX0 TX0 5, w ∈ lw_tbl) w hw, (by decide +kernel : ∀ w ∈ u_ws RX0 TX0 5, goodWord w = true) w hw⟩
theorem iX1 : ∀ w ∈ u_ws RX1 TX1 7, w ∈ zW := fun w hw => List.mem_filter.mpr ⟨(by decide +kernel : ∀ w ∈ u_ws RX1 TX1 7, w ∈ lw_tbl) w hw, (by decide +kernel : ∀ w ∈ u_ws RX1 TX1 7, goodWord w = true) w hw⟩
theorem iX2 : ∀ w ∈ u_ws RX2 TX2 13, w ∈ zW := fun w hw => List.mem_filter.mpr ⟨(by decide +kernel : ∀ w ∈ u_ws RX2 TX2 13, w ∈ lw_tbl) w hw, (by decide +kernel : ∀ w ∈ u_ws RX2 TX2 13, goodWord w = true) w hw⟩
theorem iX3 : ∀ w ∈ u_ws RX3 TX3 11, w ∈ zW := fun w hw => List.mem_filter.mpr ⟨(by decide +kernel : ∀ w ∈ u_ws RX3 TX3 11, w ∈ lw_tbl) w hw, (by decide +kernel : ∀ w ∈ u_ws RX3 TX3 11, goodWord w = true) w hw⟩
theorem iX4 : ∀ w ∈ u_ws RX4 TX4 1, w ∈ zW := fun w hw => List.mem_filter.mpr ⟨(by decide +kernel : ∀ w ∈ u_ws RX4 TX4 1, w ∈ lw_tbl) w hw, (by decide +kernel : ∀ w ∈ u_ws RX4 TX4 1, goodWord w = true) w hw⟩
theorem iX5 : ∀ w ∈ u_ws RX5 TX5 5, w ∈ zW := fun w hw => List.mem_filter.mpr ⟨(by decide +kernel : ∀ w ∈ u_ws RX5 TX5 5, w ∈ lw_tbl) w hw, (by decide +kernel : ∀ w ∈ u_ws RX5 TX5 5, goodWord w = true) w hw⟩
theorem iX6 : ∀ w ∈ u_ws RX6 TX6 4, w ∈ zW := fun w hw => List.mem_filter.mpr ⟨(by decide +kernel : ∀ w ∈ u_ws RX6 TX6 4, w ∈ lw_tbl) w hw, (by decide +kernel : ∀ w ∈ u_ws RX6 TX6 4, goodWord w = true) w hw⟩
theorem iX7 : ∀ w ∈ u_ws RX7 TX7 15, w ∈ zW := fun w hw => List.mem_filter.mpr ⟨(by decide +kernel : ∀ w ∈ u_ws RX7 TX7 15, w ∈ lw_tbl) w hw, (by decide +kernel : ∀ w ∈ u_ws RX7 TX7 15, goodWord w = true) w hw⟩
theorem iX8 : ∀ w ∈ u_ws RX8 TX8 5, w ∈ zW := fun w hw => List.mem_filter.mpr ⟨(by decide +kernel : ∀ w ∈ u_ws RX8 TX8 5, w ∈ lw_tbl) w hw, (by decide +kernel : ∀ w ∈ u_ws RX8 TX8 5, goodWord w = true) w hw⟩
theorem iX9 : ∀ w ∈ u_ws RX9 TX9 2, w ∈ zW := fun w hw => List.mem_filter.mpr ⟨(by decide +kernel : ∀ w ∈ u_ws RX9 TX9 2, w ∈ lw_tbl) w hw, (by decide +kernel : ∀ w ∈ u_ws RX9 TX9 2, goodWord w = true) w hw⟩
theorem iX10 : ∀ w ∈ u_ws RX10 TX10 9, w ∈ zW := fun w hw => List.mem_filter.mpr ⟨(by decide +kernel : ∀ w ∈ u_ws RX10 TX10 9, w ∈ lw_tbl) w hw, (by decide +kernel : ∀ w ∈ u_ws RX10 TX10 9, goodWord w = true) w hw⟩
theorem iX11 : ∀ w ∈ u_ws RX11 TX11 11, w ∈ zW := fun w hw => List.mem_filter.mpr ⟨(by decide +kernel : ∀ w ∈ u_ws RX11 TX11 11, w ∈ lw_tbl) w hw, (by decide +kernel : ∀ w ∈ u_ws RX11 TX11 11, goodWord w = true) w hw⟩
theorem iX12 : ∀ w ∈ u_ws RX12 TX12 60, w ∈ zW := fun w hw => List.mem_filter.mpr ⟨(by decide +kernel : ∀ w ∈ u_ws RX12 TX12 60, w ∈ lw_tbl) w hw, (by decide +kernel : ∀ w ∈ u_ws RX12 TX12 60, goodWord w = true) w hw⟩
end
section
theorem kw_235 : Cond.fieldLink RX9 9 "AlreadyJudged$Tape" "bytes" "[I" ∈ zW := zwI (i := 235) (by decide +kernel) (by decide +kernel)
theorem kw_237 : Cond.fieldLink RX9 15 "AlreadyJudged$Tape" "size" "I" ∈ zW := zwI (i := 237) (by decide +kernel) (by decide +kernel)
theorem dX9_byteAt_0 : decode cX9_byteAt 0 = .ok (.iload_n 1, 1) := by decide +kernel
theorem dX9_byteAt_1 : decode cX9_byteAt 1 = .ok (.ifCond .lt 26, 3) := by decide +kernel
theorem dX9_byteAt_4 : decode cX9_byteAt 4 = .ok (.iload_n 1, 1) := by decide +kernel
theorem dX9_byteAt_5 : decode cX9_byteAt 5 = .ok (.aload_n 0, 1) := by decide +kernel
theorem dX9_byteAt_6 : decode cX9_byteAt 6 = .ok (.getfield 15, 3) := by decide +kernel
theorem dX9_byteAt_9 : decode cX9_byteAt 9 = .ok (.if_icmp .ge 18, 3) := by decide +kernel
theorem dX9_byteAt_12 : decode cX9_byteAt 12 = .ok (.iload_n 1, 1) := by decide +kernel
theorem dX9_byteAt_13 : decode cX9_byteAt 13 = .ok (.bipush 120, 2) := by decide +kernel
theorem dX9_byteAt_15 : decode cX9_byteAt 15 = .ok (.if_icmp .ge 12, 3) := by decide +kernel
theorem dX9_byteAt_18 : decode cX9_byteAt 18 = .ok (.aload_n 0, 1) := by decide +kernel
theorem dX9_byteAt_19 : decode cX9_byteAt 19 = .ok (.getfield 9, 3) := by decide +kernel
theorem dX9_byteAt_22 : decode cX9_byteAt 22 = .ok (.iload_n 1, 1) := by decide +kernel
theorem dX9_byteAt_23 : decode cX9_byteAt 23 = .ok (.iaload, 1) := by decide +kernel
theorem dX9_byteAt_24 : decode cX9_byteAt 24 = .ok (.goto 4, 3) := by decide +kernel
theorem dX9_byteAt_27 : decode cX9_byteAt 27 = .ok (.iconst (-1), 1) := by decide +kernel
theorem dX9_byteAt_28 : decode cX9_byteAt 28 = .ok (.ireturn, 1) := by decide +kernel
abbrev z_X9_byteAt : List Cond := .code yX9_byteAt cX9_byteAt 2 (some .int) :: zW
abbrev wl_X9_byteAt (ad : Nat → Nat) (cs : Nat → ClassId)  (tape_size : Int32) (tape_bytes : Nat → Int32) : va_W := [((ad 23), .inr (9, [.ref (ad 24), .int tape_size])), ((ad 24), .inl (cs 0, 120, .inl tape_bytes))]
def Q_X9_byteAt (D : va_G) (cs : Nat → ClassId) (ad : Nat → Nat)  (tape_size : Int32) (tape_bytes : Nat → Int32) (A : Nat → Prop) (R : Int32 × Unit) : Array Value → State → Outcome → State → Prop :=
  va_Qi (fun (r : Int32) (u : Unit) => (r, u) = R) (fun (u : Unit) (t : State) => va_P D classes (wl_X9_byteAt ad cs tape_size tape_bytes) t.heap ∧ va_D A (wl_X9_byteAt ad cs tape_size tape_bytes)) A
abbrev rm_X9_byteAt : Room := { frames := 0, cells := 0, slots := 0, locals := 0 }
def B_X9_byteAt_0   (tape_size : Int32) (tape_bytes : Nat → Int32) (x1 : Int32) : Option (Int32 × Unit) :=
  (if x1 < 0 then (some ((-1 : Int32), ())) else (if tape_size ≤ x1 then (some ((-1 : Int32), ())) else (if (120 : Int32) ≤ x1 then (some ((-1 : Int32), ())) else (if (x1 < 0 ∨ 120 ≤ x1.toNatClampNeg) then none else (some (tape_bytes x1.toNatClampNeg, ()))))))
def f_X9_byteAt  (x1 : Int32) (tape_size : Int32) (tape_bytes : Nat → Int32) : Option (Int32 × Unit) := B_X9_byteAt_0  tape_size tape_bytes x1 
set_option maxHeartbeats 4000000 in
set_option maxRecDepth 100000 in
theorem L_X9_byteAt_0 {p : Program} {l : Launch} {e : Env} {s : State} {m : MethodId} {args : Array Value} {below : List Frame} {meth : Method} {c : Code} {A : Nat → Prop} {D : va_G} {cs : Nat → ClassId} {ad : Nat → Nat} {tape_size : Int32} {tape_bytes : Nat → Int32} {R : Int32 × Unit} (C0 : zC p s m args meth c cX9_byteAt 2 (some .int) RX9 zW) (hK : va_K D classes (zT cs) s) (hA : ∀ q : Nat, s.heap.size ≤ q → A q) (x1 : Int32) (h : B_X9_byteAt_0 tape_size tape_bytes x1 = some R) (H : Heap) (locs : List Loc) (ls : Array Slot) (hP : va_P D classes (wl_X9_byteAt ad cs tape_size tape_bytes) H) (hD : va_D A (wl_X9_byteAt ad cs tape_size tape_bytes)) (hS : va_S A s.heap H locs) (hl : lv_has ls 2 [(0, .ref (ad 23)), (1, .int x1)]) : W p l e rm_X9_byteAt s m args below meth c H locs 0 0 (MQ below (Q_X9_byteAt D cs ad tape_size tape_bytes A R) args s 0 0 A) (F0 m 0 ls []) := by
  obtain ⟨hx, hb, hr, hml, hown, ht, hlocks⟩ := id C0
  refine lv_iload_n hx hb dX9_byteAt_0 rfl (lv_at hl 1 rfl) ?_
  refine lv_if_lt (tgt := 27) hx hb dX9_byteAt_1 (by decide) (fun c_1 => ?_) (fun c_1 => ?_)
  · have h := zk_t c_1 h
    refine lv_iconst (v := (-1 : Int32)) hx hb dX9_byteAt_27 (by decide) ?_
    exact W.iret (v := (-1 : Int32)) hx hb hr (fun t ht2 hW => ⟨⟨(-1 : Int32), (), rfl, Option.some.inj h, by rw [ht2]; exact hP, hD⟩, hS.F ht2⟩) hS.2.2 dX9_byteAt_28 hlocks
  · have h := zk_f c_1 h
    refine lv_iload_n hx hb dX9_byteAt_4 rfl (lv_at hl 1 rfl) ?_
    refine lv_aload_n hx hb dX9_byteAt_5 rfl (lv_at hl 0 rfl) ?_
    refine va_get (D := D) (ci := 9) (v := .int tape_size) (C := RX9) (T := TX9) (N := 2) hx hb ht iX9 hown hK hP 0 rfl rfl 1 (by decide) (ht _ kw_237) (fun _ h9 => h9) rfl dX9_byteAt_6 ?_
    refine lv_icmp_ge (tgt := 27) hx hb dX9_byteAt_9 (by decide) (fun c_2 => ?_) (fun c_2 => ?_)
    · have h := zk_t c_2 h
      refine lv_iconst (v := (-1 : Int32)) hx hb dX9_byteAt_27 (by decide) ?_
      exact W.iret (v := (-1 : Int32)) hx hb hr (fun t ht2 hW => ⟨⟨(-1 : Int32), (), rfl, Option.some.inj h, by rw [ht2]; exact hP, hD⟩, hS.F ht2⟩) hS.2.2 dX9_byteAt_28 hlocks
    · have h := zk_f c_2 h
      refine lv_iload_n hx hb dX9_byteAt_12 rfl (lv_at hl 1 rfl) ?_
      refine lv_bipush (v := (120 : Int32)) hx hb dX9_byteAt_13 (by decide) ?_
      refine lv_icmp_ge (tgt := 27) hx hb dX9_byteAt_15 (by decide) (fun c_3 => ?_) (fun c_3 => ?_)
      · have h := zk_t c_3 h
        refine lv_iconst (v := (-1 : Int32)) hx hb dX9_byteAt_27 (by decide) ?_
        exact W.iret (v := (-1 : Int32)) hx hb hr (fun t ht2 hW => ⟨⟨(-1 : Int32), (), rfl, Option.some.inj h, by rw [ht2]; exact hP, hD⟩, hS.F ht2⟩) hS.2.2 dX9_byteAt_28 hlocks
      · have h := zk_f c_3 h
        refine lv_aload_n hx hb dX9_byteAt_18 rfl (lv_at hl 0 rfl) ?_
        refine va_get (D := D) (ci := 9) (v := .ref (ad 24)) (C := RX9) (T := TX9) (N := 2) hx hb ht iX9 hown hK hP 0 rfl rfl 0 (by decide) (ht _ kw_235) (fun _ h9 => h9) rfl dX9_byteAt_19 ?_
        refine lv_iload_n hx hb dX9_byteAt_22 rfl (lv_at hl 1 rfl) ?_
        obtain ⟨g_4, h⟩ := zk_gd h
        refine va_iald hx hb hK hP 1 0 rfl rfl g_4 dX9_byteAt_23 ?_
        refine lv_goto (tgt := 28) hx hb dX9_byteAt_24 (by decide) ?_
        exact W.iret (v := tape_bytes x1.toNatClampNeg) hx hb hr (fun t ht2 hW => ⟨⟨tape_bytes x1.toNatClampNeg, (), rfl, Option.some.inj h, by rw [ht2]; exact hP, hD⟩, hS.F ht2⟩) hS.2.2 dX9_byteAt_28 hlocks
set_option maxHeartbeats 4000000 in
set_option maxRecDepth 100000 in
theorem c_X9_byteAt (l : Launch) (D : va_G) (cs : Nat → ClassId) (ad : Nat → Nat) (sz : Nat) (x1 : Int32) (tape_size : Int32) (tape_bytes : Nat → Int32) (R : Int32 × Unit) (h : f_X9_byteAt  x1 tape_size tape_bytes = some R) : Met l yX9_byteAt (z_X9_byteAt) rm_X9_byteAt (va_Pc [.ref (ad 23), .int x1] (zPre D cs (wl_X9_byteAt ad cs tape_size tape_bytes) sz)) (Q_X9_byteAt D cs ad tape_size tape_bytes (va_A (wl_X9_byteAt ad cs tape_size tape_bytes) sz) R) 0 0 (va_A (wl_X9_byteAt ad cs tape_size tape_bytes) sz) := by
  refine Met.ofW (cc := cX9_byteAt) (maxL := 2) (ret := (some .int)) (by decide) rfl ?_
  intro p e s m args below meth c s₁ B hml hv
  obtain ⟨rfl, hsz, hP, hK, hD0⟩ := hv
  subst hsz
  have hD := hD0.self (sz := s.heap.size)
  have C0 : zC p s m _ meth c cX9_byteAt 2 (some .int) RX9 zW := ⟨B.exec, B.bytes, B.returns, hml, findClass_of_methodNamed B.named, fun w hw => atoms_spec (ws := z_X9_byteAt) B.pre w (List.mem_cons_of_mem _ hw), B.notSynchronized⟩
  have hA : ∀ q : Nat, s.heap.size ≤ q → va_A (wl_X9_byteAt ad cs tape_size tape_bytes) s.heap.size q := fun q h => Or.inr h
  have hl := lv_entry ([.ref (ad 23), .int x1]) (n := 2) (Nat.le_of_ble_eq_true rfl)
  rw [lg_entry_eq]
  generalize (lg_sl ([.ref (ad 23), .int x1]) ++ List.replicate (2 - (lg_sl ([.ref (ad 23), .int x1])).length) Slot.unset).toArray = ls at hl ⊢
  exact L_X9_byteAt_0 C0 hK hA   x1  h s.heap [] ls hP hD va_S.rf hl
theorem kw_78 : Cond.initialized RX9 ∈ zW := zwI (i := 78) (by decide +kernel) (by decide +kernel)
theorem kw_554 : Cond.instanceMethod yX9_byteAt ∈ zW := zwI (i := 554) (by decide +kernel) (by decide +kernel)
theorem kw_555 : Cond.selects RX9 yX9_byteAt yX9_byteAt ∈ zW := zwI (i := 555) (by decide +kernel) (by decide +kernel)
theorem kw_556 : Cond.code yX9_byteAt cX9_byteAt 2 (some .int) ∈ zW := zwI (i := 556) (by decide +kernel) (by decide +kernel)
theorem kw_561 : Cond.methodLink RX9 33 yX9_byteAt ∈ zW := zwI (i := 561) (by decide +kernel) (by decide +kernel)
theorem dX9_isDigitAt_0 : decode cX9_isDigitAt 0 = .ok (.aload_n 0, 1) := by decide +kernel
theorem dX9_isDigitAt_1 : decode cX9_isDigitAt 1 = .ok (.iload_n 1, 1) := by decide +kernel
theorem dX9_isDigitAt_2 : decode cX9_isDigitAt 2 = .ok (.invokevirtual 33, 3) := by decide +kernel
theorem dX9_isDigitAt_5 : decode cX9_isDigitAt 5 = .ok (.istore_n 2, 1) := by decide +kernel
theorem dX9_isDigitAt_6 : decode cX9_isDigitAt 6 = .ok (.iload_n 2, 1) := by decide +kernel
theorem dX9_isDigitAt_7 : decode cX9_isDigitAt 7 = .ok (.bipush 48, 2) := by decide +kernel
theorem dX9_isDigitAt_9 : decode cX9_isDigitAt 9 = .ok (.if_icmp .lt 13, 3) := by decide +kernel
theorem dX9_isDigitAt_12 : decode cX9_isDigitAt 12 = .ok (.iload_n 2, 1) := by decide +kernel
theorem dX9_isDigitAt_13 : decode cX9_isDigitAt 13 = .ok (.bipush 57, 2) := by decide +kernel
theorem dX9_isDigitAt_15 : decode cX9_isDigitAt 15 = .ok (.if_icmp .gt 7, 3) := by decide +kernel
theorem dX9_isDigitAt_18 : decode cX9_isDigitAt 18 = .ok (.iconst 1, 1) := by decide +kernel
theorem dX9_isDigitAt_19 : decode cX9_isDigitAt 19 = .ok (.goto 4, 3) := by decide +kernel
theorem dX9_isDigitAt_22 : decode cX9_isDigitAt 22 = .ok (.iconst 0, 1) := by decide +kernel
theorem dX9_isDigitAt_23 : decode cX9_isDigitAt 23 = .ok (.ireturn, 1) := by decide +kernel
abbrev z_X9_isDigitAt : List Cond := .code yX9_isDigitAt cX9_isDigitAt 3 (some .boolean) :: zW
abbrev wl_X9_isDigitAt (ad : Nat → Nat) (cs : Nat → ClassId)  (tape_size : Int32) (tape_bytes : Nat → Int32) : va_W := [((ad 23), .inr (9, [.ref (ad 24), .int tape_size])), ((ad 24), .inl (cs 0, 120, .inl tape_bytes))]
def Q_X9_isDigitAt (D : va_G) (cs : Nat → ClassId) (ad : Nat → Nat)  (tape_size : Int32) (tape_bytes : Nat → Int32) (A : Nat → Prop) (R : Int32 × Unit) : Array Value → State → Outcome → State → Prop :=
  va_Qi (fun (r : Int32) (u : Unit) => (r, u) = R) (fun (u : Unit) (t : State) => va_P D classes (wl_X9_isDigitAt ad cs tape_size tape_bytes) t.heap ∧ va_D A (wl_X9_isDigitAt ad cs tape_size tape_bytes)) A
abbrev rm_X9_isDigitAt : Room := { frames := 1, cells := 0, slots := 0, locals := 21 }
theorem g_X9_33 : GoodIn zW (wsV RX9 33 RX9 yX9_byteAt z_X9_byteAt) := zGV kw_561 kw_554 kw_555 kw_78 kw_556
def B_X9_isDigitAt_0   (tape_size : Int32) (tape_bytes : Nat → Int32) (x1 : Int32) : Option (Int32 × Unit) :=
  (zk_b2 (f_X9_byteAt x1 tape_size tape_bytes) (fun r_1 u_2 => (if r_1 < (48 : Int32) then (some ((0 : Int32), ())) else (if (57 : Int32) < r_1 then (some ((0 : Int32), ())) else (some ((1 : Int32), ()))))))
def f_X9_isDigitAt  (x1 : Int32) (tape_size : Int32) (tape_bytes : Nat → Int32) : Option (Int32 × Unit) := B_X9_isDigitAt_0  tape_size tape_bytes x1 
set_option maxHeartbeats 4000000 in
set_option maxRecDepth 100000 in
theorem L_X9_isDigitAt_0 {p : Program} {l : Launch} {e : Env} {s : State} {m : MethodId} {args : Array Value} {below : List Frame} {meth : Method} {c : Code} {A : Nat → Prop} {D : va_G} {cs : Nat → ClassId} {ad : Nat → Nat} {tape_size : Int32} {tape_bytes : Nat → Int32} {R : Int32 × Unit} (C0 : zC p s m args meth c cX9_isDigitAt 3 (some .boolean) RX9 zW) (hK : va_K D classes (zT cs) s) (hA : ∀ q : Nat, s.heap.size ≤ q → A q) (x1 : Int32) (h : B_X9_isDigitAt_0 tape_size tape_bytes x1 = some R) (H : Heap) (locs : List Loc) (ls : Array Slot) (hP : va_P D classes (wl_X9_isDigitAt ad cs tape_size tape_bytes) H) (hD : va_D A (wl_X9_isDigitAt ad cs tape_size tape_bytes)) (hS : va_S A s.heap H locs) (hl : lv_has ls 3 [(0, .ref (ad 23)), (1, .int x1)]) : W p l e rm_X9_isDigitAt s m args below meth c H locs 0 0 (MQ below (Q_X9_isDigitAt D cs ad tape_size tape_bytes A R) args s 0 0 A) (F0 m 0 ls []) := by
  obtain ⟨hx, hb, hr, hml, hown, ht, hlocks⟩ := id C0
  refine lv_aload_n hx hb dX9_isDigitAt_0 rfl (lv_at hl 0 rfl) ?_
  refine lv_iload_n hx hb dX9_isDigitAt_1 rfl (lv_at hl 1 rfl) ?_
  obtain ⟨r_1, u_2, hc_3, h⟩ := zk_o2 h
  refine zk_vi (post := (fun r u => (r, u) = (r_1, u_2))) (w1 := fun u => (wl_X9_byteAt ad cs tape_size tape_bytes)) (As := [.int x1]) (rest := []) (c_X9_byteAt l D cs ad  H.size x1 tape_size tape_bytes _ hc_3) ⟨hx, hb, hml, hown, ht⟩ (cwV 1 ht g_X9_33 rfl rfl rfl (by decide +kernel) ⟨Nat.le_of_ble_eq_true rfl, Nat.le_of_ble_eq_true rfl⟩) (va_recv hK hP (ci := 9) (q0 := 0) rfl rfl) hP hD hS hK hA [0, 1] [] rfl rfl rfl rfl (by decide) rfl hl.1 (Nat.le_of_ble_eq_true rfl) dX9_isDigitAt_2 ⟨Nat.zero_le _, Nat.zero_le _⟩ (fun r u H locs hq hP hD hS => ?_)
  cases hq
  have hP : va_P D classes (wl_X9_isDigitAt ad cs tape_size tape_bytes) H := hP.sub [0, 1] rfl
  have hD : va_D A (wl_X9_isDigitAt ad cs tape_size tape_bytes) := hD.sub [0, 1] rfl rfl
  refine lv_istore_n (lv' := [(2, .int r_1), (0, .ref (ad 23)), (1, .int x1)]) hx hb dX9_isDigitAt_5 rfl hl (by decide) rfl (fun ls hl => ?_)
  refine lv_iload_n hx hb dX9_isDigitAt_6 rfl (lv_at hl 0 rfl) ?_
  refine lv_bipush (v := (48 : Int32)) hx hb dX9_isDigitAt_7 (by decide) ?_
  refine lv_icmp_lt (tgt := 22) hx hb dX9_isDigitAt_9 (by decide) (fun c_4 => ?_) (fun c_4 => ?_)
  · have h := zk_t c_4 h
    refine lv_iconst (v := (0 : Int32)) hx hb dX9_isDigitAt_22 (by decide) ?_
    exact W.zret (ty := .boolean) (v := (0 : Int32)) hx hb hr rfl (fun t ht2 hW => ⟨⟨(0 : Int32), (), rfl, Option.some.inj h, by rw [ht2]; exact hP, hD⟩, hS.F ht2⟩) hS.2.2 dX9_isDigitAt_23 hlocks
  · have h := zk_f c_4 h
    refine lv_iload_n hx hb dX9_isDigitAt_12 rfl (lv_at hl 0 rfl) ?_
    refine lv_bipush (v := (57 : Int32)) hx hb dX9_isDigitAt_13 (by decide) ?_
    refine lv_icmp_gt (tgt := 22) hx hb dX9_isDigitAt_15 (by decide) (fun c_5 => ?_) (fun c_5 => ?_)
    · have h := zk_t c_5 h
      refine lv_iconst (v := (0 : Int32)) hx hb dX9_isDigitAt_22 (by decide) ?_
      exact W.zret (ty := .boolean) (v := (0 : Int32)) hx hb hr rfl (fun t ht2 hW => ⟨⟨(0 : Int32), (), rfl, Option.some.inj h, by rw [ht2]; exact hP, hD⟩, hS.F ht2⟩) hS.2.2 dX9_isDigitAt_23 hlocks
    · have h := zk_f c_5 h
      refine lv_iconst (v := (1 : Int32)) hx hb dX9_isDigitAt_18 (by decide) ?_
      refine lv_goto (tgt := 23) hx hb dX9_isDigitAt_19 (by decide) ?_
      exact W.zret (ty := .boolean) (v := (1 : Int32)) hx hb hr rfl (fun t ht2 hW => ⟨⟨(1 : Int32), (), rfl, Option.some.inj h, by rw [ht2]; exact hP, hD⟩, hS.F ht2⟩) hS.2.2 dX9_isDigitAt_23 hlocks
set_option maxHeartbeats 4000000 in
set_option maxRecDepth 100000 in
theorem c_X9_isDigitAt (l : Launch) (D : va_G) (cs : Nat → ClassId) (ad : Nat → Nat) (sz : Nat) (x1 : Int32) (tape_size : Int32) (tape_bytes : Nat → Int32) (R : Int32 × Unit) (h : f_X9_isDigitAt  x1 tape_size tape_bytes = some R) : Met l yX9_isDigitAt (z_X9_isDigitAt) rm_X9_isDigitAt (va_Pc [.ref (ad 23), .int x1] (zPre D cs (wl_X9_isDigitAt ad cs tape_size tape_bytes) sz)) (Q_X9_isDigitAt D cs ad tape_size tape_bytes (va_A (wl_X9_isDigitAt ad cs tape_size tape_bytes) sz) R) 0 0 (va_A (wl_X9_isDigitAt ad cs tape_size tape_bytes) sz) := by
  refine Met.ofW (cc := cX9_isDigitAt) (maxL := 3) (ret := (some .boolean)) (by decide) rfl ?_
  intro p e s m args below meth c s₁ B hml hv
  obtain ⟨rfl, hsz, hP, hK, hD0⟩ := hv
  subst hsz
  have hD := hD0.self (sz := s.heap.size)
  have C0 : zC p s m _ meth c cX9_isDigitAt 3 (some .boolean) RX9 zW := ⟨B.exec, B.bytes, B.returns, hml, findClass_of_methodNamed B.named, fun w hw => atoms_spec (ws := z_X9_isDigitAt) B.pre w (List.mem_cons_of_mem _ hw), B.notSynchronized⟩
  have hA : ∀ q : Nat, s.heap.size ≤ q → va_A (wl_X9_isDigitAt ad cs tape_size tape_bytes) s.heap.size q := fun q h => Or.inr h
  have hl := lv_entry ([.ref (ad 23), .int x1]) (n := 3) (Nat.le_of_ble_eq_true rfl)
  rw [lg_entry_eq]
  generalize (lg_sl ([.ref (ad 23), .int x1]) ++ List.replicate (3 - (lg_sl ([.ref (ad 23), .int x1])).length) Slot.unset).toArray = ls at hl ⊢
  exact L_X9_isDigitAt_0 C0 hK hA   x1  h s.heap [] ls hP hD va_S.rf hl
theorem dX9_add_0 : decode cX9_add 0 = .ok (.aload_n 0, 1) := by decide +kernel
theorem dX9_add_1 : decode cX9_add 1 = .ok (.getfield 15, 3) := by decide +kernel
theorem dX9_add_4 : decode cX9_add 4 = .ok (.bipush 120, 2) := by decide +kernel
theorem dX9_add_6 : decode cX9_add 6 = .ok (.if_icmp .ge 23, 3) := by decide +kernel
theorem dX9_add_9 : decode cX9_add 9 = .ok (.aload_n 0, 1) := by decide +kernel
theorem dX9_add_10 : decode cX9_add 10 = .ok (.getfield 9, 3) := by decide +kernel
theorem dX9_add_13 : decode cX9_add 13 = .ok (.aload_n 0, 1) := by decide +kernel
theorem dX9_add_14 : decode cX9_add 14 = .ok (.getfield 15, 3) := by decide +kernel
theorem dX9_add_17 : decode cX9_add 17 = .ok (.iload_n 1, 1) := by decide +kernel
theorem dX9_add_18 : decode cX9_add 18 = .ok (.iastore, 1) := by decide +kernel
theorem dX9_add_19 : decode cX9_add 19 = .ok (.aload_n 0, 1) := by decide +kernel
theorem dX9_add_20 : decode cX9_add 20 = .ok (.dup, 1) := by decide +kernel
theorem dX9_add_21 : decode cX9_add 21 = .ok (.getfield 15, 3) := by decide +kernel
theorem dX9_add_24 : decode cX9_add 24 = .ok (.iconst 1, 1) := by decide +kernel
theorem dX9_add_25 : decode cX9_add 25 = .ok (.iadd, 1) := by decide +kernel
theorem dX9_add_26 : decode cX9_add 26 = .ok (.putfield 15, 3) := by decide +kernel
theorem dX9_add_29 : decode cX9_add 29 = .ok (.return_, 1) := by decide +kernel
abbrev z_X9_add : List Cond := .code yX9_add cX9_add 2 none :: zW
abbrev wl_X9_add (ad : Nat → Nat) (cs : Nat → ClassId)  (tape_size : Int32) (tape_bytes : Nat → Int32) : va_W := [((ad 23), .inr (9, [.ref (ad 24), .int tape_size])), ((ad 24), .inl (cs 0, 120, .inl tape_bytes))]
def Q_X9_add (D : va_G) (cs : Nat → ClassId) (ad : Nat → Nat)   (A : Nat → Prop) (R : Int32 × (Nat → Int32)) : Array Value → State → Outcome → State → Prop :=
  va_Qv (fun u : Int32 × (Nat → Int32) => u = R) (fun (u : Int32 × (Nat → Int32)) (t : State) => va_P D classes (wl_X9_add ad cs u.1 u.2) t.heap ∧ va_D A (wl_X9_add ad cs u.1 u.2)) A
abbrev rm_X9_add : Room := { frames := 0, cells := 0, slots := 0, locals := 0 }
def B_X9_add_0    (x1 : Int32) (tape_size : Int32) (tape_bytes : Nat → Int32) : Option (Int32 × (Nat → Int32)) :=
  (if (120 : Int32) ≤ tape_size then (some (tape_size, tape_bytes)) else (if (tape_size < 0 ∨ 120 ≤ tape_size.toNatClampNeg) then none else (zk_let (upd tape_bytes tape_size.toNatClampNeg x1) (fun f_3 => (zk_let (tape_size + (1 : Int32)) (fun v_4 => (some (v_4, f_3))))))))
def f_X9_add  (x1 : Int32) (tape_size : Int32) (tape_bytes : Nat → Int32) : Option (Int32 × (Nat → Int32)) := B_X9_add_0   x1 tape_size tape_bytes
set_option maxHeartbeats 4000000 in
set_option maxRecDepth 100000 in
theorem L_X9_add_0 {p : Program} {l : Launch} {e : Env} {s : State} {m : MethodId} {args : Array Value} {below : List Frame} {meth : Method} {c : Code} {A : Nat → Prop} {D : va_G} {cs : Nat → ClassId} {ad : Nat → Nat} {R : Int32 × (Nat → Int32)} (C0 : zC p s m args meth c cX9_add 2 none RX9 zW) (hK : va_K D classes (zT cs) s) (hA : ∀ q : Nat, s.heap.size ≤ q → A q) (x1 : Int32) (tape_size : Int32) (tape_bytes : Nat → Int32) (h : B_X9_add_0 x1 tape_size tape_bytes = some R) (H : Heap) (locs : List Loc) (ls : Array Slot) (hP : va_P D classes (wl_X9_add ad cs tape_size tape_bytes) H) (hD : va_D A (wl_X9_add ad cs tape_size tape_bytes)) (hS : va_S A s.heap H locs) (hl : lv_has ls 2 [(0, .ref (ad 23)), (1, .int x1)]) : W p l e rm_X9_add s m args below meth c H locs 0 0 (MQ below (Q_X9_add D cs ad  A R) args s 0 0 A) (F0 m 0 ls []) := by
  obtain ⟨hx, hb, hr, hml, hown, ht, hlocks⟩ := id C0
  refine lv_aload_n hx hb dX9_add_0 rfl (lv_at hl 0 rfl) ?_
  refine va_get (D := D) (ci := 9) (v := .int tape_size) (C := RX9) (T := TX9) (N := 2) hx hb ht iX9 hown hK hP 0 rfl rfl 1 (by decide) (ht _ kw_237) (fun _ h9 => h9) rfl dX9_add_1 ?_
  refine lv_bipush (v := (120 : Int32)) hx hb dX9_add_4 (by decide) ?_
  refine lv_icmp_ge (tgt := 29) hx hb dX9_add_6 (by decide) (fun c_1 => ?_) (fun c_1 => ?_)
  · have h := zk_t c_1 h
    exact W.vret hx hb hr (fun t ht2 hW => ⟨⟨(tape_size, tape_bytes), rfl, Option.some.inj h, by rw [ht2]; exact hP, hD⟩, hS.F ht2⟩) hS.2.2 dX9_add_29 hlocks
  · have h := zk_f c_1 h
    refine lv_aload_n hx hb dX9_add_9 rfl (lv_at hl 0 rfl) ?_
    refine va_get (D := D) (ci := 9) (v := .ref (ad 24)) (C := RX9) (T := TX9) (N := 2) hx hb ht iX9 hown hK hP 0 rfl rfl 0 (by decide) (ht _ kw_235) (fun _ h9 => h9) rfl dX9_add_10 ?_
    refine lv_aload_n hx hb dX9_add_13 rfl (lv_at hl 0 rfl) ?_
    refine va_get (D := D) (ci := 9) (v := .int tape_size) (C := RX9) (T := TX9) (N := 2) hx hb ht iX9 hown hK hP 0 rfl rfl 1 (by decide) (ht _ kw_237) (fun _ h9 => h9) rfl dX9_add_14 ?_
    refine lv_iload_n hx hb dX9_add_17 rfl (lv_at hl 1 rfl) ?_
    obtain ⟨g_2, h⟩ := zk_gd h
    obtain ⟨f_3, ef_3, h⟩ := zk_lt h
    refine va_iast hx hb hK hP hD hS 1 0 rfl rfl g_2 dX9_add_18 (fun H locs hP hD hS => ?_)
    have hP : va_P D classes (wl_X9_add ad cs tape_size f_3) H := by rw [ef_3]; exact hP
    have hD : va_D A (wl_X9_add ad cs tape_size f_3) := by rw [ef_3]; exact hD
    refine lv_aload_n hx hb dX9_add_19 rfl (lv_at hl 0 rfl) ?_
    refine lv_dup hx hb dX9_add_20 rfl ?_
    refine va_get (D := D) (ci := 9) (v := .int tape_size) (C := RX9) (T := TX9) (N := 2) hx hb ht iX9 hown hK hP 0 rfl rfl 1 (by decide) (ht _ kw_237) (fun _ h9 => h9) rfl dX9_add_21 ?_
    refine lv_iconst (v := (1 : Int32)) hx hb dX9_add_24 (by decide) ?_
    refine lv_iadd hx hb dX9_add_25 ?_
    obtain ⟨v_4, ev_4, h⟩ := zk_lt h
    refine W.eq (g2 := F0 m 26 ls [.int v_4, .ref (ad 23)]) (by rw [ev_4]) ?_
    refine va_put (D := D) (ci := 9) (v := .int v_4) (ty := .int) (C := RX9) (T := TX9) (N := 2) hx hb ht iX9 tyX9 tyX9_ok nmX9 hown hK hP hD hS 0 rfl rfl 1 (by decide) (ht _ kw_237) (fun _ h9 => h9) rfl (by decide +kernel) rfl rfl (Nat.le_of_ble_eq_true rfl) dX9_add_26 (fun H locs hP hD hS => ?_)
    have hP : va_P D classes (wl_X9_add ad cs v_4 f_3) H := hP
    have hD : va_D A (wl_X9_add ad cs v_4 f_3) := hD
    exact W.vret hx hb hr (fun t ht2 hW => ⟨⟨(v_4, f_3), rfl, Option.some.inj h, by rw [ht2]; exact hP, hD⟩, hS.F ht2⟩) hS.2.2 dX9_add_29 hlocks
set_option maxHeartbeats 4000000 in
set_option maxRecDepth 100000 in
theorem c_X9_add (l : Launch) (D : va_G) (cs : Nat → ClassId) (ad : Nat → Nat) (sz : Nat) (x1 : Int32) (tape_size : Int32) (tape_bytes : Nat → Int32) (R : Int32 × (Nat → Int32)) (h : f_X9_add  x1 tape_size tape_bytes = some R) : Met l yX9_add (z_X9_add) rm_X9_add (va_Pc [.ref (ad 23), .int x1] (zPre D cs (wl_X9_add ad cs tape_size tape_bytes) sz)) (Q_X9_add D cs ad  (va_A (wl_X9_add ad cs tape_size tape_bytes) sz) R) 0 0 (va_A (wl_X9_add ad cs tape_size tape_bytes) sz) := by
  refine Met.ofW (cc := cX9_add) (maxL := 2) (ret := none) (by decide) rfl ?_
  intro p e s m args below meth c s₁ B hml hv
  obtain ⟨rfl, hsz, hP, hK, hD0⟩ := hv
  subst hsz
  have hD := hD0.self (sz := s.heap.size)
  have C0 : zC p s m _ meth c cX9_add 2 none RX9 zW := ⟨B.exec, B.bytes, B.returns, hml, findClass_of_methodNamed B.named, fun w hw => atoms_spec (ws := z_X9_add) B.pre w (List.mem_cons_of_mem _ hw), B.notSynchronized⟩
  have hA : ∀ q : Nat, s.heap.size ≤ q → va_A (wl_X9_add ad cs tape_size tape_bytes) s.heap.size q := fun q h => Or.inr h
  have hl := lv_entry ([.ref (ad 23), .int x1]) (n := 2) (Nat.le_of_ble_eq_true rfl)
  rw [lg_entry_eq]
  generalize (lg_sl ([.ref (ad 23), .int x1]) ++ List.replicate (2 - (lg_sl ([.ref (ad 23), .int x1])).length) Slot.unset).toArray = ls at hl ⊢
  exact L_X9_add_0 C0 hK hA   x1 tape_size tape_bytes h s.heap [] ls hP hD va_S.rf hl
theorem kw_274 : Cond.fieldLink RX5 15 "AlreadyJudged$LawReader" "tape" "LAlreadyJudged$Tape;" ∈ zW := zwI (i := 274) (by decide +kernel) (by decide +kernel)
theorem kw_277 : Cond.fieldLink RX5 19 "AlreadyJudged$LawReader" "at" "I" ∈ zW := zwI (i := 277) (by decide +kernel) (by decide +kernel)
theorem kw_278 : Cond.fieldLink RX5 26 "AlreadyJudged$LawReader" "fault" "I" ∈ zW := zwI (i := 278) (by decide +kernel) (by decide +kernel)
theorem kw_553 : Cond.methodLink RX5 68 yX9_byteAt ∈ zW := zwI (i := 553) (by decide +kernel) (by decide +kernel)
theorem dX5_accept_0 : decode cX5_accept 0 = .ok (.aload_n 0, 1) := by decide +kernel
theorem dX5_accept_1 : decode cX5_accept 1 = .ok (.getfield 26, 3) := by decide +kernel
theorem dX5_accept_4 : decode cX5_accept 4 = .ok (.ifCond .ge 18, 3) := by decide +kernel
theorem dX5_accept_7 : decode cX5_accept 7 = .ok (.aload_n 0, 1) := by decide +kernel
theorem dX5_accept_8 : decode cX5_accept 8 = .ok (.getfield 15, 3) := by decide +kernel
theorem dX5_accept_11 : decode cX5_accept 11 = .ok (.aload_n 0, 1) := by decide +kernel
theorem dX5_accept_12 : decode cX5_accept 12 = .ok (.getfield 19, 3) := by decide +kernel
theorem dX5_accept_15 : decode cX5_accept 15 = .ok (.invokevirtual 68, 3) := by decide +kernel
theorem dX5_accept_18 : decode cX5_accept 18 = .ok (.iload_n 1, 1) := by decide +kernel
theorem dX5_accept_19 : decode cX5_accept 19 = .ok (.if_icmp .eq 5, 3) := by decide +kernel
theorem dX5_accept_22 : decode cX5_accept 22 = .ok (.iconst 0, 1) := by decide +kernel
theorem dX5_accept_23 : decode cX5_accept 23 = .ok (.ireturn, 1) := by decide +kernel
theorem dX5_accept_24 : decode cX5_accept 24 = .ok (.aload_n 0, 1) := by decide +kernel
theorem dX5_accept_25 : decode cX5_accept 25 = .ok (.dup, 1) := by decide +kernel
theorem dX5_accept_26 : decode cX5_accept 26 = .ok (.getfield 19, 3) := by decide +kernel
theorem dX5_accept_29 : decode cX5_accept 29 = .ok (.iconst 1, 1) := by decide +kernel
theorem dX5_accept_30 : decode cX5_accept 30 = .ok (.iadd, 1) := by decide +kernel
theorem dX5_accept_31 : decode cX5_accept 31 = .ok (.putfield 19, 3) := by decide +kernel
theorem dX5_accept_34 : decode cX5_accept 34 = .ok (.iconst 1, 1) := by decide +kernel
theorem dX5_accept_35 : decode cX5_accept 35 = .ok (.ireturn, 1) := by decide +kernel
abbrev z_X5_accept : List Cond := .code yX5_accept cX5_accept 2 (some .boolean) :: zW
abbrev wl_X5_accept (ad : Nat → Nat) (cs : Nat → ClassId)  (tape_size : Int32) (tape_bytes : Nat → Int32) (lr_size : Int32) (lr_at : Int32) (lr_fault : Int32) : va_W := [((ad 23), .inr (9, [.ref (ad 24), .int tape_size])), ((ad 24), .inl (cs 0, 120, .inl tape_bytes)), ((ad 26), .inr (5, [.ref (ad 23), .ref (ad 27), .int lr_size, .int lr_at, .int lr_fault]))]
def Q_X5_accept (D : va_G) (cs : Nat → ClassId) (ad : Nat → Nat)  (tape_size : Int32) (tape_bytes : Nat → Int32) (lr_size : Int32) (lr_fault : Int32) (A : Nat → Prop) (R : Int32 × Int32) : Array Value → State → Outcome → State → Prop :=
  va_Qi (fun (r : Int32) (u : Int32) => (r, u) = R) (fun (u : Int32) (t : State) => va_P D classes (wl_X5_accept ad cs tape_size tape_bytes lr_size u lr_fault) t.heap ∧ va_D A (wl_X5_accept ad cs tape_size tape_bytes lr_size u lr_fault)) A
abbrev rm_X5_accept : Room := { frames := 1, cells := 0, slots := 0, locals := 21 }
theorem g_X5_68 : GoodIn zW (wsV RX5 68 RX9 yX9_byteAt z_X9_byteAt) := zGV kw_553 kw_554 kw_555 kw_78 kw_556
def B_X5_accept_0   (tape_size : Int32) (tape_bytes : Nat → Int32) (lr_size : Int32) (lr_fault : Int32) (x1 : Int32) (lr_at : Int32) : Option (Int32 × Int32) :=
  (if 0 ≤ lr_fault then (some ((0 : Int32), lr_at)) else (zk_b2 (f_X9_byteAt lr_at tape_size tape_bytes) (fun r_2 u_3 => (if r_2 = x1 then (zk_let (lr_at + (1 : Int32)) (fun v_6 => (some ((1 : Int32), v_6)))) else (some ((0 : Int32), lr_at))))))
def f_X5_accept  (x1 : Int32) (tape_size : Int32) (tape_bytes : Nat → Int32) (lr_size : Int32) (lr_at : Int32) (lr_fault : Int32) : Option (Int32 × Int32) := B_X5_accept_0  tape_size tape_bytes lr_size lr_fault x1 lr_at
set_option maxHeartbeats 4000000 in
set_option maxRecDepth 100000 in
theorem L_X5_accept_0 {p : Program} {l : Launch} {e : Env} {s : State} {m : MethodId} {args : Array Value} {below : List Frame} {meth : Method} {c : Code} {A : Nat → Prop} {D : va_G} {cs : Nat → ClassId} {ad : Nat → Nat} {tape_size : Int32} {tape_bytes : Nat → Int32} {lr_size : Int32} {lr_fault : Int32} {R : Int32 × Int32} (C0 : zC p s m args meth c cX5_accept 2 (some .boolean) RX5 zW) (hK : va_K D classes (zT cs) s) (hA : ∀ q : Nat, s.heap.size ≤ q → A q) (x1 : Int32) (lr_at : Int32) (h : B_X5_accept_0 tape_size tape_bytes lr_size lr_fault x1 lr_at = some R) (H : Heap) (locs : List Loc) (ls : Array Slot) (hP : va_P D classes (wl_X5_accept ad cs tape_size tape_bytes lr_size lr_at lr_fault) H) (hD : va_D A (wl_X5_accept ad cs tape_size tape_bytes lr_size lr_at lr_fault)) (hS : va_S A s.heap H locs) (hl : lv_has ls 2 [(0, .ref (ad 26)), (1, .int x1)]) : W p l e rm_X5_accept s m args below meth c H locs 0 0 (MQ below (Q_X5_accept D cs ad tape_size tape_bytes lr_size lr_fault A R) args s 0 0 A) (F0 m 0 ls []) := by
  obtain ⟨hx, hb, hr, hml, hown, ht, hlocks⟩ := id C0
  refine lv_aload_n hx hb dX5_accept_0 rfl (lv_at hl 0 rfl) ?_
  refine va_get (D := D) (ci := 5) (v := .int lr_fault) (C := RX5) (T := TX5) (N := 5) hx hb ht iX5 hown hK hP 2 rfl rfl 4 (by decide) (ht _ kw_278) (fun _ h9 => h9) rfl dX5_accept_1 ?_
  refine lv_if_ge (tgt := 22) hx hb dX5_accept_4 (by decide) (fun c_1 => ?_) (fun c_1 => ?_)
  · have h := zk_t c_1 h
    refine lv_iconst (v := (0 : Int32)) hx hb dX5_accept_22 (by decide) ?_
    exact W.zret (ty := .boolean) (v := (0 : Int32)) hx hb hr rfl (fun t ht2 hW => ⟨⟨(0 : Int32), lr_at, rfl, Option.some.inj h, by rw [ht2]; exact hP, hD⟩, hS.F ht2⟩) hS.2.2 dX5_accept_23 hlocks
  · have h := zk_f c_1 h
    refine lv_aload_n hx hb dX5_accept_7 rfl (lv_at hl 0 rfl) ?_
    refine va_get (D := D) (ci := 5) (v := .ref (ad 23)) (C := RX5) (T := TX5) (N := 5) hx hb ht iX5 hown hK hP 2 rfl rfl 0 (by decide) (ht _ kw_274) (fun _ h9 => h9) rfl dX5_accept_8 ?_
    refine lv_aload_n hx hb dX5_accept_11 rfl (lv_at hl 0 rfl) ?_
    refine va_get (D := D) (ci := 5) (v := .int lr_at) (C := RX5) (T := TX5) (N := 5) hx hb ht iX5 hown hK hP 2 rfl rfl 3 (by decide) (ht _ kw_277) (fun _ h9 => h9) rfl dX5_accept_12 ?_
    obtain ⟨r_2, u_3, hc_4, h⟩ := zk_o2 h
    refine zk_vi (post := (fun r u => (r, u) = (r_2, u_3))) (w1 := fun u => (wl_X9_byteAt ad cs tape_size tape_bytes)) (As := [.int lr_at]) (rest := []) (c_X9_byteAt l D cs ad  H.size lr_at tape_size tape_bytes _ hc_4) ⟨hx, hb, hml, hown, ht⟩ (cwV 1 ht g_X5_68 rfl rfl rfl (by decide +kernel) ⟨Nat.le_of_ble_eq_true rfl, Nat.le_of_ble_eq_true rfl⟩) (va_recv hK hP (ci := 9) (q0 := 0) rfl rfl) hP hD hS hK hA [0, 1] [2] rfl rfl rfl rfl (by decide) rfl hl.1 (Nat.le_of_ble_eq_true rfl) dX5_accept_15 ⟨Nat.zero_le _, Nat.zero_le _⟩ (fun r u H locs hq hP hD hS => ?_)
    cases hq
    have hP : va_P D classes (wl_X5_accept ad cs tape_size tape_bytes lr_size lr_at lr_fault) H := hP.sub [1, 2, 0] rfl
    have hD : va_D A (wl_X5_accept ad cs tape_size tape_bytes lr_size lr_at lr_fault) := hD.sub [1, 2, 0] rfl rfl
    refine lv_iload_n hx hb dX5_accept_18 rfl (lv_at hl 1 rfl) ?_
    refine lv_icmp_eq (tgt := 24) hx hb dX5_accept_19 (by decide) (fun c_5 => ?_) (fun c_5 => ?_)
    · have h := zk_t c_5 h
      refine lv_aload_n hx hb dX5_accept_24 rfl (lv_at hl 0 rfl) ?_
      refine lv_dup hx hb dX5_accept_25 rfl ?_
      refine va_get (D := D) (ci := 5) (v := .int lr_at) (C := RX5) (T := TX5) (N := 5) hx hb ht iX5 hown hK hP 2 rfl rfl 3 (by decide) (ht _ kw_277) (fun _ h9 => h9) rfl dX5_accept_26 ?_
      refine lv_iconst (v := (1 : Int32)) hx hb dX5_accept_29 (by decide) ?_
      refine lv_iadd hx hb dX5_accept_30 ?_
      obtain ⟨v_6, ev_6, h⟩ := zk_lt h
      refine W.eq (g2 := F0 m 31 ls [.int v_6, .ref (ad 26)]) (by rw [ev_6]) ?_
      refine va_put (D := D) (ci := 5) (v := .int v_6) (ty := .int) (C := RX5) (T := TX5) (N := 5) hx hb ht iX5 tyX5 tyX5_ok nmX5 hown hK hP hD hS 2 rfl rfl 3 (by decide) (ht _ kw_277) (fun _ h9 => h9) rfl (by decide +kernel) rfl rfl (Nat.le_of_ble_eq_true rfl) dX5_accept_31 (fun H locs hP hD hS => ?_)
      have hP : va_P D classes (wl_X5_accept ad cs tape_size tape_bytes lr_size v_6 lr_fault) H := hP
      have hD : va_D A (wl_X5_accept ad cs tape_size tape_bytes lr_size v_6 lr_fault) := hD
      refine lv_iconst (v := (1 : Int32)) hx hb dX5_accept_34 (by decide) ?_
      exact W.zret (ty := .boolean) (v := (1 : Int32)) hx hb hr rfl (fun t ht2 hW => ⟨⟨(1 : Int32), v_6, rfl, Option.some.inj h, by rw [ht2]; exact hP, hD⟩, hS.F ht2⟩) hS.2.2 dX5_accept_35 hlocks
    · have h := zk_f c_5 h
      refine lv_iconst (v := (0 : Int32)) hx hb dX5_accept_22 (by decide) ?_
      exact W.zret (ty := .boolean) (v := (0 : Int32)) hx hb hr rfl (fun t ht2 hW => ⟨⟨(0 : Int32), lr_at, rfl, Option.some.inj h, by rw [ht2]; exact hP, hD⟩, hS.F ht2⟩) hS.2.2 dX5_accept_23 hlocks
set_option maxHeartbeats 4000000 in
set_option maxRecDepth 100000 in
theorem c_X5_accept (l : Launch) (D : va_G) (cs : Nat → ClassId) (ad : Nat → Nat) (sz : Nat) (x1 : Int32) (tape_size : Int32) (tape_bytes : Nat → Int32) (lr_size : Int32) (lr_at : Int32) (lr_fault : Int32) (R : Int32 × Int32) (h : f_X5_accept  x1 tape_size tape_bytes lr_size lr_at lr_fault = some R) : Met l yX5_accept (z_X5_accept) rm_X5_accept (va_Pc [.ref (ad 26), .int x1] (zPre D cs (wl_X5_accept ad cs tape_size tape_bytes lr_size lr_at lr_fault) sz)) (Q_X5_accept D cs ad tape_size tape_bytes lr_size lr_fault (va_A (wl_X5_accept ad cs tape_size tape_bytes lr_size lr_at lr_fault) sz) R) 0 0 (va_A (wl_X5_accept ad cs tape_size tape_bytes lr_size lr_at lr_fault) sz) := by
  refine Met.ofW (cc := cX5_accept) (maxL := 2) (ret := (some .boolean)) (by decide) rfl ?_
  intro p e s m args below meth c s₁ B hml hv
  obtain ⟨rfl, hsz, hP, hK, hD0⟩ := hv
  subst hsz
  have hD := hD0.self (sz := s.heap.size)
  have C0 : zC p s m _ meth c cX5_accept 2 (some .boolean) RX5 zW := ⟨B.exec, B.bytes, B.returns, hml, findClass_of_methodNamed B.named, fun w hw => atoms_spec (ws := z_X5_accept) B.pre w (List.mem_cons_of_mem _ hw), B.notSynchronized⟩
  have hA : ∀ q : Nat, s.heap.size ≤ q → va_A (wl_X5_accept ad cs tape_size tape_bytes lr_size lr_at lr_fault) s.heap.size q := fun q h => Or.inr h
  have hl := lv_entry ([.ref (ad 26), .int x1]) (n := 2) (Nat.le_of_ble_eq_true rfl)
  rw [lg_entry_eq]
  generalize (lg_sl ([.ref (ad 26), .int x1]) ++ List.replicate (2 - (lg_sl ([.ref (ad 26), .int x1])).length) Slot.unset).toArray = ls at hl ⊢
  exact L_X5_accept_0 C0 hK hA   x1 lr_at h s.heap [] ls hP hD va_S.rf hl
theorem dX5_fail_0 : decode cX5_fail 0 = .ok (.aload_n 0, 1) := by decide +kernel
theorem dX5_fail_1 : decode cX5_fail 1 = .ok (.getfield 26, 3) := by decide +kernel
theorem dX5_fail_4 : decode cX5_fail 4 = .ok (.ifCond .ge 11, 3) := by decide +kernel
theorem dX5_fail_7 : decode cX5_fail 7 = .ok (.aload_n 0, 1) := by decide +kernel
theorem dX5_fail_8 : decode cX5_fail 8 = .ok (.aload_n 0, 1) := by decide +kernel
theorem dX5_fail_9 : decode cX5_fail 9 = .ok (.getfield 19, 3) := by decide +kernel
theorem dX5_fail_12 : decode cX5_fail 12 = .ok (.putfield 26, 3) := by decide +kernel
theorem dX5_fail_15 : decode cX5_fail 15 = .ok (.return_, 1) := by decide +kernel
abbrev z_X5_fail : List Cond := .code yX5_fail cX5_fail 1 none :: zW
abbrev wl_X5_fail (ad : Nat → Nat) (cs : Nat → ClassId)  (lr_size : Int32) (lr_at : Int32) (lr_fault : Int32) : va_W := [((ad 26), .inr (5, [.ref (ad 23), .ref (ad 27), .int lr_size, .int lr_at, .int lr_fault]))]
def Q_X5_fail (D : va_G) (cs : Nat → ClassId) (ad : Nat → Nat)  (lr_size : Int32) (lr_at : Int32) (A : Nat → Prop) (R : Int32) : Array Value → State → Outcome → State → Prop :=
  va_Qv (fun u : Int32 => u = R) (fun (u : Int32) (t : State) => va_P D classes (wl_X5_fail ad cs lr_size lr_at u) t.heap ∧ va_D A (wl_X5_fail ad cs lr_size lr_at u)) A
abbrev rm_X5_fail : Room := { frames := 0, cells := 0, slots := 0, locals := 0 }
def B_X5_fail_0   (lr_size : Int32) (lr_at : Int32) (lr_fault : Int32) : Option (Int32) :=
  (if 0 ≤ lr_fault then (some lr_fault) else (some lr_at))
def f_X5_fail   (lr_size : Int32) (lr_at : Int32) (lr_fault : Int32) : Option (Int32) := B_X5_fail_0  lr_size lr_at  lr_fault
set_option maxHeartbeats 4000000 in
set_option maxRecDepth 100000 in
theorem L_X5_fail_0 {p : Program} {l : Launch} {e : Env} {s : State} {m : MethodId} {args : Array Value} {below : List Frame} {meth : Method} {c : Code} {A : Nat → Prop} {D : va_G} {cs : Nat → ClassId} {ad : Nat → Nat} {lr_size : Int32} {lr_at : Int32} {R : Int32} (C0 : zC p s m args meth c cX5_fail 1 none RX5 zW) (hK : va_K D classes (zT cs) s) (hA : ∀ q : Nat, s.heap.size ≤ q → A q) (lr_fault : Int32) (h : B_X5_fail_0 lr_size lr_at lr_fault = some R) (H : Heap) (locs : List Loc) (ls : Array Slot) (hP : va_P D classes (wl_X5_fail ad cs lr_size lr_at lr_fault) H) (hD : va_D A (wl_X5_fail ad cs lr_size lr_at lr_fault)) (hS : va_S A s.heap H locs) (hl : lv_has ls 1 [(0, .ref (ad 26))]) : W p l e rm_X5_fail s m args below meth c H locs 0 0 (MQ below (Q_X5_fail D cs ad lr_size lr_at A R) args s 0 0 A) (F0 m 0 ls []) := by
  obtain ⟨hx, hb, hr, hml, hown, ht, hlocks⟩ := id C0
  refine lv_aload_n hx hb dX5_fail_0 rfl (lv_at hl 0 rfl) ?_
  refine va_get (D := D) (ci := 5) (v := .int lr_fault) (C := RX5) (T := TX5) (N := 5) hx hb ht iX5 hown hK hP 0 rfl rfl 4 (by decide) (ht _ kw_278) (fun _ h9 => h9) rfl dX5_fail_1 ?_
  refine lv_if_ge (tgt := 15) hx hb dX5_fail_4 (by decide) (fun c_1 => ?_) (fun c_1 => ?_)
  · have h := zk_t c_1 h
    exact W.vret hx hb hr (fun t ht2 hW => ⟨⟨lr_fault, rfl, Option.some.inj h, by rw [ht2]; exact hP, hD⟩, hS.F ht2⟩) hS.2.2 dX5_fail_15 hlocks
  · have h := zk_f c_1 h
    refine lv_aload_n hx hb dX5_fail_7 rfl (lv_at hl 0 rfl) ?_
    refine lv_aload_n hx hb dX5_fail_8 rfl (lv_at hl 0 rfl) ?_
    refine va_get (D := D) (ci := 5) (v := .int lr_at) (C := RX5) (T := TX5) (N := 5) hx hb ht iX5 hown hK hP 0 rfl rfl 3 (by decide) (ht _ kw_277) (fun _ h9 => h9) rfl dX5_fail_9 ?_
    refine va_put (D := D) (ci := 5) (v := .int lr_at) (ty := .int) (C := RX5) (T := TX5) (N := 5) hx hb ht iX5 tyX5 tyX5_ok nmX5 hown hK hP hD hS 0 rfl rfl 4 (by decide) (ht _ kw_278) (fun _ h9 => h9) rfl (by decide +kernel) rfl rfl (Nat.le_of_ble_eq_true rfl) dX5_fail_12 (fun H locs hP hD hS => ?_)
    have hP : va_P D classes (wl_X5_fail ad cs lr_size lr_at lr_at) H := hP
    have hD : va_D A (wl_X5_fail ad cs lr_size lr_at lr_at) := hD
    exact W.vret hx hb hr (fun t ht2 hW => ⟨⟨lr_at, rfl, Option.some.inj h, by rw [ht2]; exact hP, hD⟩, hS.F ht2⟩) hS.2.2 dX5_fail_15 hlocks
set_option maxHeartbeats 4000000 in
set_option maxRecDepth 100000 in
theorem c_X5_fail (l : Launch) (D : va_G) (cs : Nat → ClassId) (ad : Nat → Nat) (sz : Nat)  (lr_size : Int32) (lr_at : Int32) (lr_fault : Int32) (R : Int32) (h : f_X5_fail   lr_size lr_at lr_fault = some R) : Met l yX5_fail (z_X5_fail) rm_X5_fail (va_Pc [.ref (ad 26)] (zPre D cs (wl_X5_fail ad cs lr_size lr_at lr_fault) sz)) (Q_X5_fail D cs ad lr_size lr_at (va_A (wl_X5_fail ad cs lr_size lr_at lr_fault) sz) R) 0 0 (va_A (wl_X5_fail ad cs lr_size lr_at lr_fault) sz) := by
  refine Met.ofW (cc := cX5_fail) (maxL := 1) (ret := none) (by decide) rfl ?_
  intro p e s m args below meth c s₁ B hml hv
  obtain ⟨rfl, hsz, hP, hK, hD0⟩ := hv
  subst hsz
  have hD := hD0.self (sz := s.heap.size)
  have C0 : zC p s m _ meth c cX5_fail 1 none RX5 zW := ⟨B.exec, B.bytes, B.returns, hml, findClass_of_methodNamed B.named, fun w hw => atoms_spec (ws := z_X5_fail) B.pre w (List.mem_cons_of_mem _ hw), B.notSynchronized⟩
  have hA : ∀ q : Nat, s.heap.size ≤ q → va_A (wl_X5_fail ad cs lr_size lr_at lr_fault) s.heap.size q := fun q h => Or.inr h
  have hl := lv_entry ([.ref (ad 26)]) (n := 1) (Nat.le_of_ble_eq_true rfl)
  rw [lg_entry_eq]
  generalize (lg_sl ([.ref (ad 26)]) ++ List.replicate (1 - (lg_sl ([.ref (ad 26)])).length) Slot.unset).toArray = ls at hl ⊢
  exact L_X5_fail_0 C0 hK hA    lr_fault h s.heap [] ls hP hD va_S.rf hl
theorem kw_275 : Cond.fieldLink RX5 9 "AlreadyJudged$LawReader" "code" "[I" ∈ zW := zwI (i := 275) (by decide +kernel) (by decide +kernel)
theorem kw_276 : Cond.fieldLink RX5 23 "AlreadyJudged$LawReader" "size" "I" ∈ zW := zwI (i := 276) (by decide +kernel) (by decide +kernel)
theorem dX5_emit_0 : decode cX5_emit 0 = .ok (.aload_n 0, 1) := by decide +kernel
theorem dX5_emit_1 : decode cX5_emit 1 = .ok (.getfield 26, 3) := by decide +kernel
theorem dX5_emit_4 : decode cX5_emit 4 = .ok (.ifCond .ge 35, 3) := by decide +kernel
theorem dX5_emit_7 : decode cX5_emit 7 = .ok (.aload_n 0, 1) := by decide +kernel
theorem dX5_emit_8 : decode cX5_emit 8 = .ok (.getfield 23, 3) := by decide +kernel
theorem dX5_emit_11 : decode cX5_emit 11 = .ok (.aload_n 0, 1) := by decide +kernel
theorem dX5_emit_12 : decode cX5_emit 12 = .ok (.getfield 9, 3) := by decide +kernel
theorem dX5_emit_15 : decode cX5_emit 15 = .ok (.arraylength, 1) := by decide +kernel
theorem dX5_emit_16 : decode cX5_emit 16 = .ok (.if_icmp .ge 23, 3) := by decide +kernel
theorem dX5_emit_19 : decode cX5_emit 19 = .ok (.aload_n 0, 1) := by decide +kernel
theorem dX5_emit_20 : decode cX5_emit 20 = .ok (.getfield 9, 3) := by decide +kernel
theorem dX5_emit_23 : decode cX5_emit 23 = .ok (.aload_n 0, 1) := by decide +kernel
theorem dX5_emit_24 : decode cX5_emit 24 = .ok (.getfield 23, 3) := by decide +kernel
theorem dX5_emit_27 : decode cX5_emit 27 = .ok (.iload_n 1, 1) := by decide +kernel
theorem dX5_emit_28 : decode cX5_emit 28 = .ok (.iastore, 1) := by decide +kernel
theorem dX5_emit_29 : decode cX5_emit 29 = .ok (.aload_n 0, 1) := by decide +kernel
theorem dX5_emit_30 : decode cX5_emit 30 = .ok (.dup, 1) := by decide +kernel
theorem dX5_emit_31 : decode cX5_emit 31 = .ok (.getfield 23, 3) := by decide +kernel
theorem dX5_emit_34 : decode cX5_emit 34 = .ok (.iconst 1, 1) := by decide +kernel
theorem dX5_emit_35 : decode cX5_emit 35 = .ok (.iadd, 1) := by decide +kernel
theorem dX5_emit_36 : decode cX5_emit 36 = .ok (.putfield 23, 3) := by decide +kernel
theorem dX5_emit_39 : decode cX5_emit 39 = .ok (.return_, 1) := by decide +kernel
abbrev z_X5_emit : List Cond := .code yX5_emit cX5_emit 2 none :: zW
abbrev wl_X5_emit (ad : Nat → Nat) (cs : Nat → ClassId)  (lr_size : Int32) (lr_at : Int32) (lr_fault : Int32) (lr_code : Nat → Int32) : va_W := [((ad 26), .inr (5, [.ref (ad 23), .ref (ad 27), .int lr_size, .int lr_at, .int lr_fault])), ((ad 27), .inl (cs 0, 121, .inl lr_code))]
def Q_X5_emit (D : va_G) (cs : Nat → ClassId) (ad : Nat → Nat)  (lr_at : Int32) (lr_fault : Int32) (A : Nat → Prop) (R : Int32 × (Nat → Int32)) : Array Value → State → Outcome → State → Prop :=
  va_Qv (fun u : Int32 × (Nat → Int32) => u = R) (fun (u : Int32 × (Nat → Int32)) (t : State) => va_P D classes (wl_X5_emit ad cs u.1 lr_at lr_fault u.2) t.heap ∧ va_D A (wl_X5_emit ad cs u.1 lr_at lr_fault u.2)) A
abbrev rm_X5_emit : Room := { frames := 0, cells := 0, slots := 0, locals := 0 }
def B_X5_emit_0   (lr_at : Int32) (lr_fault : Int32) (x1 : Int32) (lr_size : Int32) (lr_code : Nat → Int32) : Option (Int32 × (Nat → Int32)) :=
  (if 0 ≤ lr_fault then (some (lr_size, lr_code)) else (if (121 : Int32) ≤ lr_size then (some (lr_size, lr_code)) else (if (lr_size < 0 ∨ 121 ≤ lr_size.toNatClampNeg) then none else (zk_let (upd lr_code lr_size.toNatClampNeg x1) (fun f_4 => (zk_let (lr_size + (1 : Int32)) (fun v_5 => (some (v_5, f_4)))))))))
def f_X5_emit  (x1 : Int32) (lr_size : Int32) (lr_at : Int32) (lr_fault : Int32) (lr_code : Nat → Int32) : Option (Int32 × (Nat → Int32)) := B_X5_emit_0  lr_at lr_fault x1 lr_size lr_code
set_option maxHeartbeats 4000000 in
set_option maxRecDepth 100000 in
theorem L_X5_emit_0 {p : Program} {l : Launch} {e : Env} {s : State} {m : MethodId} {args : Array Value} {below : List Frame} {meth : Method} {c : Code} {A : Nat → Prop} {D : va_G} {cs : Nat → ClassId} {ad : Nat → Nat} {lr_at : Int32} {lr_fault : Int32} {R : Int32 × (Nat → Int32)} (C0 : zC p s m args meth c cX5_emit 2 none RX5 zW) (hK : va_K D classes (zT cs) s) (hA : ∀ q : Nat, s.heap.size ≤ q → A q) (x1 : Int32) (lr_size : Int32) (lr_code : Nat → Int32) (h : B_X5_emit_0 lr_at lr_fault x1 lr_size lr_code = some R) (H : Heap) (locs : List Loc) (ls : Array Slot) (hP : va_P D classes (wl_X5_emit ad cs lr_size lr_at lr_fault lr_code) H) (hD : va_D A (wl_X5_emit ad cs lr_size lr_at lr_fault lr_code)) (hS : va_S A s.heap H locs) (hl : lv_has ls 2 [(0, .ref (ad 26)), (1, .int x1)]) : W p l e rm_X5_emit s m args below meth c H locs 0 0 (MQ below (Q_X5_emit D cs ad lr_at lr_fault A R) args s 0 0 A) (F0 m 0 ls []) := by
  obtain ⟨hx, hb, hr, hml, hown, ht, hlocks⟩ := id C0
  refine lv_aload_n hx hb dX5_emit_0 rfl (lv_at hl 0 rfl) ?_
  refine va_get (D := D) (ci := 5) (v := .int lr_fault) (C := RX5) (T := TX5) (N := 5) hx hb ht iX5 hown hK hP 0 rfl rfl 4 (by decide) (ht _ kw_278) (fun _ h9 => h9) rfl dX5_emit_1 ?_
  refine lv_if_ge (tgt := 39) hx hb dX5_emit_4 (by decide) (fun c_1 => ?_) (fun c_1 => ?_)
  · have h := zk_t c_1 h
    exact W.vret hx hb hr (fun t ht2 hW => ⟨⟨(lr_size, lr_code), rfl, Option.some.inj h, by rw [ht2]; exact hP, hD⟩, hS.F ht2⟩) hS.2.2 dX5_emit_39 hlocks
  · have h := zk_f c_1 h
    refine lv_aload_n hx hb dX5_emit_7 rfl (lv_at hl 0 rfl) ?_
    refine va_get (D := D) (ci := 5) (v := .int lr_size) (C := RX5) (T := TX5) (N := 5) hx hb ht iX5 hown hK hP 0 rfl rfl 2 (by decide) (ht _ kw_276) (fun _ h9 => h9) rfl dX5_emit_8 ?_
    refine lv_aload_n hx hb dX5_emit_11 rfl (lv_at hl 0 rfl) ?_
    refine va_get (D := D) (ci := 5) (v := .ref (ad 27)) (C := RX5) (T := TX5) (N := 5) hx hb ht iX5 hown hK hP 0 rfl rfl 1 (by decide) (ht _ kw_275) (fun _ h9 => h9) rfl dX5_emit_12 ?_
    refine va_alen (v := (121 : Int32)) hx hb hK hP 1 0 rfl rfl rfl dX5_emit_15 ?_
    refine lv_icmp_ge (tgt := 39) hx hb dX5_emit_16 (by decide) (fun c_2 => ?_) (fun c_2 => ?_)
    · have h := zk_t c_2 h
      exact W.vret hx hb hr (fun t ht2 hW => ⟨⟨(lr_size, lr_code), rfl, Option.some.inj h, by rw [ht2]; exact hP, hD⟩, hS.F ht2⟩) hS.2.2 dX5_emit_39 hlocks
    · have h := zk_f c_2 h
      refine lv_aload_n hx hb dX5_emit_19 rfl (lv_at hl 0 rfl) ?_
      refine va_get (D := D) (ci := 5) (v := .ref (ad 27)) (C := RX5) (T := TX5) (N := 5) hx hb ht iX5 hown hK hP 0 rfl rfl 1 (by decide) (ht _ kw_275) (fun _ h9 => h9) rfl dX5_emit_20 ?_
      refine lv_aload_n hx hb dX5_emit_23 rfl (lv_at hl 0 rfl) ?_
      refine va_get (D := D) (ci := 5) (v := .int lr_size) (C := RX5) (T := TX5) (N := 5) hx hb ht iX5 hown hK hP 0 rfl rfl 2 (by decide) (ht _ kw_276) (fun _ h9 => h9) rfl dX5_emit_24 ?_
      refine lv_iload_n hx hb dX5_emit_27 rfl (lv_at hl 1 rfl) ?_
      obtain ⟨g_3, h⟩ := zk_gd h
      obtain ⟨f_4, ef_4, h⟩ := zk_lt h
      refine va_iast hx hb hK hP hD hS 1 0 rfl rfl g_3 dX5_emit_28 (fun H locs hP hD hS => ?_)
      have hP : va_P D classes (wl_X5_emit ad cs lr_size lr_at lr_fault f_4) H := by rw [ef_4]; exact hP
      have hD : va_D A (wl_X5_emit ad cs lr_size lr_at lr_fault f_4) := by rw [ef_4]; exact hD
      refine lv_aload_n hx hb dX5_emit_29 rfl (lv_at hl 0 rfl) ?_
      refine lv_dup hx hb dX5_emit_30 rfl ?_
      refine va_get (D := D) (ci := 5) (v := .int lr_size) (C := RX5) (T := TX5) (N := 5) hx hb ht iX5 hown hK hP 0 rfl rfl 2 (by decide) (ht _ kw_276) (fun _ h9 => h9) rfl dX5_emit_31 ?_
      refine lv_iconst (v := (1 : Int32)) hx hb dX5_emit_34 (by decide) ?_
      refine lv_iadd hx hb dX5_emit_35 ?_
      obtain ⟨v_5, ev_5, h⟩ := zk_lt h
      refine W.eq (g2 := F0 m 36 ls [.int v_5, .ref (ad 26)]) (by rw [ev_5]) ?_
      refine va_put (D := D) (ci := 5) (v := .int v_5) (ty := .int) (C := RX5) (T := TX5) (N := 5) hx hb ht iX5 tyX5 tyX5_ok nmX5 hown hK hP hD hS 0 rfl rfl 2 (by decide) (ht _ kw_276) (fun _ h9 => h9) rfl (by decide +kernel) rfl rfl (Nat.le_of_ble_eq_true rfl) dX5_emit_36 (fun H locs hP hD hS => ?_)
      have hP : va_P D classes (wl_X5_emit ad cs v_5 lr_at lr_fault f_4) H := hP
      have hD : va_D A (wl_X5_emit ad cs v_5 lr_at lr_fault f_4) := hD
      exact W.vret hx hb hr (fun t ht2 hW => ⟨⟨(v_5, f_4), rfl, Option.some.inj h, by rw [ht2]; exact hP, hD⟩, hS.F ht2⟩) hS.2.2 dX5_emit_39 hlocks
set_option maxHeartbeats 4000000 in
set_option maxRecDepth 100000 in
theorem c_X5_emit (l : Launch) (D : va_G) (cs : Nat → ClassId) (ad : Nat → Nat) (sz : Nat) (x1 : Int32) (lr_size : Int32) (lr_at : Int32) (lr_fault : Int32) (lr_code : Nat → Int32) (R : Int32 × (Nat → Int32)) (h : f_X5_emit  x1 lr_size lr_at lr_fault lr_code = some R) : Met l yX5_emit (z_X5_emit) rm_X5_emit (va_Pc [.ref (ad 26), .int x1] (zPre D cs (wl_X5_emit ad cs lr_size lr_at lr_fault lr_code) sz)) (Q_X5_emit D cs ad lr_at lr_fault (va_A (wl_X5_emit ad cs lr_size lr_at lr_fault lr_code) sz) R) 0 0 (va_A (wl_X5_emit ad cs lr_size lr_at lr_fault lr_code) sz) := by
  refine Met.ofW (cc := cX5_emit) (maxL := 2) (ret := none) (by decide) rfl ?_
  intro p e s m args below meth c s₁ B hml hv
  obtain ⟨rfl, hsz, hP, hK, hD0⟩ := hv
  subst hsz
  have hD := hD0.self (sz := s.heap.size)
  have C0 : zC p s m _ meth c cX5_emit 2 none RX5 zW := ⟨B.exec, B.bytes, B.returns, hml, findClass_of_methodNamed B.named, fun w hw => atoms_spec (ws := z_X5_emit) B.pre w (List.mem_cons_of_mem _ hw), B.notSynchronized⟩
  have hA : ∀ q : Nat, s.heap.size ≤ q → va_A (wl_X5_emit ad cs lr_size lr_at lr_fault lr_code) s.heap.size q := fun q h => Or.inr h
  have hl := lv_entry ([.ref (ad 26), .int x1]) (n := 2) (Nat.le_of_ble_eq_true rfl)
  rw [lg_entry_eq]
  generalize (lg_sl ([.ref (ad 26), .int x1]) ++ List.replicate (2 - (lg_sl ([.ref (ad 26), .int x1])).length) Slot.unset).toArray = ls at hl ⊢
  exact L_X5_emit_0 C0 hK hA   x1 lr_size lr_code h s.heap [] ls hP hD va_S.rf hl
theorem kw_80 : Cond.initialized RX5 ∈ zW := zwI (i := 80) (by decide +kernel) (by decide +kernel)
theorem kw_574 : Cond.methodLink RX5 39 yX5_fail ∈ zW := zwI (i := 574) (by decide +kernel) (by decide +kernel)
theorem kw_575 : Cond.instanceMethod yX5_fail ∈ zW := zwI (i := 575) (by decide +kernel) (by decide +kernel)
theorem kw_576 : Cond.selects RX5 yX5_fail yX5_fail ∈ zW := zwI (i := 576) (by decide +kernel) (by decide +kernel)
theorem kw_577 : Cond.code yX5_fail cX5_fail 1 none ∈ zW := zwI (i := 577) (by decide +kernel) (by decide +kernel)
theorem dX5_mayOpen_0 : decode cX5_mayOpen 0 = .ok (.iload_n 1, 1) := by decide +kernel
theorem dX5_mayOpen_1 : decode cX5_mayOpen 1 = .ok (.bipush 6, 2) := by decide +kernel
theorem dX5_mayOpen_3 : decode cX5_mayOpen 3 = .ok (.if_icmp .lt 9, 3) := by decide +kernel
theorem dX5_mayOpen_6 : decode cX5_mayOpen 6 = .ok (.aload_n 0, 1) := by decide +kernel
theorem dX5_mayOpen_7 : decode cX5_mayOpen 7 = .ok (.invokevirtual 39, 3) := by decide +kernel
theorem dX5_mayOpen_10 : decode cX5_mayOpen 10 = .ok (.iconst 0, 1) := by decide +kernel
theorem dX5_mayOpen_11 : decode cX5_mayOpen 11 = .ok (.ireturn, 1) := by decide +kernel
theorem dX5_mayOpen_12 : decode cX5_mayOpen 12 = .ok (.aload_n 0, 1) := by decide +kernel
theorem dX5_mayOpen_13 : decode cX5_mayOpen 13 = .ok (.dup, 1) := by decide +kernel
theorem dX5_mayOpen_14 : decode cX5_mayOpen 14 = .ok (.getfield 19, 3) := by decide +kernel
theorem dX5_mayOpen_17 : decode cX5_mayOpen 17 = .ok (.iconst 1, 1) := by decide +kernel
theorem dX5_mayOpen_18 : decode cX5_mayOpen 18 = .ok (.iadd, 1) := by decide +kernel
theorem dX5_mayOpen_19 : decode cX5_mayOpen 19 = .ok (.putfield 19, 3) := by decide +kernel
theorem dX5_mayOpen_22 : decode cX5_mayOpen 22 = .ok (.iconst 1, 1) := by decide +kernel
theorem dX5_mayOpen_23 : decode cX5_mayOpen 23 = .ok (.ireturn, 1) := by decide +kernel
abbrev z_X5_mayOpen : List Cond := .code yX5_mayOpen cX5_mayOpen 2 (some .boolean) :: zW
abbrev wl_X5_mayOpen (ad : Nat → Nat) (cs : Nat → ClassId)  (lr_size : Int32) (lr_at : Int32) (lr_fault : Int32) : va_W := [((ad 26), .inr (5, [.ref (ad 23), .ref (ad 27), .int lr_size, .int lr_at, .int lr_fault]))]
def Q_X5_mayOpen (D : va_G) (cs : Nat → ClassId) (ad : Nat → Nat)  (lr_size : Int32) (A : Nat → Prop) (R : Int32 × Int32 × Int32) : Array Value → State → Outcome → State → Prop :=
  va_Qi (fun (r : Int32) (u : Int32 × Int32) => (r, u) = R) (fun (u : Int32 × Int32) (t : State) => va_P D classes (wl_X5_mayOpen ad cs lr_size u.1 u.2) t.heap ∧ va_D A (wl_X5_mayOpen ad cs lr_size u.1 u.2)) A
abbrev rm_X5_mayOpen : Room := { frames := 1, cells := 0, slots := 0, locals := 20 }
theorem g_X5_39 : GoodIn zW (wsV RX5 39 RX5 yX5_fail z_X5_fail) := zGV kw_574 kw_575 kw_576 kw_80 kw_577
def B_X5_mayOpen_0   (lr_size : Int32) (x1 : Int32) (lr_at : Int32) (lr_fault : Int32) : Option (Int32 × Int32 × Int32) :=
  (if x1 < (6 : Int32) then (zk_let (lr_at + (1 : Int32)) (fun v_2 => (some ((1 : Int32), v_2, lr_fault)))) else (zk_b1 (f_X5_fail lr_size lr_at lr_fault) (fun u_3 => (some ((0 : Int32), lr_at, u_3)))))
def f_X5_mayOpen  (x1 : Int32) (lr_size : Int32) (lr_at : Int32) (lr_fault : Int32) : Option (Int32 × Int32 × Int32) := B_X5_mayOpen_0  lr_size x1 lr_at lr_fault
set_option maxHeartbeats 4000000 in
set_option maxRecDepth 100000 in
theorem L_X5_mayOpen_0 {p : Program} {l : Launch} {e : Env} {s : State} {m : MethodId} {args : Array Value} {below : List Frame} {meth : Method} {c : Code} {A : Nat → Prop} {D : va_G} {cs : Nat → ClassId} {ad : Nat → Nat} {lr_size : Int32} {R : Int32 × Int32 × Int32} (C0 : zC p s m args meth c cX5_mayOpen 2 (some .boolean) RX5 zW) (hK : va_K D classes (zT cs) s) (hA : ∀ q : Nat, s.heap.size ≤ q → A q) (x1 : Int32) (lr_at : Int32) (lr_fault : Int32) (h : B_X5_mayOpen_0 lr_size x1 lr_at lr_fault = some R) (H : Heap) (locs : List Loc) (ls : Array Slot) (hP : va_P D classes (wl_X5_mayOpen ad cs lr_size lr_at lr_fault) H) (hD : va_D A (wl_X5_mayOpen ad cs lr_size lr_at lr_fault)) (hS : va_S A s.heap H locs) (hl : lv_has ls 2 [(0, .ref (ad 26)), (1, .int x1)]) : W p l e rm_X5_mayOpen s m args below meth c H locs 0 0 (MQ below (Q_X5_mayOpen D cs ad lr_size A R) args s 0 0 A) (F0 m 0 ls []) := by
  obtain ⟨hx, hb, hr, hml, hown, ht, hlocks⟩ := id C0
  refine lv_iload_n hx hb dX5_mayOpen_0 rfl (lv_at hl 1 rfl) ?_
  refine lv_bipush (v := (6 : Int32)) hx hb dX5_mayOpen_1 (by decide) ?_
  refine lv_icmp_lt (tgt := 12) hx hb dX5_mayOpen_3 (by decide) (fun c_1 => ?_) (fun c_1 => ?_)
  · have h := zk_t c_1 h
    refine lv_aload_n hx hb dX5_mayOpen_12 rfl (lv_at hl 0 rfl) ?_
    refine lv_dup hx hb dX5_mayOpen_13 rfl ?_
    refine va_get (D := D) (ci := 5) (v := .int lr_at) (C := RX5) (T := TX5) (N := 5) hx hb ht iX5 hown hK hP 0 rfl rfl 3 (by decide) (ht _ kw_277) (fun _ h9 => h9) rfl dX5_mayOpen_14 ?_
    refine lv_iconst (v := (1 : Int32)) hx hb dX5_mayOpen_17 (by decide) ?_
    refine lv_iadd hx hb dX5_mayOpen_18 ?_
    obtain ⟨v_2, ev_2, h⟩ := zk_lt h
    refine W.eq (g2 := F0 m 19 ls [.int v_2, .ref (ad 26)]) (by rw [ev_2]) ?_
    refine va_put (D := D) (ci := 5) (v := .int v_2) (ty := .int) (C := RX5) (T := TX5) (N := 5) hx hb ht iX5 tyX5 tyX5_ok nmX5 hown hK hP hD hS 0 rfl rfl 3 (by decide) (ht _ kw_277) (fun _ h9 => h9) rfl (by decide +kernel) rfl rfl (Nat.le_of_ble_eq_true rfl) dX5_mayOpen_19 (fun H locs hP hD hS => ?_)
    have hP : va_P D classes (wl_X5_mayOpen ad cs lr_size v_2 lr_fault) H := hP
    have hD : va_D A (wl_X5_mayOpen ad cs lr_size v_2 lr_fault) := hD
    refine lv_iconst (v := (1 : Int32)) hx hb dX5_mayOpen_22 (by decide) ?_
    exact W.zret (ty := .boolean) (v := (1 : Int32)) hx hb hr rfl (fun t ht2 hW => ⟨⟨(1 : Int32), (v_2, lr_fault), rfl, Option.some.inj h, by rw [ht2]; exact hP, hD⟩, hS.F ht2⟩) hS.2.2 dX5_mayOpen_23 hlocks
  · have h := zk_f c_1 h
    refine lv_aload_n hx hb dX5_mayOpen_6 rfl (lv_at hl 0 rfl) ?_
    obtain ⟨u_3, hc_4, h⟩ := zk_o1 h
    refine zk_vv (post := (fun u => u = u_3)) (w1 := fun u => (wl_X5_fail ad cs lr_size lr_at u)) (As := []) (rest := []) (c_X5_fail l D cs ad  H.size lr_size lr_at lr_fault _ hc_4) ⟨hx, hb, hml, hown, ht⟩ (cwV 0 ht g_X5_39 rfl rfl rfl (by decide +kernel) ⟨Nat.le_of_ble_eq_true rfl, Nat.le_of_ble_eq_true rfl⟩) (va_recv hK hP (ci := 5) (q0 := 0) rfl rfl) hP hD hS hK hA [0] [] rfl rfl rfl rfl (by decide) rfl hl.1 (Nat.le_of_ble_eq_true rfl) dX5_mayOpen_7 ⟨Nat.zero_le _, Nat.zero_le _⟩ (fun u H locs hq hP hD hS => ?_)
    cases hq
    have hP : va_P D classes (wl_X5_mayOpen ad cs lr_size lr_at u_3) H := hP.sub [0] rfl
    have hD : va_D A (wl_X5_mayOpen ad cs lr_size lr_at u_3) := hD.sub [0] rfl rfl
    refine lv_iconst (v := (0 : Int32)) hx hb dX5_mayOpen_10 (by decide) ?_
    exact W.zret (ty := .boolean) (v := (0 : Int32)) hx hb hr rfl (fun t ht2 hW => ⟨⟨(0 : Int32), (lr_at, u_3), rfl, Option.some.inj h, by rw [ht2]; exact hP, hD⟩, hS.F ht2⟩) hS.2.2 dX5_mayOpen_11 hlocks
set_option maxHeartbeats 4000000 in
set_option maxRecDepth 100000 in
theorem c_X5_mayOpen (l : Launch) (D : va_G) (cs : Nat → ClassId) (ad : Nat → Nat) (sz : Nat) (x1 : Int32) (lr_size : Int32) (lr_at : Int32) (lr_fault : Int32) (R : Int32 × Int32 × Int32) (h : f_X5_mayOpen  x1 lr_size lr_at lr_fault = some R) : Met l yX5_mayOpen (z_X5_mayOpen) rm_X5_mayOpen (va_Pc [.ref (ad 26), .int x1] (zPre D cs (wl_X5_mayOpen ad cs lr_size lr_at lr_fault) sz)) (Q_X5_mayOpen D cs ad lr_size (va_A (wl_X5_mayOpen ad cs lr_size lr_at lr_fault) sz) R) 0 0 (va_A (wl_X5_mayOpen ad cs lr_size lr_at lr_fault) sz) := by
  refine Met.ofW (cc := cX5_mayOpen) (maxL := 2) (ret := (some .boolean)) (by decide) rfl ?_
  intro p e s m args below meth c s₁ B hml hv
  obtain ⟨rfl, hsz, hP, hK, hD0⟩ := hv
  subst hsz
  have hD := hD0.self (sz := s.heap.size)
  have C0 : zC p s m _ meth c cX5_mayOpen 2 (some .boolean) RX5 zW := ⟨B.exec, B.bytes, B.returns, hml, findClass_of_methodNamed B.named, fun w hw => atoms_spec (ws := z_X5_mayOpen) B.pre w (List.mem_cons_of_mem _ hw), B.notSynchronized⟩
  have hA : ∀ q : Nat, s.heap.size ≤ q → va_A (wl_X5_mayOpen ad cs lr_size lr_at lr_fault) s.heap.size q := fun q h => Or.inr h
  have hl := lv_entry ([.ref (ad 26), .int x1]) (n := 2) (Nat.le_of_ble_eq_true rfl)
  rw [lg_entry_eq]
  generalize (lg_sl ([.ref (ad 26), .int x1]) ++ List.replicate (2 - (lg_sl ([.ref (ad 26), .int x1])).length) Slot.unset).toArray = ls at hl ⊢
  exact L_X5_mayOpen_0 C0 hK hA   x1 lr_at lr_fault h s.heap [] ls hP hD va_S.rf hl
end
section
theorem dX5_operatorAt_0 : decode cX5_operatorAt 0 = .ok (.aload_n 0, 1) := by decide +kernel
theorem dX5_operatorAt_1 : decode cX5_operatorAt 1 = .ok (.getfield 15, 3) := by decide +kernel
theorem dX5_operatorAt_4 : decode cX5_operatorAt 4 = .ok (.aload_n 0, 1) := by decide +kernel
theorem dX5_operatorAt_5 : decode cX5_operatorAt 5 = .ok (.getfield 19, 3) := by decide +kernel
theorem dX5_operatorAt_8 : decode cX5_operatorAt 8 = .ok (.invokevirtual 68, 3) := by decide +kernel
theorem dX5_operatorAt_11 : decode cX5_operatorAt 11 = .ok (.istore_n 2, 1) := by decide +kernel
theorem dX5_operatorAt_12 : decode cX5_operatorAt 12 = .ok (.iload_n 1, 1) := by decide +kernel
theorem dX5_operatorAt_13 : decode cX5_operatorAt 13 = .ok (.tableswitch 116 0 3 #[31, 44, 57, 92], 31) := by decide +kernel
theorem dX5_operatorAt_44 : decode cX5_operatorAt 44 = .ok (.iload_n 2, 1) := by decide +kernel
theorem dX5_operatorAt_45 : decode cX5_operatorAt 45 = .ok (.bipush 124, 2) := by decide +kernel
theorem dX5_operatorAt_47 : decode cX5_operatorAt 47 = .ok (.if_icmp .ne 8, 3) := by decide +kernel
theorem dX5_operatorAt_50 : decode cX5_operatorAt 50 = .ok (.bipush 6, 2) := by decide +kernel
theorem dX5_operatorAt_52 : decode cX5_operatorAt 52 = .ok (.goto 4, 3) := by decide +kernel
theorem dX5_operatorAt_55 : decode cX5_operatorAt 55 = .ok (.iconst (-1), 1) := by decide +kernel
theorem dX5_operatorAt_56 : decode cX5_operatorAt 56 = .ok (.ireturn, 1) := by decide +kernel
theorem dX5_operatorAt_57 : decode cX5_operatorAt 57 = .ok (.iload_n 2, 1) := by decide +kernel
theorem dX5_operatorAt_58 : decode cX5_operatorAt 58 = .ok (.bipush 38, 2) := by decide +kernel
theorem dX5_operatorAt_60 : decode cX5_operatorAt 60 = .ok (.if_icmp .ne 8, 3) := by decide +kernel
theorem dX5_operatorAt_63 : decode cX5_operatorAt 63 = .ok (.bipush 7, 2) := by decide +kernel
theorem dX5_operatorAt_65 : decode cX5_operatorAt 65 = .ok (.goto 4, 3) := by decide +kernel
theorem dX5_operatorAt_68 : decode cX5_operatorAt 68 = .ok (.iconst (-1), 1) := by decide +kernel
theorem dX5_operatorAt_69 : decode cX5_operatorAt 69 = .ok (.ireturn, 1) := by decide +kernel
theorem dX5_operatorAt_70 : decode cX5_operatorAt 70 = .ok (.iload_n 2, 1) := by decide +kernel
theorem dX5_operatorAt_71 : decode cX5_operatorAt 71 = .ok (.bipush 60, 2) := by decide +kernel
theorem dX5_operatorAt_73 : decode cX5_operatorAt 73 = .ok (.if_icmp .ne 8, 3) := by decide +kernel
theorem dX5_operatorAt_76 : decode cX5_operatorAt 76 = .ok (.bipush 8, 2) := by decide +kernel
theorem dX5_operatorAt_78 : decode cX5_operatorAt 78 = .ok (.goto 26, 3) := by decide +kernel
theorem dX5_operatorAt_81 : decode cX5_operatorAt 81 = .ok (.iload_n 2, 1) := by decide +kernel
theorem dX5_operatorAt_82 : decode cX5_operatorAt 82 = .ok (.bipush 61, 2) := by decide +kernel
theorem dX5_operatorAt_84 : decode cX5_operatorAt 84 = .ok (.if_icmp .ne 8, 3) := by decide +kernel
theorem dX5_operatorAt_87 : decode cX5_operatorAt 87 = .ok (.bipush 9, 2) := by decide +kernel
theorem dX5_operatorAt_89 : decode cX5_operatorAt 89 = .ok (.goto 15, 3) := by decide +kernel
theorem dX5_operatorAt_92 : decode cX5_operatorAt 92 = .ok (.iload_n 2, 1) := by decide +kernel
theorem dX5_operatorAt_93 : decode cX5_operatorAt 93 = .ok (.bipush 62, 2) := by decide +kernel
theorem dX5_operatorAt_95 : decode cX5_operatorAt 95 = .ok (.if_icmp .ne 8, 3) := by decide +kernel
theorem dX5_operatorAt_98 : decode cX5_operatorAt 98 = .ok (.bipush 10, 2) := by decide +kernel
theorem dX5_operatorAt_100 : decode cX5_operatorAt 100 = .ok (.goto 4, 3) := by decide +kernel
theorem dX5_operatorAt_103 : decode cX5_operatorAt 103 = .ok (.iconst (-1), 1) := by decide +kernel
theorem dX5_operatorAt_104 : decode cX5_operatorAt 104 = .ok (.ireturn, 1) := by decide +kernel
theorem dX5_operatorAt_105 : decode cX5_operatorAt 105 = .ok (.iload_n 2, 1) := by decide +kernel
theorem dX5_operatorAt_106 : decode cX5_operatorAt 106 = .ok (.bipush 43, 2) := by decide +kernel
theorem dX5_operatorAt_108 : decode cX5_operatorAt 108 = .ok (.if_icmp .ne 8, 3) := by decide +kernel
theorem dX5_operatorAt_111 : decode cX5_operatorAt 111 = .ok (.bipush 11, 2) := by decide +kernel
theorem dX5_operatorAt_113 : decode cX5_operatorAt 113 = .ok (.goto 15, 3) := by decide +kernel
theorem dX5_operatorAt_116 : decode cX5_operatorAt 116 = .ok (.iload_n 2, 1) := by decide +kernel
theorem dX5_operatorAt_117 : decode cX5_operatorAt 117 = .ok (.bipush 45, 2) := by decide +kernel
theorem dX5_operatorAt_119 : decode cX5_operatorAt 119 = .ok (.if_icmp .ne 8, 3) := by decide +kernel
theorem dX5_operatorAt_122 : decode cX5_operatorAt 122 = .ok (.bipush 12, 2) := by decide +kernel
theorem dX5_operatorAt_124 : decode cX5_operatorAt 124 = .ok (.goto 4, 3) := by decide +kernel
theorem dX5_operatorAt_127 : decode cX5_operatorAt 127 = .ok (.iconst (-1), 1) := by decide +kernel
theorem dX5_operatorAt_128 : decode cX5_operatorAt 128 = .ok (.ireturn, 1) := by decide +kernel
theorem dX5_operatorAt_129 : decode cX5_operatorAt 129 = .ok (.iload_n 2, 1) := by decide +kernel
theorem dX5_operatorAt_130 : decode cX5_operatorAt 130 = .ok (.bipush 42, 2) := by decide +kernel
theorem dX5_operatorAt_132 : decode cX5_operatorAt 132 = .ok (.if_icmp .ne 8, 3) := by decide +kernel
theorem dX5_operatorAt_135 : decode cX5_operatorAt 135 = .ok (.bipush 13, 2) := by decide +kernel
theorem dX5_operatorAt_137 : decode cX5_operatorAt 137 = .ok (.goto 26, 3) := by decide +kernel
theorem dX5_operatorAt_140 : decode cX5_operatorAt 140 = .ok (.iload_n 2, 1) := by decide +kernel
theorem dX5_operatorAt_141 : decode cX5_operatorAt 141 = .ok (.bipush 47, 2) := by decide +kernel
theorem dX5_operatorAt_143 : decode cX5_operatorAt 143 = .ok (.if_icmp .ne 8, 3) := by decide +kernel
theorem dX5_operatorAt_146 : decode cX5_operatorAt 146 = .ok (.bipush 14, 2) := by decide +kernel
theorem dX5_operatorAt_148 : decode cX5_operatorAt 148 = .ok (.goto 15, 3) := by decide +kernel
theorem dX5_operatorAt_151 : decode cX5_operatorAt 151 = .ok (.iload_n 2, 1) := by decide +kernel
theorem dX5_operatorAt_152 : decode cX5_operatorAt 152 = .ok (.bipush 37, 2) := by decide +kernel
theorem dX5_operatorAt_154 : decode cX5_operatorAt 154 = .ok (.if_icmp .ne 8, 3) := by decide +kernel
theorem dX5_operatorAt_157 : decode cX5_operatorAt 157 = .ok (.bipush 15, 2) := by decide +kernel
theorem dX5_operatorAt_159 : decode cX5_operatorAt 159 = .ok (.goto 4, 3) := by decide +kernel
theorem dX5_operatorAt_162 : decode cX5_operatorAt 162 = .ok (.iconst (-1), 1) := by decide +kernel
theorem dX5_operatorAt_163 : decode cX5_operatorAt 163 = .ok (.ireturn, 1) := by decide +kernel
abbrev z_X5_operatorAt : List Cond := .code yX5_operatorAt cX5_operatorAt 3 (some .int) :: zW
abbrev wl_X5_operatorAt (ad : Nat → Nat) (cs : Nat → ClassId)  (tape_size : Int32) (tape_bytes : Nat → Int32) (lr_size : Int32) (lr_at : Int32) (lr_fault : Int32) : va_W := [((ad 23), .inr (9, [.ref (ad 24), .int tape_size])), ((ad 24), .inl (cs 0, 120, .inl tape_bytes)), ((ad 26), .inr (5, [.ref (ad 23), .ref (ad 27), .int lr_size, .int lr_at, .int lr_fault]))]
def Q_X5_operatorAt (D : va_G) (cs : Nat → ClassId) (ad : Nat → Nat)  (tape_size : Int32) (tape_bytes : Nat → Int32) (lr_size : Int32) (lr_at : Int32) (lr_fault : Int32) (A : Nat → Prop) (R : Int32 × Unit) : Array Value → State → Outcome → State → Prop :=
  va_Qi (fun (r : Int32) (u : Unit) => (r, u) = R) (fun (u : Unit) (t : State) => va_P D classes (wl_X5_operatorAt ad cs tape_size tape_bytes lr_size lr_at lr_fault) t.heap ∧ va_D A (wl_X5_operatorAt ad cs tape_size tape_bytes lr_size lr_at lr_fault)) A
abbrev rm_X5_operatorAt : Room := { frames := 1, cells := 0, slots := 0, locals := 21 }
def B_X5_operatorAt_0   (tape_size : Int32) (tape_bytes : Nat → Int32) (lr_size : Int32) (lr_at : Int32) (lr_fault : Int32) (x1 : Int32) : Option (Int32 × Unit) :=
  (zk_b2 (f_X9_byteAt lr_at tape_size tape_bytes) (fun r_1 u_2 => (if x1 = (0 : Int32) then (if r_1 = (124 : Int32) then (some ((6 : Int32), ())) else (some ((-1 : Int32), ()))) else (if x1 = (1 : Int32) then (if r_1 = (38 : Int32) then (some ((7 : Int32), ())) else (some ((-1 : Int32), ()))) else (if x1 = (2 : Int32) then (if r_1 = (60 : Int32) then (some ((8 : Int32), ())) else (if r_1 = (61 : Int32) then (some ((9 : Int32), ())) else (if r_1 = (62 : Int32) then (some ((10 : Int32), ())) else (some ((-1 : Int32), ()))))) else (if x1 = (3 : Int32) then (if r_1 = (43 : Int32) then (some ((11 : Int32), ())) else (if r_1 = (45 : Int32) then (some ((12 : Int32), ())) else (some ((-1 : Int32), ())))) else (if r_1 = (42 : Int32) then (some ((13 : Int32), ())) else (if r_1 = (47 : Int32) then (some ((14 : Int32), ())) else (if r_1 = (37 : Int32) then (some ((15 : Int32), ())) else (some ((-1 : Int32), ())))))))))))
def f_X5_operatorAt  (x1 : Int32) (tape_size : Int32) (tape_bytes : Nat → Int32) (lr_size : Int32) (lr_at : Int32) (lr_fault : Int32) : Option (Int32 × Unit) := B_X5_operatorAt_0  tape_size tape_bytes lr_size lr_at lr_fault x1 
set_option maxHeartbeats 4000000 in
set_option maxRecDepth 100000 in
theorem L_X5_operatorAt_0 {p : Program} {l : Launch} {e : Env} {s : State} {m : MethodId} {args : Array Value} {below : List Frame} {meth : Method} {c : Code} {A : Nat → Prop} {D : va_G} {cs : Nat → ClassId} {ad : Nat → Nat} {tape_size : Int32} {tape_bytes : Nat → Int32} {lr_size : Int32} {lr_at : Int32} {lr_fault : Int32} {R : Int32 × Unit} (C0 : zC p s m args meth c cX5_operatorAt 3 (some .int) RX5 zW) (hK : va_K D classes (zT cs) s) (hA : ∀ q : Nat, s.heap.size ≤ q → A q) (x1 : Int32) (h : B_X5_operatorAt_0 tape_size tape_bytes lr_size lr_at lr_fault x1 = some R) (H : Heap) (locs : List Loc) (ls : Array Slot) (hP : va_P D classes (wl_X5_operatorAt ad cs tape_size tape_bytes lr_size lr_at lr_fault) H) (hD : va_D A (wl_X5_operatorAt ad cs tape_size tape_bytes lr_size lr_at lr_fault)) (hS : va_S A s.heap H locs) (hl : lv_has ls 3 [(0, .ref (ad 26)), (1, .int x1)]) : W p l e rm_X5_operatorAt s m args below meth c H locs 0 0 (MQ below (Q_X5_operatorAt D cs ad tape_size tape_bytes lr_size lr_at lr_fault A R) args s 0 0 A) (F0 m 0 ls []) := by
  obtain ⟨hx, hb, hr, hml, hown, ht, hlocks⟩ := id C0
  refine lv_aload_n hx hb dX5_operatorAt_0 rfl (lv_at hl 0 rfl) ?_
  refine va_get (D := D) (ci := 5) (v := .ref (ad 23)) (C := RX5) (T := TX5) (N := 5) hx hb ht iX5 hown hK hP 2 rfl rfl 0 (by decide) (ht _ kw_274) (fun _ h9 => h9) rfl dX5_operatorAt_1 ?_
  refine lv_aload_n hx hb dX5_operatorAt_4 rfl (lv_at hl 0 rfl) ?_
  refine va_get (D := D) (ci := 5) (v := .int lr_at) (C := RX5) (T := TX5) (N := 5) hx hb ht iX5 hown hK hP 2 rfl rfl 3 (by decide) (ht _ kw_277) (fun _ h9 => h9) rfl dX5_operatorAt_5 ?_
  obtain ⟨r_1, u_2, hc_3, h⟩ := zk_o2 h
  refine zk_vi (post := (fun r u => (r, u) = (r_1, u_2))) (w1 := fun u => (wl_X9_byteAt ad cs tape_size tape_bytes)) (As := [.int lr_at]) (rest := []) (c_X9_byteAt l D cs ad  H.size lr_at tape_size tape_bytes _ hc_3) ⟨hx, hb, hml, hown, ht⟩ (cwV 1 ht g_X5_68 rfl rfl rfl (by decide +kernel) ⟨Nat.le_of_ble_eq_true rfl, Nat.le_of_ble_eq_true rfl⟩) (va_recv hK hP (ci := 9) (q0 := 0) rfl rfl) hP hD hS hK hA [0, 1] [2] rfl rfl rfl rfl (by decide) rfl hl.1 (Nat.le_of_ble_eq_true rfl) dX5_operatorAt_8 ⟨Nat.zero_le _, Nat.zero_le _⟩ (fun r u H locs hq hP hD hS => ?_)
  cases hq
  have hP : va_P D classes (wl_X5_operatorAt ad cs tape_size tape_bytes lr_size lr_at lr_fault) H := hP.sub [1, 2, 0] rfl
  have hD : va_D A (wl_X5_operatorAt ad cs tape_size tape_bytes lr_size lr_at lr_fault) := hD.sub [1, 2, 0] rfl rfl
  refine lv_istore_n (lv' := [(2, .int r_1), (0, .ref (ad 26)), (1, .int x1)]) hx hb dX5_operatorAt_11 rfl hl (by decide) rfl (fun ls hl => ?_)
  refine lv_iload_n hx hb dX5_operatorAt_12 rfl (lv_at hl 2 rfl) ?_
  by_cases c_14 : x1 = (0 : Int32)
  · have h := zk_t c_14 h
    refine lv_tableIn (tgt := 44) hx hb dX5_operatorAt_13 (by rw [c_14]; decide) (by rw [c_14]; decide) (by rw [c_14]; rfl) (by decide) ?_
    refine lv_iload_n hx hb dX5_operatorAt_44 rfl (lv_at hl 0 rfl) ?_
    refine lv_bipush (v := (124 : Int32)) hx hb dX5_operatorAt_45 (by decide) ?_
    refine lv_icmp_ne (tgt := 55) hx hb dX5_operatorAt_47 (by decide) (fun c_4 => ?_) (fun c_4 => ?_)
    · have h := zk_f c_4 h
      refine lv_iconst (v := (-1 : Int32)) hx hb dX5_operatorAt_55 (by decide) ?_
      exact W.iret (v := (-1 : Int32)) hx hb hr (fun t ht2 hW => ⟨⟨(-1 : Int32), (), rfl, Option.some.inj h, by rw [ht2]; exact hP, hD⟩, hS.F ht2⟩) hS.2.2 dX5_operatorAt_56 hlocks
    · have h := zk_t c_4 h
      refine lv_bipush (v := (6 : Int32)) hx hb dX5_operatorAt_50 (by decide) ?_
      refine lv_goto (tgt := 56) hx hb dX5_operatorAt_52 (by decide) ?_
      exact W.iret (v := (6 : Int32)) hx hb hr (fun t ht2 hW => ⟨⟨(6 : Int32), (), rfl, Option.some.inj h, by rw [ht2]; exact hP, hD⟩, hS.F ht2⟩) hS.2.2 dX5_operatorAt_56 hlocks
  · have h := zk_f c_14 h
    by_cases c_15 : x1 = (1 : Int32)
    · have h := zk_t c_15 h
      refine lv_tableIn (tgt := 57) hx hb dX5_operatorAt_13 (by rw [c_15]; decide) (by rw [c_15]; decide) (by rw [c_15]; rfl) (by decide) ?_
      refine lv_iload_n hx hb dX5_operatorAt_57 rfl (lv_at hl 0 rfl) ?_
      refine lv_bipush (v := (38 : Int32)) hx hb dX5_operatorAt_58 (by decide) ?_
      refine lv_icmp_ne (tgt := 68) hx hb dX5_operatorAt_60 (by decide) (fun c_5 => ?_) (fun c_5 => ?_)
      · have h := zk_f c_5 h
        refine lv_iconst (v := (-1 : Int32)) hx hb dX5_operatorAt_68 (by decide) ?_
        exact W.iret (v := (-1 : Int32)) hx hb hr (fun t ht2 hW => ⟨⟨(-1 : Int32), (), rfl, Option.some.inj h, by rw [ht2]; exact hP, hD⟩, hS.F ht2⟩) hS.2.2 dX5_operatorAt_69 hlocks
      · have h := zk_t c_5 h
        refine lv_bipush (v := (7 : Int32)) hx hb dX5_operatorAt_63 (by decide) ?_
        refine lv_goto (tgt := 69) hx hb dX5_operatorAt_65 (by decide) ?_
        exact W.iret (v := (7 : Int32)) hx hb hr (fun t ht2 hW => ⟨⟨(7 : Int32), (), rfl, Option.some.inj h, by rw [ht2]; exact hP, hD⟩, hS.F ht2⟩) hS.2.2 dX5_operatorAt_69 hlocks
    · have h := zk_f c_15 h
      by_cases c_16 : x1 = (2 : Int32)
      · have h := zk_t c_16 h
        refine lv_tableIn (tgt := 70) hx hb dX5_operatorAt_13 (by rw [c_16]; decide) (by rw [c_16]; decide) (by rw [c_16]; rfl) (by decide) ?_
        refine lv_iload_n hx hb dX5_operatorAt_70 rfl (lv_at hl 0 rfl) ?_
        refine lv_bipush (v := (60 : Int32)) hx hb dX5_operatorAt_71 (by decide) ?_
        refine lv_icmp_ne (tgt := 81) hx hb dX5_operatorAt_73 (by decide) (fun c_6 => ?_) (fun c_6 => ?_)
        · have h := zk_f c_6 h
          refine lv_iload_n hx hb dX5_operatorAt_81 rfl (lv_at hl 0 rfl) ?_
          refine lv_bipush (v := (61 : Int32)) hx hb dX5_operatorAt_82 (by decide) ?_
          refine lv_icmp_ne (tgt := 92) hx hb dX5_operatorAt_84 (by decide) (fun c_7 => ?_) (fun c_7 => ?_)
          · have h := zk_f c_7 h
            refine lv_iload_n hx hb dX5_operatorAt_92 rfl (lv_at hl 0 rfl) ?_
            refine lv_bipush (v := (62 : Int32)) hx hb dX5_operatorAt_93 (by decide) ?_
            refine lv_icmp_ne (tgt := 103) hx hb dX5_operatorAt_95 (by decide) (fun c_8 => ?_) (fun c_8 => ?_)
            · have h := zk_f c_8 h
              refine lv_iconst (v := (-1 : Int32)) hx hb dX5_operatorAt_103 (by decide) ?_
              exact W.iret (v := (-1 : Int32)) hx hb hr (fun t ht2 hW => ⟨⟨(-1 : Int32), (), rfl, Option.some.inj h, by rw [ht2]; exact hP, hD⟩, hS.F ht2⟩) hS.2.2 dX5_operatorAt_104 hlocks
            · have h := zk_t c_8 h
              refine lv_bipush (v := (10 : Int32)) hx hb dX5_operatorAt_98 (by decide) ?_
              refine lv_goto (tgt := 104) hx hb dX5_operatorAt_100 (by decide) ?_
              exact W.iret (v := (10 : Int32)) hx hb hr (fun t ht2 hW => ⟨⟨(10 : Int32), (), rfl, Option.some.inj h, by rw [ht2]; exact hP, hD⟩, hS.F ht2⟩) hS.2.2 dX5_operatorAt_104 hlocks
          · have h := zk_t c_7 h
            refine lv_bipush (v := (9 : Int32)) hx hb dX5_operatorAt_87 (by decide) ?_
            refine lv_goto (tgt := 104) hx hb dX5_operatorAt_89 (by decide) ?_
            exact W.iret (v := (9 : Int32)) hx hb hr (fun t ht2 hW => ⟨⟨(9 : Int32), (), rfl, Option.some.inj h, by rw [ht2]; exact hP, hD⟩, hS.F ht2⟩) hS.2.2 dX5_operatorAt_104 hlocks
        · have h := zk_t c_6 h
          refine lv_bipush (v := (8 : Int32)) hx hb dX5_operatorAt_76 (by decide) ?_
          refine lv_goto (tgt := 104) hx hb dX5_operatorAt_78 (by decide) ?_
          exact W.iret (v := (8 : Int32)) hx hb hr (fun t ht2 hW => ⟨⟨(8 : Int32), (), rfl, Option.some.inj h, by rw [ht2]; exact hP, hD⟩, hS.F ht2⟩) hS.2.2 dX5_operatorAt_104 hlocks
      · have h := zk_f c_16 h
        by_cases c_17 : x1 = (3 : Int32)
        · have h := zk_t c_17 h
          refine lv_tableIn (tgt := 105) hx hb dX5_operatorAt_13 (by rw [c_17]; decide) (by rw [c_17]; decide) (by rw [c_17]; rfl) (by decide) ?_
          refine lv_iload_n hx hb dX5_operatorAt_105 rfl (lv_at hl 0 rfl) ?_
          refine lv_bipush (v := (43 : Int32)) hx hb dX5_operatorAt_106 (by decide) ?_
          refine lv_icmp_ne (tgt := 116) hx hb dX5_operatorAt_108 (by decide) (fun c_9 => ?_) (fun c_9 => ?_)
          · have h := zk_f c_9 h
            refine lv_iload_n hx hb dX5_operatorAt_116 rfl (lv_at hl 0 rfl) ?_
            refine lv_bipush (v := (45 : Int32)) hx hb dX5_operatorAt_117 (by decide) ?_
            refine lv_icmp_ne (tgt := 127) hx hb dX5_operatorAt_119 (by decide) (fun c_10 => ?_) (fun c_10 => ?_)
            · have h := zk_f c_10 h
              refine lv_iconst (v := (-1 : Int32)) hx hb dX5_operatorAt_127 (by decide) ?_
              exact W.iret (v := (-1 : Int32)) hx hb hr (fun t ht2 hW => ⟨⟨(-1 : Int32), (), rfl, Option.some.inj h, by rw [ht2]; exact hP, hD⟩, hS.F ht2⟩) hS.2.2 dX5_operatorAt_128 hlocks
            · have h := zk_t c_10 h
              refine lv_bipush (v := (12 : Int32)) hx hb dX5_operatorAt_122 (by decide) ?_
              refine lv_goto (tgt := 128) hx hb dX5_operatorAt_124 (by decide) ?_
              exact W.iret (v := (12 : Int32)) hx hb hr (fun t ht2 hW => ⟨⟨(12 : Int32), (), rfl, Option.some.inj h, by rw [ht2]; exact hP, hD⟩, hS.F ht2⟩) hS.2.2 dX5_operatorAt_128 hlocks
          · have h := zk_t c_9 h
            refine lv_bipush (v := (11 : Int32)) hx hb dX5_operatorAt_111 (by decide) ?_
            refine lv_goto (tgt := 128) hx hb dX5_operatorAt_113 (by decide) ?_
            exact W.iret (v := (11 : Int32)) hx hb hr (fun t ht2 hW => ⟨⟨(11 : Int32), (), rfl, Option.some.inj h, by rw [ht2]; exact hP, hD⟩, hS.F ht2⟩) hS.2.2 dX5_operatorAt_128 hlocks
        · have h := zk_f c_17 h
          refine lv_tableOut (tgt := 129) hx hb dX5_operatorAt_13 (zk_out (lo := 0) (hi := 3) [(0 : Int32), (1 : Int32), (2 : Int32), (3 : Int32)] (by decide +kernel) (List.forall_mem_cons.mpr ⟨c_14, List.forall_mem_cons.mpr ⟨c_15, List.forall_mem_cons.mpr ⟨c_16, List.forall_mem_cons.mpr ⟨c_17, fun _ h => absurd h List.not_mem_nil⟩⟩⟩⟩)) (by decide) ?_
          refine lv_iload_n hx hb dX5_operatorAt_129 rfl (lv_at hl 0 rfl) ?_
          refine lv_bipush (v := (42 : Int32)) hx hb dX5_operatorAt_130 (by decide) ?_
          refine lv_icmp_ne (tgt := 140) hx hb dX5_operatorAt_132 (by decide) (fun c_11 => ?_) (fun c_11 => ?_)
          · have h := zk_f c_11 h
            refine lv_iload_n hx hb dX5_operatorAt_140 rfl (lv_at hl 0 rfl) ?_
            refine lv_bipush (v := (47 : Int32)) hx hb dX5_operatorAt_141 (by decide) ?_
            refine lv_icmp_ne (tgt := 151) hx hb dX5_operatorAt_143 (by decide) (fun c_12 => ?_) (fun c_12 => ?_)
            · have h := zk_f c_12 h
              refine lv_iload_n hx hb dX5_operatorAt_151 rfl (lv_at hl 0 rfl) ?_
              refine lv_bipush (v := (37 : Int32)) hx hb dX5_operatorAt_152 (by decide) ?_
              refine lv_icmp_ne (tgt := 162) hx hb dX5_operatorAt_154 (by decide) (fun c_13 => ?_) (fun c_13 => ?_)
              · have h := zk_f c_13 h
                refine lv_iconst (v := (-1 : Int32)) hx hb dX5_operatorAt_162 (by decide) ?_
                exact W.iret (v := (-1 : Int32)) hx hb hr (fun t ht2 hW => ⟨⟨(-1 : Int32), (), rfl, Option.some.inj h, by rw [ht2]; exact hP, hD⟩, hS.F ht2⟩) hS.2.2 dX5_operatorAt_163 hlocks
              · have h := zk_t c_13 h
                refine lv_bipush (v := (15 : Int32)) hx hb dX5_operatorAt_157 (by decide) ?_
                refine lv_goto (tgt := 163) hx hb dX5_operatorAt_159 (by decide) ?_
                exact W.iret (v := (15 : Int32)) hx hb hr (fun t ht2 hW => ⟨⟨(15 : Int32), (), rfl, Option.some.inj h, by rw [ht2]; exact hP, hD⟩, hS.F ht2⟩) hS.2.2 dX5_operatorAt_163 hlocks
            · have h := zk_t c_12 h
              refine lv_bipush (v := (14 : Int32)) hx hb dX5_operatorAt_146 (by decide) ?_
              refine lv_goto (tgt := 163) hx hb dX5_operatorAt_148 (by decide) ?_
              exact W.iret (v := (14 : Int32)) hx hb hr (fun t ht2 hW => ⟨⟨(14 : Int32), (), rfl, Option.some.inj h, by rw [ht2]; exact hP, hD⟩, hS.F ht2⟩) hS.2.2 dX5_operatorAt_163 hlocks
          · have h := zk_t c_11 h
            refine lv_bipush (v := (13 : Int32)) hx hb dX5_operatorAt_135 (by decide) ?_
            refine lv_goto (tgt := 163) hx hb dX5_operatorAt_137 (by decide) ?_
            exact W.iret (v := (13 : Int32)) hx hb hr (fun t ht2 hW => ⟨⟨(13 : Int32), (), rfl, Option.some.inj h, by rw [ht2]; exact hP, hD⟩, hS.F ht2⟩) hS.2.2 dX5_operatorAt_163 hlocks
set_option maxHeartbeats 4000000 in
set_option maxRecDepth 100000 in
theorem c_X5_operatorAt (l : Launch) (D : va_G) (cs : Nat → ClassId) (ad : Nat → Nat) (sz : Nat) (x1 : Int32) (tape_size : Int32) (tape_bytes : Nat → Int32) (lr_size : Int32) (lr_at : Int32) (lr_fault : Int32) (R : Int32 × Unit) (h : f_X5_operatorAt  x1 tape_size tape_bytes lr_size lr_at lr_fault = some R) : Met l yX5_operatorAt (z_X5_operatorAt) rm_X5_operatorAt (va_Pc [.ref (ad 26), .int x1] (zPre D cs (wl_X5_operatorAt ad cs tape_size tape_bytes lr_size lr_at lr_fault) sz)) (Q_X5_operatorAt D cs ad tape_size tape_bytes lr_size lr_at lr_fault (va_A (wl_X5_operatorAt ad cs tape_size tape_bytes lr_size lr_at lr_fault) sz) R) 0 0 (va_A (wl_X5_operatorAt ad cs tape_size tape_bytes lr_size lr_at lr_fault) sz) := by
  refine Met.ofW (cc := cX5_operatorAt) (maxL := 3) (ret := (some .int)) (by decide) rfl ?_
  intro p e s m args below meth c s₁ B hml hv
  obtain ⟨rfl, hsz, hP, hK, hD0⟩ := hv
  subst hsz
  have hD := hD0.self (sz := s.heap.size)
  have C0 : zC p s m _ meth c cX5_operatorAt 3 (some .int) RX5 zW := ⟨B.exec, B.bytes, B.returns, hml, findClass_of_methodNamed B.named, fun w hw => atoms_spec (ws := z_X5_operatorAt) B.pre w (List.mem_cons_of_mem _ hw), B.notSynchronized⟩
  have hA : ∀ q : Nat, s.heap.size ≤ q → va_A (wl_X5_operatorAt ad cs tape_size tape_bytes lr_size lr_at lr_fault) s.heap.size q := fun q h => Or.inr h
  have hl := lv_entry ([.ref (ad 26), .int x1]) (n := 3) (Nat.le_of_ble_eq_true rfl)
  rw [lg_entry_eq]
  generalize (lg_sl ([.ref (ad 26), .int x1]) ++ List.replicate (3 - (lg_sl ([.ref (ad 26), .int x1])).length) Slot.unset).toArray = ls at hl ⊢
  exact L_X5_operatorAt_0 C0 hK hA   x1  h s.heap [] ls hP hD va_S.rf hl
theorem kw_557 : Cond.methodLink RX5 71 yX9_isDigitAt ∈ zW := zwI (i := 557) (by decide +kernel) (by decide +kernel)
theorem kw_558 : Cond.instanceMethod yX9_isDigitAt ∈ zW := zwI (i := 558) (by decide +kernel) (by decide +kernel)
theorem kw_559 : Cond.selects RX9 yX9_isDigitAt yX9_isDigitAt ∈ zW := zwI (i := 559) (by decide +kernel) (by decide +kernel)
theorem kw_560 : Cond.code yX9_isDigitAt cX9_isDigitAt 3 (some .boolean) ∈ zW := zwI (i := 560) (by decide +kernel) (by decide +kernel)
theorem kw_566 : Cond.methodLink RX5 57 yX5_emit ∈ zW := zwI (i := 566) (by decide +kernel) (by decide +kernel)
theorem kw_567 : Cond.instanceMethod yX5_emit ∈ zW := zwI (i := 567) (by decide +kernel) (by decide +kernel)
theorem kw_568 : Cond.selects RX5 yX5_emit yX5_emit ∈ zW := zwI (i := 568) (by decide +kernel) (by decide +kernel)
theorem kw_569 : Cond.code yX5_emit cX5_emit 2 none ∈ zW := zwI (i := 569) (by decide +kernel) (by decide +kernel)
theorem dX5_readNumber_0 : decode cX5_readNumber 0 = .ok (.iconst 0, 1) := by decide +kernel
theorem dX5_readNumber_1 : decode cX5_readNumber 1 = .ok (.istore_n 1, 1) := by decide +kernel
theorem dX5_readNumber_2 : decode cX5_readNumber 2 = .ok (.iconst 0, 1) := by decide +kernel
theorem dX5_readNumber_3 : decode cX5_readNumber 3 = .ok (.istore_n 2, 1) := by decide +kernel
theorem dX5_readNumber_4 : decode cX5_readNumber 4 = .ok (.iload_n 2, 1) := by decide +kernel
theorem dX5_readNumber_5 : decode cX5_readNumber 5 = .ok (.iconst 4, 1) := by decide +kernel
theorem dX5_readNumber_6 : decode cX5_readNumber 6 = .ok (.if_icmp .ge 53, 3) := by decide +kernel
theorem dX5_readNumber_9 : decode cX5_readNumber 9 = .ok (.aload_n 0, 1) := by decide +kernel
theorem dX5_readNumber_10 : decode cX5_readNumber 10 = .ok (.getfield 15, 3) := by decide +kernel
theorem dX5_readNumber_13 : decode cX5_readNumber 13 = .ok (.aload_n 0, 1) := by decide +kernel
theorem dX5_readNumber_14 : decode cX5_readNumber 14 = .ok (.getfield 19, 3) := by decide +kernel
theorem dX5_readNumber_17 : decode cX5_readNumber 17 = .ok (.invokevirtual 71, 3) := by decide +kernel
theorem dX5_readNumber_20 : decode cX5_readNumber 20 = .ok (.ifCond .eq 39, 3) := by decide +kernel
theorem dX5_readNumber_23 : decode cX5_readNumber 23 = .ok (.iload_n 1, 1) := by decide +kernel
theorem dX5_readNumber_24 : decode cX5_readNumber 24 = .ok (.bipush 10, 2) := by decide +kernel
theorem dX5_readNumber_26 : decode cX5_readNumber 26 = .ok (.imul, 1) := by decide +kernel
theorem dX5_readNumber_27 : decode cX5_readNumber 27 = .ok (.aload_n 0, 1) := by decide +kernel
theorem dX5_readNumber_28 : decode cX5_readNumber 28 = .ok (.getfield 15, 3) := by decide +kernel
theorem dX5_readNumber_31 : decode cX5_readNumber 31 = .ok (.aload_n 0, 1) := by decide +kernel
theorem dX5_readNumber_32 : decode cX5_readNumber 32 = .ok (.getfield 19, 3) := by decide +kernel
theorem dX5_readNumber_35 : decode cX5_readNumber 35 = .ok (.invokevirtual 68, 3) := by decide +kernel
theorem dX5_readNumber_38 : decode cX5_readNumber 38 = .ok (.iadd, 1) := by decide +kernel
theorem dX5_readNumber_39 : decode cX5_readNumber 39 = .ok (.bipush 48, 2) := by decide +kernel
theorem dX5_readNumber_41 : decode cX5_readNumber 41 = .ok (.isub, 1) := by decide +kernel
theorem dX5_readNumber_42 : decode cX5_readNumber 42 = .ok (.istore_n 1, 1) := by decide +kernel
theorem dX5_readNumber_43 : decode cX5_readNumber 43 = .ok (.aload_n 0, 1) := by decide +kernel
theorem dX5_readNumber_44 : decode cX5_readNumber 44 = .ok (.dup, 1) := by decide +kernel
theorem dX5_readNumber_45 : decode cX5_readNumber 45 = .ok (.getfield 19, 3) := by decide +kernel
theorem dX5_readNumber_48 : decode cX5_readNumber 48 = .ok (.iconst 1, 1) := by decide +kernel
theorem dX5_readNumber_49 : decode cX5_readNumber 49 = .ok (.iadd, 1) := by decide +kernel
theorem dX5_readNumber_50 : decode cX5_readNumber 50 = .ok (.putfield 19, 3) := by decide +kernel
theorem dX5_readNumber_53 : decode cX5_readNumber 53 = .ok (.iinc 2 1, 3) := by decide +kernel
theorem dX5_readNumber_56 : decode cX5_readNumber 56 = .ok (.goto (-52), 3) := by decide +kernel
theorem dX5_readNumber_59 : decode cX5_readNumber 59 = .ok (.aload_n 0, 1) := by decide +kernel
theorem dX5_readNumber_60 : decode cX5_readNumber 60 = .ok (.iload_n 1, 1) := by decide +kernel
theorem dX5_readNumber_61 : decode cX5_readNumber 61 = .ok (.iconst 5, 1) := by decide +kernel
theorem dX5_readNumber_62 : decode cX5_readNumber 62 = .ok (.ishl, 1) := by decide +kernel
theorem dX5_readNumber_63 : decode cX5_readNumber 63 = .ok (.iconst 0, 1) := by decide +kernel
theorem dX5_readNumber_64 : decode cX5_readNumber 64 = .ok (.ior, 1) := by decide +kernel
theorem dX5_readNumber_65 : decode cX5_readNumber 65 = .ok (.invokevirtual 57, 3) := by decide +kernel
theorem dX5_readNumber_68 : decode cX5_readNumber 68 = .ok (.return_, 1) := by decide +kernel
abbrev z_X5_readNumber : List Cond := .code yX5_readNumber cX5_readNumber 3 none :: zW
abbrev wl_X5_readNumber (ad : Nat → Nat) (cs : Nat → ClassId)  (tape_size : Int32) (tape_bytes : Nat → Int32) (lr_size : Int32) (lr_at : Int32) (lr_fault : Int32) (lr_code : Nat → Int32) : va_W := [((ad 23), .inr (9, [.ref (ad 24), .int tape_size])), ((ad 24), .inl (cs 0, 120, .inl tape_bytes)), ((ad 26), .inr (5, [.ref (ad 23), .ref (ad 27), .int lr_size, .int lr_at, .int lr_fault])), ((ad 27), .inl (cs 0, 121, .inl lr_code))]
def Q_X5_readNumber (D : va_G) (cs : Nat → ClassId) (ad : Nat → Nat)  (tape_size : Int32) (tape_bytes : Nat → Int32) (lr_fault : Int32) (A : Nat → Prop) (R : Int32 × Int32 × (Nat → Int32)) : Array Value → State → Outcome → State → Prop :=
  va_Qv (fun u : Int32 × Int32 × (Nat → Int32) => u = R) (fun (u : Int32 × Int32 × (Nat → Int32)) (t : State) => va_P D classes (wl_X5_readNumber ad cs tape_size tape_bytes u.1 u.2.1 lr_fault u.2.2) t.heap ∧ va_D A (wl_X5_readNumber ad cs tape_size tape_bytes u.1 u.2.1 lr_fault u.2.2)) A
abbrev rm_X5_readNumber : Room := { frames := 2, cells := 0, slots := 0, locals := 43 }
theorem g_X5_57 : GoodIn zW (wsV RX5 57 RX5 yX5_emit z_X5_emit) := zGV kw_566 kw_567 kw_568 kw_80 kw_569
theorem g_X5_71 : GoodIn zW (wsV RX5 71 RX9 yX9_isDigitAt z_X9_isDigitAt) := zGV kw_557 kw_558 kw_559 kw_78 kw_560
def B_X5_readNumber_59  (g4 : Int32 → Int32 → Int32 → Int32 → (Nat → Int32) → (Option (Int32 × Int32 × (Nat → Int32)))) (tape_size : Int32) (tape_bytes : Nat → Int32) (lr_fault : Int32) (x1 : Int32) (lr_size : Int32) (lr_at : Int32) (lr_code : Nat → Int32) : Option (Int32 × Int32 × (Nat → Int32)) :=
  (zk_b2 (f_X5_emit ((x1 <<< ((5 : Int32) &&& 31)) ||| (0 : Int32)) lr_size lr_at lr_fault lr_code) (fun u_12 u_13 => (some (u_12, lr_at, u_13))))
def B_X5_readNumber_4  (g4 : Int32 → Int32 → Int32 → Int32 → (Nat → Int32) → (Option (Int32 × Int32 × (Nat → Int32)))) (tape_size : Int32) (tape_bytes : Nat → Int32) (lr_fault : Int32) (x1 : Int32) (x2 : Int32) (lr_size : Int32) (lr_at : Int32) (lr_code : Nat → Int32) : Option (Int32 × Int32 × (Nat → Int32)) :=
  (if (4 : Int32) ≤ x2 then (B_X5_readNumber_59 g4 tape_size tape_bytes lr_fault x1 lr_size lr_at lr_code) else (zk_b2 (f_X9_isDigitAt lr_at tape_size tape_bytes) (fun r_2 u_3 => (if r_2 = 0 then (B_X5_readNumber_59 g4 tape_size tape_bytes lr_fault x1 lr_size lr_at lr_code) else (zk_b2 (f_X9_byteAt lr_at tape_size tape_bytes) (fun r_6 u_7 => (zk_let (((x1 * (10 : Int32)) + r_6) - (48 : Int32)) (fun v_9 => (zk_let (lr_at + (1 : Int32)) (fun v_10 => (zk_let (x2 + (1 : Int32)) (fun v_11 => (g4 v_9 v_11 lr_size v_10 lr_code)))))))))))))
def B_X5_readNumber_0  (g4 : Int32 → Int32 → Int32 → Int32 → (Nat → Int32) → (Option (Int32 × Int32 × (Nat → Int32)))) (tape_size : Int32) (tape_bytes : Nat → Int32) (lr_fault : Int32) (lr_size : Int32) (lr_at : Int32) (lr_code : Nat → Int32) : Option (Int32 × Int32 × (Nat → Int32)) :=
  (g4 (0 : Int32) (0 : Int32) lr_size lr_at lr_code)
def G_X5_readNumber  (tape_size : Int32) (tape_bytes : Nat → Int32) (lr_fault : Int32) (n : Nat) : (Int32 → Int32 → Int32 → Int32 → (Nat → Int32) → (Option (Int32 × Int32 × (Nat → Int32)))) :=
  Nat.rec (motive := fun _ => (Int32 → Int32 → Int32 → Int32 → (Nat → Int32) → (Option (Int32 × Int32 × (Nat → Int32))))) ((fun _ _ _ _ _ => none)) (fun _ ih => (B_X5_readNumber_4  ih tape_size tape_bytes lr_fault)) n
def f_X5_readNumber  (n : Nat)  (tape_size : Int32) (tape_bytes : Nat → Int32) (lr_size : Int32) (lr_at : Int32) (lr_fault : Int32) (lr_code : Nat → Int32) : Option (Int32 × Int32 × (Nat → Int32)) := B_X5_readNumber_0  ((G_X5_readNumber  tape_size tape_bytes lr_fault n)) tape_size tape_bytes lr_fault  lr_size lr_at lr_code
set_option maxHeartbeats 4000000 in
set_option maxRecDepth 100000 in
theorem L_X5_readNumber_59 {p : Program} {l : Launch} {e : Env} {s : State} {m : MethodId} {args : Array Value} {below : List Frame} {meth : Method} {c : Code} {A : Nat → Prop} {D : va_G} {cs : Nat → ClassId} {ad : Nat → Nat} {tape_size : Int32} {tape_bytes : Nat → Int32} {lr_fault : Int32} {R : Int32 × Int32 × (Nat → Int32)} {g4 : Int32 → Int32 → Int32 → Int32 → (Nat → Int32) → (Option (Int32 × Int32 × (Nat → Int32)))} (C0 : zC p s m args meth c cX5_readNumber 3 none RX5 zW) (hK : va_K D classes (zT cs) s) (hA : ∀ q : Nat, s.heap.size ≤ q → A q) (ih4 : ∀ (x1 : Int32) (x2 : Int32) (lr_size : Int32) (lr_at : Int32) (lr_code : Nat → Int32) (h : g4 x1 x2 lr_size lr_at lr_code = some R) (H : Heap) (locs : List Loc) (ls : Array Slot) (hP : va_P D classes (wl_X5_readNumber ad cs tape_size tape_bytes lr_size lr_at lr_fault lr_code) H) (hD : va_D A (wl_X5_readNumber ad cs tape_size tape_bytes lr_size lr_at lr_fault lr_code)) (hS : va_S A s.heap H locs) (hl : lv_has ls 3 [(0, .ref (ad 26)), (1, .int x1), (2, .int x2)]), W p l e rm_X5_readNumber s m args below meth c H locs 0 0 (MQ below (Q_X5_readNumber D cs ad tape_size tape_bytes lr_fault A R) args s 0 0 A) (F0 m 4 ls [])) (x1 : Int32) (lr_size : Int32) (lr_at : Int32) (lr_code : Nat → Int32) (h : B_X5_readNumber_59 g4 tape_size tape_bytes lr_fault x1 lr_size lr_at lr_code = some R) (H : Heap) (locs : List Loc) (ls : Array Slot) (hP : va_P D classes (wl_X5_readNumber ad cs tape_size tape_bytes lr_size lr_at lr_fault lr_code) H) (hD : va_D A (wl_X5_readNumber ad cs tape_size tape_bytes lr_size lr_at lr_fault lr_code)) (hS : va_S A s.heap H locs) (hl : lv_has ls 3 [(0, .ref (ad 26)), (1, .int x1)]) : W p l e rm_X5_readNumber s m args below meth c H locs 0 0 (MQ below (Q_X5_readNumber D cs ad tape_size tape_bytes lr_fault A R) args s 0 0 A) (F0 m 59 ls []) := by
  obtain ⟨hx, hb, hr, hml, hown, ht, hlocks⟩ := id C0
  refine lv_aload_n hx hb dX5_readNumber_59 rfl (lv_at hl 0 rfl) ?_
  refine lv_iload_n hx hb dX5_readNumber_60 rfl (lv_at hl 1 rfl) ?_
  refine lv_iconst (v := (5 : Int32)) hx hb dX5_readNumber_61 (by decide) ?_
  refine lv_ishl hx hb dX5_readNumber_62 ?_
  refine lv_iconst (v := (0 : Int32)) hx hb dX5_readNumber_63 (by decide) ?_
  refine lv_ior hx hb dX5_readNumber_64 ?_
  obtain ⟨u_12, u_13, hc_14, h⟩ := zk_o2 h
  refine zk_vv (post := (fun u => u = (u_12, u_13))) (w1 := fun u => (wl_X5_emit ad cs u.1 lr_at lr_fault u.2)) (As := [.int ((x1 <<< ((5 : Int32) &&& 31)) ||| (0 : Int32))]) (rest := []) (c_X5_emit l D cs ad  H.size ((x1 <<< ((5 : Int32) &&& 31)) ||| (0 : Int32)) lr_size lr_at lr_fault lr_code _ hc_14) ⟨hx, hb, hml, hown, ht⟩ (cwV 1 ht g_X5_57 rfl rfl rfl (by decide +kernel) ⟨Nat.le_of_ble_eq_true rfl, Nat.le_of_ble_eq_true rfl⟩) (va_recv hK hP (ci := 5) (q0 := 2) rfl rfl) hP hD hS hK hA [2, 3] [0, 1] rfl rfl rfl rfl (by decide) rfl hl.1 (Nat.le_of_ble_eq_true rfl) dX5_readNumber_65 ⟨Nat.zero_le _, Nat.zero_le _⟩ (fun u H locs hq hP hD hS => ?_)
  cases hq
  have hP : va_P D classes (wl_X5_readNumber ad cs tape_size tape_bytes u_12 lr_at lr_fault u_13) H := hP.sub [0, 1, 2, 3] rfl
  have hD : va_D A (wl_X5_readNumber ad cs tape_size tape_bytes u_12 lr_at lr_fault u_13) := hD.sub [0, 1, 2, 3] rfl rfl
  exact W.vret hx hb hr (fun t ht2 hW => ⟨⟨(u_12, lr_at, u_13), rfl, Option.some.inj h, by rw [ht2]; exact hP, hD⟩, hS.F ht2⟩) hS.2.2 dX5_readNumber_68 hlocks
set_option maxHeartbeats 4000000 in
set_option maxRecDepth 100000 in
theorem L_X5_readNumber_4 {p : Program} {l : Launch} {e : Env} {s : State} {m : MethodId} {args : Array Value} {below : List Frame} {meth : Method} {c : Code} {A : Nat → Prop} {D : va_G} {cs : Nat → ClassId} {ad : Nat → Nat} {tape_size : Int32} {tape_bytes : Nat → Int32} {lr_fault : Int32} {R : Int32 × Int32 × (Nat → Int32)} {g4 : Int32 → Int32 → Int32 → Int32 → (Nat → Int32) → (Option (Int32 × Int32 × (Nat → Int32)))} (C0 : zC p s m args meth c cX5_readNumber 3 none RX5 zW) (hK : va_K D classes (zT cs) s) (hA : ∀ q : Nat, s.heap.size ≤ q → A q) (ih4 : ∀ (x1 : Int32) (x2 : Int32) (lr_size : Int32) (lr_at : Int32) (lr_code : Nat → Int32) (h : g4 x1 x2 lr_size lr_at lr_code = some R) (H : Heap) (locs : List Loc) (ls : Array Slot) (hP : va_P D classes (wl_X5_readNumber ad cs tape_size tape_bytes lr_size lr_at lr_fault lr_code) H) (hD : va_D A (wl_X5_readNumber ad cs tape_size tape_bytes lr_size lr_at lr_fault lr_code)) (hS : va_S A s.heap H locs) (hl : lv_has ls 3 [(0, .ref (ad 26)), (1, .int x1), (2, .int x2)]), W p l e rm_X5_readNumber s m args below meth c H locs 0 0 (MQ below (Q_X5_readNumber D cs ad tape_size tape_bytes lr_fault A R) args s 0 0 A) (F0 m 4 ls [])) (x1 : Int32) (x2 : Int32) (lr_size : Int32) (lr_at : Int32) (lr_code : Nat → Int32) (h : B_X5_readNumber_4 g4 tape_size tape_bytes lr_fault x1 x2 lr_size lr_at lr_code = some R) (H : Heap) (locs : List Loc) (ls : Array Slot) (hP : va_P D classes (wl_X5_readNumber ad cs tape_size tape_bytes lr_size lr_at lr_fault lr_code) H) (hD : va_D A (wl_X5_readNumber ad cs tape_size tape_bytes lr_size lr_at lr_fault lr_code)) (hS : va_S A s.heap H locs) (hl : lv_has ls 3 [(0, .ref (ad 26)), (1, .int x1), (2, .int x2)]) : W p l e rm_X5_readNumber s m args below meth c H locs 0 0 (MQ below (Q_X5_readNumber D cs ad tape_size tape_bytes lr_fault A R) args s 0 0 A) (F0 m 4 ls []) := by
  obtain ⟨hx, hb, hr, hml, hown, ht, hlocks⟩ := id C0
  refine lv_iload_n hx hb dX5_readNumber_4 rfl (lv_at hl 2 rfl) ?_
  refine lv_iconst (v := (4 : Int32)) hx hb dX5_readNumber_5 (by decide) ?_
  refine lv_icmp_ge (tgt := 59) hx hb dX5_readNumber_6 (by decide) (fun c_1 => ?_) (fun c_1 => ?_)
  · have h := zk_t c_1 h
    exact L_X5_readNumber_59 C0 hK hA  ih4 x1 lr_size lr_at lr_code h H locs ls hP hD hS (lv_sub hl [0, 1] rfl)
  · have h := zk_f c_1 h
    refine lv_aload_n hx hb dX5_readNumber_9 rfl (lv_at hl 0 rfl) ?_
    refine va_get (D := D) (ci := 5) (v := .ref (ad 23)) (C := RX5) (T := TX5) (N := 5) hx hb ht iX5 hown hK hP 2 rfl rfl 0 (by decide) (ht _ kw_274) (fun _ h9 => h9) rfl dX5_readNumber_10 ?_
    refine lv_aload_n hx hb dX5_readNumber_13 rfl (lv_at hl 0 rfl) ?_
    refine va_get (D := D) (ci := 5) (v := .int lr_at) (C := RX5) (T := TX5) (N := 5) hx hb ht iX5 hown hK hP 2 rfl rfl 3 (by decide) (ht _ kw_277) (fun _ h9 => h9) rfl dX5_readNumber_14 ?_
    obtain ⟨r_2, u_3, hc_4, h⟩ := zk_o2 h
    refine zk_vi (post := (fun r u => (r, u) = (r_2, u_3))) (w1 := fun u => (wl_X9_isDigitAt ad cs tape_size tape_bytes)) (As := [.int lr_at]) (rest := []) (c_X9_isDigitAt l D cs ad  H.size lr_at tape_size tape_bytes _ hc_4) ⟨hx, hb, hml, hown, ht⟩ (cwV 1 ht g_X5_71 rfl rfl rfl (by decide +kernel) ⟨Nat.le_of_ble_eq_true rfl, Nat.le_of_ble_eq_true rfl⟩) (va_recv hK hP (ci := 9) (q0 := 0) rfl rfl) hP hD hS hK hA [0, 1] [2, 3] rfl rfl rfl rfl (by decide) rfl hl.1 (Nat.le_of_ble_eq_true rfl) dX5_readNumber_17 ⟨Nat.zero_le _, Nat.zero_le _⟩ (fun r u H locs hq hP hD hS => ?_)
    cases hq
    have hP : va_P D classes (wl_X5_readNumber ad cs tape_size tape_bytes lr_size lr_at lr_fault lr_code) H := hP.sub [2, 3, 0, 1] rfl
    have hD : va_D A (wl_X5_readNumber ad cs tape_size tape_bytes lr_size lr_at lr_fault lr_code) := hD.sub [2, 3, 0, 1] rfl rfl
    refine lv_if_eq (tgt := 59) hx hb dX5_readNumber_20 (by decide) (fun c_5 => ?_) (fun c_5 => ?_)
    · have h := zk_t c_5 h
      exact L_X5_readNumber_59 C0 hK hA  ih4 x1 lr_size lr_at lr_code h H locs ls hP hD hS (lv_sub hl [0, 1] rfl)
    · have h := zk_f c_5 h
      refine lv_iload_n hx hb dX5_readNumber_23 rfl (lv_at hl 1 rfl) ?_
      refine lv_bipush (v := (10 : Int32)) hx hb dX5_readNumber_24 (by decide) ?_
      refine lv_imul hx hb dX5_readNumber_26 ?_
      refine lv_aload_n hx hb dX5_readNumber_27 rfl (lv_at hl 0 rfl) ?_
      refine va_get (D := D) (ci := 5) (v := .ref (ad 23)) (C := RX5) (T := TX5) (N := 5) hx hb ht iX5 hown hK hP 2 rfl rfl 0 (by decide) (ht _ kw_274) (fun _ h9 => h9) rfl dX5_readNumber_28 ?_
      refine lv_aload_n hx hb dX5_readNumber_31 rfl (lv_at hl 0 rfl) ?_
      refine va_get (D := D) (ci := 5) (v := .int lr_at) (C := RX5) (T := TX5) (N := 5) hx hb ht iX5 hown hK hP 2 rfl rfl 3 (by decide) (ht _ kw_277) (fun _ h9 => h9) rfl dX5_readNumber_32 ?_
      obtain ⟨r_6, u_7, hc_8, h⟩ := zk_o2 h
      refine zk_vi (post := (fun r u => (r, u) = (r_6, u_7))) (w1 := fun u => (wl_X9_byteAt ad cs tape_size tape_bytes)) (As := [.int lr_at]) (rest := [.int (x1 * (10 : Int32))]) (c_X9_byteAt l D cs ad  H.size lr_at tape_size tape_bytes _ hc_8) ⟨hx, hb, hml, hown, ht⟩ (cwV 1 ht g_X5_68 rfl rfl rfl (by decide +kernel) ⟨Nat.le_of_ble_eq_true rfl, Nat.le_of_ble_eq_true rfl⟩) (va_recv hK hP (ci := 9) (q0 := 0) rfl rfl) hP hD hS hK hA [0, 1] [2, 3] rfl rfl rfl rfl (by decide) rfl hl.1 (Nat.le_of_ble_eq_true rfl) dX5_readNumber_35 ⟨Nat.zero_le _, Nat.zero_le _⟩ (fun r u H locs hq hP hD hS => ?_)
      cases hq
      have hP : va_P D classes (wl_X5_readNumber ad cs tape_size tape_bytes lr_size lr_at lr_fault lr_code) H := hP.sub [2, 3, 0, 1] rfl
      have hD : va_D A (wl_X5_readNumber ad cs tape_size tape_bytes lr_size lr_at lr_fault lr_code) := hD.sub [2, 3, 0, 1] rfl rfl
      refine lv_iadd hx hb dX5_readNumber_38 ?_
      refine lv_bipush (v := (48 : Int32)) hx hb dX5_readNumber_39 (by decide) ?_
      refine lv_isub hx hb dX5_readNumber_41 ?_
      obtain ⟨v_9, ev_9, h⟩ := zk_lt h
      refine W.eq (g2 := F0 m 42 ls [.int v_9]) (by rw [ev_9]) ?_
      refine lv_istore_n (lv' := [(1, .int v_9), (0, .ref (ad 26)), (2, .int x2)]) hx hb dX5_readNumber_42 rfl hl (by decide) rfl (fun ls hl => ?_)
      refine lv_aload_n hx hb dX5_readNumber_43 rfl (lv_at hl 1 rfl) ?_
      refine lv_dup hx hb dX5_readNumber_44 rfl ?_
      refine va_get (D := D) (ci := 5) (v := .int lr_at) (C := RX5) (T := TX5) (N := 5) hx hb ht iX5 hown hK hP 2 rfl rfl 3 (by decide) (ht _ kw_277) (fun _ h9 => h9) rfl dX5_readNumber_45 ?_
      refine lv_iconst (v := (1 : Int32)) hx hb dX5_readNumber_48 (by decide) ?_
      refine lv_iadd hx hb dX5_readNumber_49 ?_
      obtain ⟨v_10, ev_10, h⟩ := zk_lt h
      refine W.eq (g2 := F0 m 50 ls [.int v_10, .ref (ad 26)]) (by rw [ev_10]) ?_
      refine va_put (D := D) (ci := 5) (v := .int v_10) (ty := .int) (C := RX5) (T := TX5) (N := 5) hx hb ht iX5 tyX5 tyX5_ok nmX5 hown hK hP hD hS 2 rfl rfl 3 (by decide) (ht _ kw_277) (fun _ h9 => h9) rfl (by decide +kernel) rfl rfl (Nat.le_of_ble_eq_true rfl) dX5_readNumber_50 (fun H locs hP hD hS => ?_)
      have hP : va_P D classes (wl_X5_readNumber ad cs tape_size tape_bytes lr_size v_10 lr_fault lr_code) H := hP
      have hD : va_D A (wl_X5_readNumber ad cs tape_size tape_bytes lr_size v_10 lr_fault lr_code) := hD
      obtain ⟨v_11, ev_11, h⟩ := zk_lt h
      refine lv_iinc (v := v_11) (lv' := [(2, .int v_11), (1, .int v_9), (0, .ref (ad 26))]) hx hb dX5_readNumber_53 hl (k := 2) rfl (by rw [ev_11]; rfl) (by decide) rfl (fun ls hl => ?_)
      refine lv_goto (tgt := 4) hx hb dX5_readNumber_56 (by decide) ?_
      exact ih4 v_9 v_11 lr_size v_10 lr_code h H locs ls hP hD hS (lv_sub hl [2, 1, 0] rfl)
set_option maxHeartbeats 4000000 in
set_option maxRecDepth 100000 in
theorem L_X5_readNumber_0 {p : Program} {l : Launch} {e : Env} {s : State} {m : MethodId} {args : Array Value} {below : List Frame} {meth : Method} {c : Code} {A : Nat → Prop} {D : va_G} {cs : Nat → ClassId} {ad : Nat → Nat} {tape_size : Int32} {tape_bytes : Nat → Int32} {lr_fault : Int32} {R : Int32 × Int32 × (Nat → Int32)} {g4 : Int32 → Int32 → Int32 → Int32 → (Nat → Int32) → (Option (Int32 × Int32 × (Nat → Int32)))} (C0 : zC p s m args meth c cX5_readNumber 3 none RX5 zW) (hK : va_K D classes (zT cs) s) (hA : ∀ q : Nat, s.heap.size ≤ q → A q) (ih4 : ∀ (x1 : Int32) (x2 : Int32) (lr_size : Int32) (lr_at : Int32) (lr_code : Nat → Int32) (h : g4 x1 x2 lr_size lr_at lr_code = some R) (H : Heap) (locs : List Loc) (ls : Array Slot) (hP : va_P D classes (wl_X5_readNumber ad cs tape_size tape_bytes lr_size lr_at lr_fault lr_code) H) (hD : va_D A (wl_X5_readNumber ad cs tape_size tape_bytes lr_size lr_at lr_fault lr_code)) (hS : va_S A s.heap H locs) (hl : lv_has ls 3 [(0, .ref (ad 26)), (1, .int x1), (2, .int x2)]), W p l e rm_X5_readNumber s m args below meth c H locs 0 0 (MQ below (Q_X5_readNumber D cs ad tape_size tape_bytes lr_fault A R) args s 0 0 A) (F0 m 4 ls [])) (lr_size : Int32) (lr_at : Int32) (lr_code : Nat → Int32) (h : B_X5_readNumber_0 g4 tape_size tape_bytes lr_fault lr_size lr_at lr_code = some R) (H : Heap) (locs : List Loc) (ls : Array Slot) (hP : va_P D classes (wl_X5_readNumber ad cs tape_size tape_bytes lr_size lr_at lr_fault lr_code) H) (hD : va_D A (wl_X5_readNumber ad cs tape_size tape_bytes lr_size lr_at lr_fault lr_code)) (hS : va_S A s.heap H locs) (hl : lv_has ls 3 [(0, .ref (ad 26))]) : W p l e rm_X5_readNumber s m args below meth c H locs 0 0 (MQ below (Q_X5_readNumber D cs ad tape_size tape_bytes lr_fault A R) args s 0 0 A) (F0 m 0 ls []) := by
  obtain ⟨hx, hb, hr, hml, hown, ht, hlocks⟩ := id C0
  refine lv_iconst (v := (0 : Int32)) hx hb dX5_readNumber_0 (by decide) ?_
  refine lv_istore_n (lv' := [(1, .int (0 : Int32)), (0, .ref (ad 26))]) hx hb dX5_readNumber_1 rfl hl (by decide) rfl (fun ls hl => ?_)
  refine lv_iconst (v := (0 : Int32)) hx hb dX5_readNumber_2 (by decide) ?_
  refine lv_istore_n (lv' := [(2, .int (0 : Int32)), (1, .int (0 : Int32)), (0, .ref (ad 26))]) hx hb dX5_readNumber_3 rfl hl (by decide) rfl (fun ls hl => ?_)
  exact ih4 (0 : Int32) (0 : Int32) lr_size lr_at lr_code h H locs ls hP hD hS (lv_sub hl [2, 1, 0] rfl)
theorem LG_X5_readNumber {p : Program} {l : Launch} {e : Env} {s : State} {m : MethodId} {args : Array Value} {below : List Frame} {meth : Method} {c : Code} {A : Nat → Prop} {D : va_G} {cs : Nat → ClassId} {ad : Nat → Nat} {tape_size : Int32} {tape_bytes : Nat → Int32} {lr_fault : Int32} {R : Int32 × Int32 × (Nat → Int32)} (C0 : zC p s m args meth c cX5_readNumber 3 none RX5 zW) (hK : va_K D classes (zT cs) s) (hA : ∀ q : Nat, s.heap.size ≤ q → A q) : ∀ n : Nat, (∀ (x1 : Int32) (x2 : Int32) (lr_size : Int32) (lr_at : Int32) (lr_code : Nat → Int32) (h : (G_X5_readNumber  tape_size tape_bytes lr_fault n) x1 x2 lr_size lr_at lr_code = some R) (H : Heap) (locs : List Loc) (ls : Array Slot) (hP : va_P D classes (wl_X5_readNumber ad cs tape_size tape_bytes lr_size lr_at lr_fault lr_code) H) (hD : va_D A (wl_X5_readNumber ad cs tape_size tape_bytes lr_size lr_at lr_fault lr_code)) (hS : va_S A s.heap H locs) (hl : lv_has ls 3 [(0, .ref (ad 26)), (1, .int x1), (2, .int x2)]), W p l e rm_X5_readNumber s m args below meth c H locs 0 0 (MQ below (Q_X5_readNumber D cs ad tape_size tape_bytes lr_fault A R) args s 0 0 A) (F0 m 4 ls [])) := by
  intro n
  induction n with
  | zero =>
    refine ?_ <;> (intros; rename_i h _ _ _ _ _ _ _; cases h)
  | succ n ih =>
    exact L_X5_readNumber_4 C0 hK hA  ih
set_option maxHeartbeats 4000000 in
set_option maxRecDepth 100000 in
theorem c_X5_readNumber (l : Launch) (D : va_G) (cs : Nat → ClassId) (ad : Nat → Nat) (sz : Nat) (n : Nat)  (tape_size : Int32) (tape_bytes : Nat → Int32) (lr_size : Int32) (lr_at : Int32) (lr_fault : Int32) (lr_code : Nat → Int32) (R : Int32 × Int32 × (Nat → Int32)) (h : f_X5_readNumber  n  tape_size tape_bytes lr_size lr_at lr_fault lr_code = some R) : Met l yX5_readNumber (z_X5_readNumber) rm_X5_readNumber (va_Pc [.ref (ad 26)] (zPre D cs (wl_X5_readNumber ad cs tape_size tape_bytes lr_size lr_at lr_fault lr_code) sz)) (Q_X5_readNumber D cs ad tape_size tape_bytes lr_fault (va_A (wl_X5_readNumber ad cs tape_size tape_bytes lr_size lr_at lr_fault lr_code) sz) R) 0 0 (va_A (wl_X5_readNumber ad cs tape_size tape_bytes lr_size lr_at lr_fault lr_code) sz) := by
  refine Met.ofW (cc := cX5_readNumber) (maxL := 3) (ret := none) (by decide) rfl ?_
  intro p e s m args below meth c s₁ B hml hv
  obtain ⟨rfl, hsz, hP, hK, hD0⟩ := hv
  subst hsz
  have hD := hD0.self (sz := s.heap.size)
  have C0 : zC p s m _ meth c cX5_readNumber 3 none RX5 zW := ⟨B.exec, B.bytes, B.returns, hml, findClass_of_methodNamed B.named, fun w hw => atoms_spec (ws := z_X5_readNumber) B.pre w (List.mem_cons_of_mem _ hw), B.notSynchronized⟩
  have hA : ∀ q : Nat, s.heap.size ≤ q → va_A (wl_X5_readNumber ad cs tape_size tape_bytes lr_size lr_at lr_fault lr_code) s.heap.size q := fun q h => Or.inr h
  have hl := lv_entry ([.ref (ad 26)]) (n := 3) (Nat.le_of_ble_eq_true rfl)
  rw [lg_entry_eq]
  generalize (lg_sl ([.ref (ad 26)]) ++ List.replicate (3 - (lg_sl ([.ref (ad 26)])).length) Slot.unset).toArray = ls at hl ⊢
  exact L_X5_readNumber_0 C0 hK hA  ((LG_X5_readNumber C0 hK hA  n))  lr_size lr_at lr_code h s.heap [] ls hP hD va_S.rf hl
end
section
theorem kw_0 : Cond.selects RX5 yX5_readLevel yX5_readLevel ∈ zW := zwI (i := 0) (by decide +kernel) (by decide +kernel)
theorem kw_1 : Cond.selects RX5 yX5_readOperand yX5_readOperand ∈ zW := zwI (i := 1) (by decide +kernel) (by decide +kernel)
theorem kw_545 : Cond.methodLink RX5 53 yX5_readLevel ∈ zW := zwI (i := 545) (by decide +kernel) (by decide +kernel)
theorem kw_547 : Cond.instanceMethod yX5_readLevel ∈ zW := zwI (i := 547) (by decide +kernel) (by decide +kernel)
theorem kw_548 : Cond.code yX5_readLevel cX5_readLevel 5 none ∈ zW := zwI (i := 548) (by decide +kernel) (by decide +kernel)
theorem kw_549 : Cond.methodLink RX5 61 yX5_readOperand ∈ zW := zwI (i := 549) (by decide +kernel) (by decide +kernel)
theorem kw_551 : Cond.instanceMethod yX5_readOperand ∈ zW := zwI (i := 551) (by decide +kernel) (by decide +kernel)
theorem kw_552 : Cond.code yX5_readOperand cX5_readOperand 3 none ∈ zW := zwI (i := 552) (by decide +kernel) (by decide +kernel)
theorem kw_562 : Cond.methodLink RX5 74 yX5_readNumber ∈ zW := zwI (i := 562) (by decide +kernel) (by decide +kernel)
theorem kw_563 : Cond.instanceMethod yX5_readNumber ∈ zW := zwI (i := 563) (by decide +kernel) (by decide +kernel)
theorem kw_564 : Cond.selects RX5 yX5_readNumber yX5_readNumber ∈ zW := zwI (i := 564) (by decide +kernel) (by decide +kernel)
theorem kw_565 : Cond.code yX5_readNumber cX5_readNumber 3 none ∈ zW := zwI (i := 565) (by decide +kernel) (by decide +kernel)
theorem kw_570 : Cond.methodLink RX5 77 yX5_mayOpen ∈ zW := zwI (i := 570) (by decide +kernel) (by decide +kernel)
theorem kw_571 : Cond.instanceMethod yX5_mayOpen ∈ zW := zwI (i := 571) (by decide +kernel) (by decide +kernel)
theorem kw_572 : Cond.selects RX5 yX5_mayOpen yX5_mayOpen ∈ zW := zwI (i := 572) (by decide +kernel) (by decide +kernel)
theorem kw_573 : Cond.code yX5_mayOpen cX5_mayOpen 2 (some .boolean) ∈ zW := zwI (i := 573) (by decide +kernel) (by decide +kernel)
theorem kw_578 : Cond.methodLink RX5 32 yX5_accept ∈ zW := zwI (i := 578) (by decide +kernel) (by decide +kernel)
theorem kw_579 : Cond.instanceMethod yX5_accept ∈ zW := zwI (i := 579) (by decide +kernel) (by decide +kernel)
theorem kw_580 : Cond.selects RX5 yX5_accept yX5_accept ∈ zW := zwI (i := 580) (by decide +kernel) (by decide +kernel)
theorem kw_581 : Cond.code yX5_accept cX5_accept 2 (some .boolean) ∈ zW := zwI (i := 581) (by decide +kernel) (by decide +kernel)
theorem kw_646 : Cond.methodLink RX5 64 yX5_operatorAt ∈ zW := zwI (i := 646) (by decide +kernel) (by decide +kernel)
theorem kw_647 : Cond.instanceMethod yX5_operatorAt ∈ zW := zwI (i := 647) (by decide +kernel) (by decide +kernel)
theorem kw_648 : Cond.selects RX5 yX5_operatorAt yX5_operatorAt ∈ zW := zwI (i := 648) (by decide +kernel) (by decide +kernel)
theorem kw_649 : Cond.code yX5_operatorAt cX5_operatorAt 3 (some .int) ∈ zW := zwI (i := 649) (by decide +kernel) (by decide +kernel)
theorem dX5_readLevel_0 : decode cX5_readLevel 0 = .ok (.iload_n 1, 1) := by decide +kernel
theorem dX5_readLevel_1 : decode cX5_readLevel 1 = .ok (.iconst 4, 1) := by decide +kernel
theorem dX5_readLevel_2 : decode cX5_readLevel 2 = .ok (.if_icmp .le 9, 3) := by decide +kernel
theorem dX5_readLevel_5 : decode cX5_readLevel 5 = .ok (.aload_n 0, 1) := by decide +kernel
theorem dX5_readLevel_6 : decode cX5_readLevel 6 = .ok (.iload_n 2, 1) := by decide +kernel
theorem dX5_readLevel_7 : decode cX5_readLevel 7 = .ok (.invokevirtual 61, 3) := by decide +kernel
theorem dX5_readLevel_10 : decode cX5_readLevel 10 = .ok (.return_, 1) := by decide +kernel
theorem dX5_readLevel_11 : decode cX5_readLevel 11 = .ok (.aload_n 0, 1) := by decide +kernel
theorem dX5_readLevel_12 : decode cX5_readLevel 12 = .ok (.iload_n 1, 1) := by decide +kernel
theorem dX5_readLevel_13 : decode cX5_readLevel 13 = .ok (.iconst 1, 1) := by decide +kernel
theorem dX5_readLevel_14 : decode cX5_readLevel 14 = .ok (.iadd, 1) := by decide +kernel
theorem dX5_readLevel_15 : decode cX5_readLevel 15 = .ok (.iload_n 2, 1) := by decide +kernel
theorem dX5_readLevel_16 : decode cX5_readLevel 16 = .ok (.invokevirtual 53, 3) := by decide +kernel
theorem dX5_readLevel_19 : decode cX5_readLevel 19 = .ok (.iconst 0, 1) := by decide +kernel
theorem dX5_readLevel_20 : decode cX5_readLevel 20 = .ok (.istore_n 3, 1) := by decide +kernel
theorem dX5_readLevel_21 : decode cX5_readLevel 21 = .ok (.iload_n 3, 1) := by decide +kernel
theorem dX5_readLevel_22 : decode cX5_readLevel 22 = .ok (.bipush 120, 2) := by decide +kernel
theorem dX5_readLevel_24 : decode cX5_readLevel 24 = .ok (.if_icmp .ge 59, 3) := by decide +kernel
theorem dX5_readLevel_27 : decode cX5_readLevel 27 = .ok (.aload_n 0, 1) := by decide +kernel
theorem dX5_readLevel_28 : decode cX5_readLevel 28 = .ok (.getfield 26, 3) := by decide +kernel
theorem dX5_readLevel_31 : decode cX5_readLevel 31 = .ok (.ifCond .ge 52, 3) := by decide +kernel
theorem dX5_readLevel_34 : decode cX5_readLevel 34 = .ok (.aload_n 0, 1) := by decide +kernel
theorem dX5_readLevel_35 : decode cX5_readLevel 35 = .ok (.iload_n 1, 1) := by decide +kernel
theorem dX5_readLevel_36 : decode cX5_readLevel 36 = .ok (.invokevirtual 64, 3) := by decide +kernel
theorem dX5_readLevel_39 : decode cX5_readLevel 39 = .ok (.istore 4, 2) := by decide +kernel
theorem dX5_readLevel_41 : decode cX5_readLevel 41 = .ok (.iload 4, 2) := by decide +kernel
theorem dX5_readLevel_43 : decode cX5_readLevel 43 = .ok (.ifCond .ge 4, 3) := by decide +kernel
theorem dX5_readLevel_46 : decode cX5_readLevel 46 = .ok (.return_, 1) := by decide +kernel
theorem dX5_readLevel_47 : decode cX5_readLevel 47 = .ok (.aload_n 0, 1) := by decide +kernel
theorem dX5_readLevel_48 : decode cX5_readLevel 48 = .ok (.dup, 1) := by decide +kernel
theorem dX5_readLevel_49 : decode cX5_readLevel 49 = .ok (.getfield 19, 3) := by decide +kernel
theorem dX5_readLevel_52 : decode cX5_readLevel 52 = .ok (.iconst 1, 1) := by decide +kernel
theorem dX5_readLevel_53 : decode cX5_readLevel 53 = .ok (.iadd, 1) := by decide +kernel
theorem dX5_readLevel_54 : decode cX5_readLevel 54 = .ok (.putfield 19, 3) := by decide +kernel
theorem dX5_readLevel_57 : decode cX5_readLevel 57 = .ok (.aload_n 0, 1) := by decide +kernel
theorem dX5_readLevel_58 : decode cX5_readLevel 58 = .ok (.iload_n 1, 1) := by decide +kernel
theorem dX5_readLevel_59 : decode cX5_readLevel 59 = .ok (.iconst 1, 1) := by decide +kernel
theorem dX5_readLevel_60 : decode cX5_readLevel 60 = .ok (.iadd, 1) := by decide +kernel
theorem dX5_readLevel_61 : decode cX5_readLevel 61 = .ok (.iload_n 2, 1) := by decide +kernel
theorem dX5_readLevel_62 : decode cX5_readLevel 62 = .ok (.invokevirtual 53, 3) := by decide +kernel
theorem dX5_readLevel_65 : decode cX5_readLevel 65 = .ok (.aload_n 0, 1) := by decide +kernel
theorem dX5_readLevel_66 : decode cX5_readLevel 66 = .ok (.iload 4, 2) := by decide +kernel
theorem dX5_readLevel_68 : decode cX5_readLevel 68 = .ok (.invokevirtual 57, 3) := by decide +kernel
theorem dX5_readLevel_71 : decode cX5_readLevel 71 = .ok (.iload_n 1, 1) := by decide +kernel
theorem dX5_readLevel_72 : decode cX5_readLevel 72 = .ok (.iconst 2, 1) := by decide +kernel
theorem dX5_readLevel_73 : decode cX5_readLevel 73 = .ok (.if_icmp .ne 4, 3) := by decide +kernel
theorem dX5_readLevel_76 : decode cX5_readLevel 76 = .ok (.return_, 1) := by decide +kernel
theorem dX5_readLevel_77 : decode cX5_readLevel 77 = .ok (.iinc 3 1, 3) := by decide +kernel
theorem dX5_readLevel_80 : decode cX5_readLevel 80 = .ok (.goto (-59), 3) := by decide +kernel
theorem dX5_readLevel_83 : decode cX5_readLevel 83 = .ok (.return_, 1) := by decide +kernel
theorem dX5_readOperand_0 : decode cX5_readOperand 0 = .ok (.aload_n 0, 1) := by decide +kernel
theorem dX5_readOperand_1 : decode cX5_readOperand 1 = .ok (.getfield 15, 3) := by decide +kernel
theorem dX5_readOperand_4 : decode cX5_readOperand 4 = .ok (.aload_n 0, 1) := by decide +kernel
theorem dX5_readOperand_5 : decode cX5_readOperand 5 = .ok (.getfield 19, 3) := by decide +kernel
theorem dX5_readOperand_8 : decode cX5_readOperand 8 = .ok (.invokevirtual 68, 3) := by decide +kernel
theorem dX5_readOperand_11 : decode cX5_readOperand 11 = .ok (.istore_n 2, 1) := by decide +kernel
theorem dX5_readOperand_12 : decode cX5_readOperand 12 = .ok (.aload_n 0, 1) := by decide +kernel
theorem dX5_readOperand_13 : decode cX5_readOperand 13 = .ok (.getfield 26, 3) := by decide +kernel
theorem dX5_readOperand_16 : decode cX5_readOperand 16 = .ok (.ifCond .lt 4, 3) := by decide +kernel
theorem dX5_readOperand_19 : decode cX5_readOperand 19 = .ok (.return_, 1) := by decide +kernel
theorem dX5_readOperand_20 : decode cX5_readOperand 20 = .ok (.aload_n 0, 1) := by decide +kernel
theorem dX5_readOperand_21 : decode cX5_readOperand 21 = .ok (.getfield 15, 3) := by decide +kernel
theorem dX5_readOperand_24 : decode cX5_readOperand 24 = .ok (.aload_n 0, 1) := by decide +kernel
theorem dX5_readOperand_25 : decode cX5_readOperand 25 = .ok (.getfield 19, 3) := by decide +kernel
theorem dX5_readOperand_28 : decode cX5_readOperand 28 = .ok (.invokevirtual 71, 3) := by decide +kernel
theorem dX5_readOperand_31 : decode cX5_readOperand 31 = .ok (.ifCond .eq 10, 3) := by decide +kernel
theorem dX5_readOperand_34 : decode cX5_readOperand 34 = .ok (.aload_n 0, 1) := by decide +kernel
theorem dX5_readOperand_35 : decode cX5_readOperand 35 = .ok (.invokevirtual 74, 3) := by decide +kernel
theorem dX5_readOperand_38 : decode cX5_readOperand 38 = .ok (.goto 91, 3) := by decide +kernel
theorem dX5_readOperand_41 : decode cX5_readOperand 41 = .ok (.iload_n 2, 1) := by decide +kernel
theorem dX5_readOperand_42 : decode cX5_readOperand 42 = .ok (.bipush 33, 2) := by decide +kernel
theorem dX5_readOperand_44 : decode cX5_readOperand 44 = .ok (.if_icmp .eq 9, 3) := by decide +kernel
theorem dX5_readOperand_47 : decode cX5_readOperand 47 = .ok (.iload_n 2, 1) := by decide +kernel
theorem dX5_readOperand_48 : decode cX5_readOperand 48 = .ok (.bipush 45, 2) := by decide +kernel
theorem dX5_readOperand_50 : decode cX5_readOperand 50 = .ok (.if_icmp .ne 36, 3) := by decide +kernel
theorem dX5_readOperand_53 : decode cX5_readOperand 53 = .ok (.aload_n 0, 1) := by decide +kernel
theorem dX5_readOperand_54 : decode cX5_readOperand 54 = .ok (.iload_n 1, 1) := by decide +kernel
theorem dX5_readOperand_55 : decode cX5_readOperand 55 = .ok (.invokevirtual 77, 3) := by decide +kernel
theorem dX5_readOperand_58 : decode cX5_readOperand 58 = .ok (.ifCond .eq 71, 3) := by decide +kernel
theorem dX5_readOperand_61 : decode cX5_readOperand 61 = .ok (.aload_n 0, 1) := by decide +kernel
theorem dX5_readOperand_62 : decode cX5_readOperand 62 = .ok (.iload_n 1, 1) := by decide +kernel
theorem dX5_readOperand_63 : decode cX5_readOperand 63 = .ok (.iconst 1, 1) := by decide +kernel
theorem dX5_readOperand_64 : decode cX5_readOperand 64 = .ok (.iadd, 1) := by decide +kernel
theorem dX5_readOperand_65 : decode cX5_readOperand 65 = .ok (.invokevirtual 61, 3) := by decide +kernel
theorem dX5_readOperand_68 : decode cX5_readOperand 68 = .ok (.aload_n 0, 1) := by decide +kernel
theorem dX5_readOperand_69 : decode cX5_readOperand 69 = .ok (.iload_n 2, 1) := by decide +kernel
theorem dX5_readOperand_70 : decode cX5_readOperand 70 = .ok (.bipush 33, 2) := by decide +kernel
theorem dX5_readOperand_72 : decode cX5_readOperand 72 = .ok (.if_icmp .ne 7, 3) := by decide +kernel
theorem dX5_readOperand_75 : decode cX5_readOperand 75 = .ok (.iconst 4, 1) := by decide +kernel
theorem dX5_readOperand_76 : decode cX5_readOperand 76 = .ok (.goto 4, 3) := by decide +kernel
theorem dX5_readOperand_79 : decode cX5_readOperand 79 = .ok (.iconst 5, 1) := by decide +kernel
theorem dX5_readOperand_80 : decode cX5_readOperand 80 = .ok (.invokevirtual 57, 3) := by decide +kernel
theorem dX5_readOperand_83 : decode cX5_readOperand 83 = .ok (.goto 46, 3) := by decide +kernel
theorem dX5_readOperand_86 : decode cX5_readOperand 86 = .ok (.iload_n 2, 1) := by decide +kernel
theorem dX5_readOperand_87 : decode cX5_readOperand 87 = .ok (.bipush 40, 2) := by decide +kernel
theorem dX5_readOperand_89 : decode cX5_readOperand 89 = .ok (.if_icmp .ne 35, 3) := by decide +kernel
theorem dX5_readOperand_92 : decode cX5_readOperand 92 = .ok (.aload_n 0, 1) := by decide +kernel
theorem dX5_readOperand_93 : decode cX5_readOperand 93 = .ok (.iload_n 1, 1) := by decide +kernel
theorem dX5_readOperand_94 : decode cX5_readOperand 94 = .ok (.invokevirtual 77, 3) := by decide +kernel
theorem dX5_readOperand_97 : decode cX5_readOperand 97 = .ok (.ifCond .eq 32, 3) := by decide +kernel
theorem dX5_readOperand_100 : decode cX5_readOperand 100 = .ok (.aload_n 0, 1) := by decide +kernel
theorem dX5_readOperand_101 : decode cX5_readOperand 101 = .ok (.iconst 0, 1) := by decide +kernel
theorem dX5_readOperand_102 : decode cX5_readOperand 102 = .ok (.iload_n 1, 1) := by decide +kernel
theorem dX5_readOperand_103 : decode cX5_readOperand 103 = .ok (.iconst 1, 1) := by decide +kernel
theorem dX5_readOperand_104 : decode cX5_readOperand 104 = .ok (.iadd, 1) := by decide +kernel
theorem dX5_readOperand_105 : decode cX5_readOperand 105 = .ok (.invokevirtual 53, 3) := by decide +kernel
theorem dX5_readOperand_108 : decode cX5_readOperand 108 = .ok (.aload_n 0, 1) := by decide +kernel
theorem dX5_readOperand_109 : decode cX5_readOperand 109 = .ok (.bipush 41, 2) := by decide +kernel
theorem dX5_readOperand_111 : decode cX5_readOperand 111 = .ok (.invokevirtual 32, 3) := by decide +kernel
theorem dX5_readOperand_114 : decode cX5_readOperand 114 = .ok (.ifCond .ne 15, 3) := by decide +kernel
theorem dX5_readOperand_117 : decode cX5_readOperand 117 = .ok (.aload_n 0, 1) := by decide +kernel
theorem dX5_readOperand_118 : decode cX5_readOperand 118 = .ok (.invokevirtual 39, 3) := by decide +kernel
theorem dX5_readOperand_121 : decode cX5_readOperand 121 = .ok (.goto 8, 3) := by decide +kernel
theorem dX5_readOperand_124 : decode cX5_readOperand 124 = .ok (.aload_n 0, 1) := by decide +kernel
theorem dX5_readOperand_125 : decode cX5_readOperand 125 = .ok (.iload_n 2, 1) := by decide +kernel
theorem dX5_readOperand_129 : decode cX5_readOperand 129 = .ok (.return_, 1) := by decide +kernel
abbrev z_X5_readLevel : List Cond := .code yX5_readLevel cX5_readLevel 5 none :: zW
abbrev wl_X5_readLevel (ad : Nat → Nat) (cs : Nat → ClassId)  (tape_size : Int32) (tape_bytes : Nat → Int32) (lr_size : Int32) (lr_at : Int32) (lr_fault : Int32) (lr_code : Nat → Int32) : va_W := [((ad 23), .inr (9, [.ref (ad 24), .int tape_size])), ((ad 24), .inl (cs 0, 120, .inl tape_bytes)), ((ad 26), .inr (5, [.ref (ad 23), .ref (ad 27), .int lr_size, .int lr_at, .int lr_fault])), ((ad 27), .inl (cs 0, 121, .inl lr_code))]
def Q_X5_readLevel (D : va_G) (cs : Nat → ClassId) (ad : Nat → Nat)  (tape_size : Int32) (tape_bytes : Nat → Int32) (A : Nat → Prop) (R : Int32 × Int32 × Int32 × (Nat → Int32)) : Array Value → State → Outcome → State → Prop :=
  va_Qv (fun u : Int32 × Int32 × Int32 × (Nat → Int32) => u = R) (fun (u : Int32 × Int32 × Int32 × (Nat → Int32)) (t : State) => va_P D classes (wl_X5_readLevel ad cs tape_size tape_bytes u.1 u.2.1 u.2.2.1 u.2.2.2) t.heap ∧ va_D A (wl_X5_readLevel ad cs tape_size tape_bytes u.1 u.2.1 u.2.2.1 u.2.2.2)) A
abbrev z_X5_readOperand : List Cond := .code yX5_readOperand cX5_readOperand 3 none :: zW
abbrev wl_X5_readOperand (ad : Nat → Nat) (cs : Nat → ClassId)  (tape_size : Int32) (tape_bytes : Nat → Int32) (lr_size : Int32) (lr_at : Int32) (lr_fault : Int32) (lr_code : Nat → Int32) : va_W := [((ad 23), .inr (9, [.ref (ad 24), .int tape_size])), ((ad 24), .inl (cs 0, 120, .inl tape_bytes)), ((ad 26), .inr (5, [.ref (ad 23), .ref (ad 27), .int lr_size, .int lr_at, .int lr_fault])), ((ad 27), .inl (cs 0, 121, .inl lr_code))]
def Q_X5_readOperand (D : va_G) (cs : Nat → ClassId) (ad : Nat → Nat)  (tape_size : Int32) (tape_bytes : Nat → Int32) (A : Nat → Prop) (R : Int32 × Int32 × Int32 × (Nat → Int32)) : Array Value → State → Outcome → State → Prop :=
  va_Qv (fun u : Int32 × Int32 × Int32 × (Nat → Int32) => u = R) (fun (u : Int32 × Int32 × Int32 × (Nat → Int32)) (t : State) => va_P D classes (wl_X5_readOperand ad cs tape_size tape_bytes u.1 u.2.1 u.2.2.1 u.2.2.2) t.heap ∧ va_D A (wl_X5_readOperand ad cs tape_size tape_bytes u.1 u.2.1 u.2.2.1 u.2.2.2)) A
theorem g_X5_32 : GoodIn zW (wsV RX5 32 RX5 yX5_accept z_X5_accept) := zGV kw_578 kw_579 kw_580 kw_80 kw_581
theorem g_X5_53 : GoodIn zW (wsV RX5 53 RX5 yX5_readLevel z_X5_readLevel) := zGV kw_545 kw_547 kw_0 kw_80 kw_548
theorem g_X5_61 : GoodIn zW (wsV RX5 61 RX5 yX5_readOperand z_X5_readOperand) := zGV kw_549 kw_551 kw_1 kw_80 kw_552
theorem g_X5_64 : GoodIn zW (wsV RX5 64 RX5 yX5_operatorAt z_X5_operatorAt) := zGV kw_646 kw_647 kw_648 kw_80 kw_649
theorem g_X5_74 : GoodIn zW (wsV RX5 74 RX5 yX5_readNumber z_X5_readNumber) := zGV kw_562 kw_563 kw_564 kw_80 kw_565
theorem g_X5_77 : GoodIn zW (wsV RX5 77 RX5 yX5_mayOpen z_X5_mayOpen) := zGV kw_570 kw_571 kw_572 kw_80 kw_573
def B_X5_readLevel_21 (r_X5_readLevel : Int32 → Int32 → Int32 → (Nat → Int32) → Int32 → Int32 → Int32 → (Nat → Int32) → (Option (Int32 × Int32 × Int32 × (Nat → Int32)))) (r_X5_readOperand : Int32 → Int32 → (Nat → Int32) → Int32 → Int32 → Int32 → (Nat → Int32) → (Option (Int32 × Int32 × Int32 × (Nat → Int32)))) (g21 : Int32 → Int32 → Int32 → Int32 → Int32 → Int32 → (Nat → Int32) → (Option (Int32 × Int32 × Int32 × (Nat → Int32)))) (tape_size : Int32) (tape_bytes : Nat → Int32) (x1 : Int32) (x2 : Int32) (x3 : Int32) (lr_size : Int32) (lr_at : Int32) (lr_fault : Int32) (lr_code : Nat → Int32) : Option (Int32 × Int32 × Int32 × (Nat → Int32)) :=
  (if (120 : Int32) ≤ x3 then (some (lr_size, lr_at, lr_fault, lr_code)) else (if 0 ≤ lr_fault then (some (lr_size, lr_at, lr_fault, lr_code)) else (zk_b2 (f_X5_operatorAt x1 tape_size tape_bytes lr_size lr_at lr_fault) (fun r_14 u_15 => (if 0 ≤ r_14 then (zk_let (lr_at + (1 : Int32)) (fun v_18 => (zk_b4 (r_X5_readLevel (x1 + (1 : Int32)) x2 tape_size tape_bytes lr_size v_18 lr_fault lr_code) (fun u_19 u_20 u_21 u_22 => (zk_b2 (f_X5_emit r_14 u_19 u_20 u_21 u_22) (fun u_24 u_25 => (if x1 = (2 : Int32) then (some (u_24, u_20, u_21, u_25)) else (zk_let (x3 + (1 : Int32)) (fun v_28 => (g21 x1 x2 v_28 u_24 u_20 u_21 u_25)))))))))) else (some (lr_size, lr_at, lr_fault, lr_code)))))))
def B_X5_readLevel_0 (r_X5_readLevel : Int32 → Int32 → Int32 → (Nat → Int32) → Int32 → Int32 → Int32 → (Nat → Int32) → (Option (Int32 × Int32 × Int32 × (Nat → Int32)))) (r_X5_readOperand : Int32 → Int32 → (Nat → Int32) → Int32 → Int32 → Int32 → (Nat → Int32) → (Option (Int32 × Int32 × Int32 × (Nat → Int32)))) (g21 : Int32 → Int32 → Int32 → Int32 → Int32 → Int32 → (Nat → Int32) → (Option (Int32 × Int32 × Int32 × (Nat → Int32)))) (tape_size : Int32) (tape_bytes : Nat → Int32) (x1 : Int32) (x2 : Int32) (lr_size : Int32) (lr_at : Int32) (lr_fault : Int32) (lr_code : Nat → Int32) : Option (Int32 × Int32 × Int32 × (Nat → Int32)) :=
  (if x1 ≤ (4 : Int32) then (zk_b4 (r_X5_readLevel (x1 + (1 : Int32)) x2 tape_size tape_bytes lr_size lr_at lr_fault lr_code) (fun u_2 u_3 u_4 u_5 => (g21 x1 x2 (0 : Int32) u_2 u_3 u_4 u_5))) else (zk_b4 (r_X5_readOperand x2 tape_size tape_bytes lr_size lr_at lr_fault lr_code) (fun u_7 u_8 u_9 u_10 => (some (u_7, u_8, u_9, u_10)))))
def G_X5_readLevel (r_X5_readLevel : Int32 → Int32 → Int32 → (Nat → Int32) → Int32 → Int32 → Int32 → (Nat → Int32) → (Option (Int32 × Int32 × Int32 × (Nat → Int32)))) (r_X5_readOperand : Int32 → Int32 → (Nat → Int32) → Int32 → Int32 → Int32 → (Nat → Int32) → (Option (Int32 × Int32 × Int32 × (Nat → Int32)))) (tape_size : Int32) (tape_bytes : Nat → Int32) (n : Nat) : (Int32 → Int32 → Int32 → Int32 → Int32 → Int32 → (Nat → Int32) → (Option (Int32 × Int32 × Int32 × (Nat → Int32)))) :=
  Nat.rec (motive := fun _ => (Int32 → Int32 → Int32 → Int32 → Int32 → Int32 → (Nat → Int32) → (Option (Int32 × Int32 × Int32 × (Nat → Int32))))) ((fun _ _ _ _ _ _ _ => none)) (fun _ ih => (B_X5_readLevel_21 r_X5_readLevel r_X5_readOperand ih tape_size tape_bytes)) n
def f_X5_readLevel (r_X5_readLevel : Int32 → Int32 → Int32 → (Nat → Int32) → Int32 → Int32 → Int32 → (Nat → Int32) → (Option (Int32 × Int32 × Int32 × (Nat → Int32)))) (r_X5_readOperand : Int32 → Int32 → (Nat → Int32) → Int32 → Int32 → Int32 → (Nat → Int32) → (Option (Int32 × Int32 × Int32 × (Nat → Int32)))) (n : Nat) (x1 : Int32) (x2 : Int32) (tape_size : Int32) (tape_bytes : Nat → Int32) (lr_size : Int32) (lr_at : Int32) (lr_fault : Int32) (lr_code : Nat → Int32) : Option (Int32 × Int32 × Int32 × (Nat → Int32)) := B_X5_readLevel_0 r_X5_readLevel r_X5_readOperand ((G_X5_readLevel r_X5_readLevel r_X5_readOperand tape_size tape_bytes n)) tape_size tape_bytes x1 x2 lr_size lr_at lr_fault lr_code
def B_X5_readOperand_80 (r_X5_readLevel : Int32 → Int32 → Int32 → (Nat → Int32) → Int32 → Int32 → Int32 → (Nat → Int32) → (Option (Int32 × Int32 × Int32 × (Nat → Int32)))) (r_X5_readOperand : Int32 → Int32 → (Nat → Int32) → Int32 → Int32 → Int32 → (Nat → Int32) → (Option (Int32 × Int32 × Int32 × (Nat → Int32))))  (tape_size : Int32) (tape_bytes : Nat → Int32) (s0 : Int32) (lr_size : Int32) (lr_at : Int32) (lr_fault : Int32) (lr_code : Nat → Int32) : Option (Int32 × Int32 × Int32 × (Nat → Int32)) :=
  (zk_b2 (f_X5_emit s0 lr_size lr_at lr_fault lr_code) (fun u_43 u_44 => (some (u_43, lr_at, lr_fault, u_44))))
def B_X5_readOperand_53 (r_X5_readLevel : Int32 → Int32 → Int32 → (Nat → Int32) → Int32 → Int32 → Int32 → (Nat → Int32) → (Option (Int32 × Int32 × Int32 × (Nat → Int32)))) (r_X5_readOperand : Int32 → Int32 → (Nat → Int32) → Int32 → Int32 → Int32 → (Nat → Int32) → (Option (Int32 × Int32 × Int32 × (Nat → Int32))))  (tape_size : Int32) (tape_bytes : Nat → Int32) (x1 : Int32) (x2 : Int32) (lr_size : Int32) (lr_at : Int32) (lr_fault : Int32) (lr_code : Nat → Int32) : Option (Int32 × Int32 × Int32 × (Nat → Int32)) :=
  (zk_b3 (f_X5_mayOpen x1 lr_size lr_at lr_fault) (fun r_32 u_33 u_34 => (if r_32 = 0 then (some (lr_size, u_33, u_34, lr_code)) else (zk_b4 (r_X5_readOperand (x1 + (1 : Int32)) tape_size tape_bytes lr_size u_33 u_34 lr_code) (fun u_37 u_38 u_39 u_40 => (if x2 = (33 : Int32) then (B_X5_readOperand_80 r_X5_readLevel r_X5_readOperand tape_size tape_bytes (4 : Int32) u_37 u_38 u_39 u_40) else (B_X5_readOperand_80 r_X5_readLevel r_X5_readOperand tape_size tape_bytes (5 : Int32) u_37 u_38 u_39 u_40)))))))
def B_X5_readOperand_0 (r_X5_readLevel : Int32 → Int32 → Int32 → (Nat → Int32) → Int32 → Int32 → Int32 → (Nat → Int32) → (Option (Int32 × Int32 × Int32 × (Nat → Int32)))) (r_X5_readOperand : Int32 → Int32 → (Nat → Int32) → Int32 → Int32 → Int32 → (Nat → Int32) → (Option (Int32 × Int32 × Int32 × (Nat → Int32))))  (tape_size : Int32) (tape_bytes : Nat → Int32) (x1 : Int32) (lr_size : Int32) (lr_at : Int32) (lr_fault : Int32) (lr_code : Nat → Int32) : Option (Int32 × Int32 × Int32 × (Nat → Int32)) :=
  (zk_b2 (f_X9_byteAt lr_at tape_size tape_bytes) (fun r_1 u_2 => (if lr_fault < 0 then (zk_b2 (f_X9_isDigitAt lr_at tape_size tape_bytes) (fun r_5 u_6 => (if r_5 = 0 then (if r_1 = (33 : Int32) then (B_X5_readOperand_53 r_X5_readLevel r_X5_readOperand tape_size tape_bytes x1 r_1 lr_size lr_at lr_fault lr_code) else (if r_1 = (45 : Int32) then (B_X5_readOperand_53 r_X5_readLevel r_X5_readOperand tape_size tape_bytes x1 r_1 lr_size lr_at lr_fault lr_code) else (if r_1 = (40 : Int32) then (zk_b3 (f_X5_mayOpen x1 lr_size lr_at lr_fault) (fun r_12 u_13 u_14 => (if r_12 = 0 then (some (lr_size, u_13, u_14, lr_code)) else (zk_b4 (r_X5_readLevel (0 : Int32) (x1 + (1 : Int32)) tape_size tape_bytes lr_size u_13 u_14 lr_code) (fun u_17 u_18 u_19 u_20 => (zk_b2 (f_X5_accept (41 : Int32) tape_size tape_bytes u_17 u_18 u_19) (fun r_22 u_23 => (if r_22 = 0 then (zk_b1 (f_X5_fail u_17 u_23 u_19) (fun u_26 => (some (u_17, u_23, u_26, u_20)))) else (some (u_17, u_23, u_19, u_20)))))))))) else none))) else (zk_b3 (f_X5_readNumber 4000 tape_size tape_bytes lr_size lr_at lr_fault lr_code) (fun u_28 u_29 u_30 => (some (u_28, u_29, lr_fault, u_30))))))) else (some (lr_size, lr_at, lr_fault, lr_code)))))
def f_X5_readOperand (r_X5_readLevel : Int32 → Int32 → Int32 → (Nat → Int32) → Int32 → Int32 → Int32 → (Nat → Int32) → (Option (Int32 × Int32 × Int32 × (Nat → Int32)))) (r_X5_readOperand : Int32 → Int32 → (Nat → Int32) → Int32 → Int32 → Int32 → (Nat → Int32) → (Option (Int32 × Int32 × Int32 × (Nat → Int32)))) (x1 : Int32) (tape_size : Int32) (tape_bytes : Nat → Int32) (lr_size : Int32) (lr_at : Int32) (lr_fault : Int32) (lr_code : Nat → Int32) : Option (Int32 × Int32 × Int32 × (Nat → Int32)) := B_X5_readOperand_0 r_X5_readLevel r_X5_readOperand tape_size tape_bytes x1 lr_size lr_at lr_fault lr_code
def grp_lawgrp (n : Nat) : (Int32 → Int32 → Int32 → (Nat → Int32) → Int32 → Int32 → Int32 → (Nat → Int32) → (Option (Int32 × Int32 × Int32 × (Nat → Int32)))) × (Int32 → Int32 → (Nat → Int32) → Int32 → Int32 → Int32 → (Nat → Int32) → (Option (Int32 × Int32 × Int32 × (Nat → Int32)))) :=
  Nat.rec (motive := fun _ => (Int32 → Int32 → Int32 → (Nat → Int32) → Int32 → Int32 → Int32 → (Nat → Int32) → (Option (Int32 × Int32 × Int32 × (Nat → Int32)))) × (Int32 → Int32 → (Nat → Int32) → Int32 → Int32 → Int32 → (Nat → Int32) → (Option (Int32 × Int32 × Int32 × (Nat → Int32))))) ((fun _ _ _ _ _ _ _ _ => none), (fun _ _ _ _ _ _ _ => none)) (fun _ ih => (f_X5_readLevel (ih.1) (ih.2) 4000, f_X5_readOperand (ih.1) (ih.2))) n
set_option maxHeartbeats 4000000 in
set_option maxRecDepth 100000 in
theorem L_X5_readLevel_21 {p : Program} {l : Launch} {e : Env} {s : State} {m : MethodId} {args : Array Value} {below : List Frame} {meth : Method} {c : Code} {A : Nat → Prop} {D : va_G} {cs : Nat → ClassId} {ad : Nat → Nat} {tape_size : Int32} {tape_bytes : Nat → Int32} {R : Int32 × Int32 × Int32 × (Nat → Int32)} {g21 : Int32 → Int32 → Int32 → Int32 → Int32 → Int32 → (Nat → Int32) → (Option (Int32 × Int32 × Int32 × (Nat → Int32)))} (C0 : zC p s m args meth c cX5_readLevel 5 none RX5 zW) (hK : va_K D classes (zT cs) s) (hA : ∀ q : Nat, s.heap.size ≤ q → A q) {fr lo : Nat} {r_X5_readLevel : Int32 → Int32 → Int32 → (Nat → Int32) → Int32 → Int32 → Int32 → (Nat → Int32) → (Option (Int32 × Int32 × Int32 × (Nat → Int32)))} {r_X5_readOperand : Int32 → Int32 → (Nat → Int32) → Int32 → Int32 → Int32 → (Nat → Int32) → (Option (Int32 × Int32 × Int32 × (Nat → Int32)))} (hr_X5_readLevel : ∀ (D : va_G) (cs : Nat → ClassId) (ad : Nat → Nat) (sz : Nat) (x1 : Int32) (x2 : Int32) (tape_size : Int32) (tape_bytes : Nat → Int32) (lr_size : Int32) (lr_at : Int32) (lr_fault : Int32) (lr_code : Nat → Int32) (R : Int32 × Int32 × Int32 × (Nat → Int32)) (h : r_X5_readLevel x1 x2 tape_size tape_bytes lr_size lr_at lr_fault lr_code = some R), Met l yX5_readLevel z_X5_readLevel ({ frames := fr, cells := 0, slots := 0, locals := lo } : Room) (va_Pc [.ref (ad 26), .int x1, .int x2] (zPre D cs (wl_X5_readLevel ad cs tape_size tape_bytes lr_size lr_at lr_fault lr_code) sz)) (Q_X5_readLevel D cs ad tape_size tape_bytes (va_A (wl_X5_readLevel ad cs tape_size tape_bytes lr_size lr_at lr_fault lr_code) sz) R) 0 0 (va_A (wl_X5_readLevel ad cs tape_size tape_bytes lr_size lr_at lr_fault lr_code) sz)) (hr_X5_readOperand : ∀ (D : va_G) (cs : Nat → ClassId) (ad : Nat → Nat) (sz : Nat) (x1 : Int32) (tape_size : Int32) (tape_bytes : Nat → Int32) (lr_size : Int32) (lr_at : Int32) (lr_fault : Int32) (lr_code : Nat → Int32) (R : Int32 × Int32 × Int32 × (Nat → Int32)) (h : r_X5_readOperand x1 tape_size tape_bytes lr_size lr_at lr_fault lr_code = some R), Met l yX5_readOperand z_X5_readOperand ({ frames := fr, cells := 0, slots := 0, locals := lo } : Room) (va_Pc [.ref (ad 26), .int x1] (zPre D cs (wl_X5_readOperand ad cs tape_size tape_bytes lr_size lr_at lr_fault lr_code) sz)) (Q_X5_readOperand D cs ad tape_size tape_bytes (va_A (wl_X5_readOperand ad cs tape_size tape_bytes lr_size lr_at lr_fault lr_code) sz) R) 0 0 (va_A (wl_X5_readOperand ad cs tape_size tape_bytes lr_size lr_at lr_fault lr_code) sz)) (ih21 : ∀ (x1 : Int32) (x2 : Int32) (x3 : Int32) (lr_size : Int32) (lr_at : Int32) (lr_fault : Int32) (lr_code : Nat → Int32) (h : g21 x1 x2 x3 lr_size lr_at lr_fault lr_code = some R) (H : Heap) (locs : List Loc) (ls : Array Slot) (hP : va_P D classes (wl_X5_readLevel ad cs tape_size tape_bytes lr_size lr_at lr_fault lr_code) H) (hD : va_D A (wl_X5_readLevel ad cs tape_size tape_bytes lr_size lr_at lr_fault lr_code)) (hS : va_S A s.heap H locs) (hl : lv_has ls 5 [(0, .ref (ad 26)), (1, .int x1), (2, .int x2), (3, .int x3)]), W p l e ({ frames := fr + 3, cells := 0, slots := 0, locals := lo + 65 } : Room) s m args below meth c H locs 0 0 (MQ below (Q_X5_readLevel D cs ad tape_size tape_bytes A R) args s 0 0 A) (F0 m 21 ls [])) (x1 : Int32) (x2 : Int32) (x3 : Int32) (lr_size : Int32) (lr_at : Int32) (lr_fault : Int32) (lr_code : Nat → Int32) (h : B_X5_readLevel_21 r_X5_readLevel r_X5_readOperand g21 tape_size tape_bytes x1 x2 x3 lr_size lr_at lr_fault lr_code = some R) (H : Heap) (locs : List Loc) (ls : Array Slot) (hP : va_P D classes (wl_X5_readLevel ad cs tape_size tape_bytes lr_size lr_at lr_fault lr_code) H) (hD : va_D A (wl_X5_readLevel ad cs tape_size tape_bytes lr_size lr_at lr_fault lr_code)) (hS : va_S A s.heap H locs) (hl : lv_has ls 5 [(0, .ref (ad 26)), (1, .int x1), (2, .int x2), (3, .int x3)]) : W p l e ({ frames := fr + 3, cells := 0, slots := 0, locals := lo + 65 } : Room) s m args below meth c H locs 0 0 (MQ below (Q_X5_readLevel D cs ad tape_size tape_bytes A R) args s 0 0 A) (F0 m 21 ls []) := by
  obtain ⟨hx, hb, hr, hml, hown, ht, hlocks⟩ := id C0
  refine lv_iload_n hx hb dX5_readLevel_21 rfl (lv_at hl 3 rfl) ?_
  refine lv_bipush (v := (120 : Int32)) hx hb dX5_readLevel_22 (by decide) ?_
  refine lv_icmp_ge (tgt := 83) hx hb dX5_readLevel_24 (by decide) (fun c_12 => ?_) (fun c_12 => ?_)
  · have h := zk_t c_12 h
    exact W.vret hx hb hr (fun t ht2 hW => ⟨⟨(lr_size, lr_at, lr_fault, lr_code), rfl, Option.some.inj h, by rw [ht2]; exact hP, hD⟩, hS.F ht2⟩) hS.2.2 dX5_readLevel_83 hlocks
  · have h := zk_f c_12 h
    refine lv_aload_n hx hb dX5_readLevel_27 rfl (lv_at hl 0 rfl) ?_
    refine va_get (D := D) (ci := 5) (v := .int lr_fault) (C := RX5) (T := TX5) (N := 5) hx hb ht iX5 hown hK hP 2 rfl rfl 4 (by decide) (ht _ kw_278) (fun _ h9 => h9) rfl dX5_readLevel_28 ?_
    refine lv_if_ge (tgt := 83) hx hb dX5_readLevel_31 (by decide) (fun c_13 => ?_) (fun c_13 => ?_)
    · have h := zk_t c_13 h
      exact W.vret hx hb hr (fun t ht2 hW => ⟨⟨(lr_size, lr_at, lr_fault, lr_code), rfl, Option.some.inj h, by rw [ht2]; exact hP, hD⟩, hS.F ht2⟩) hS.2.2 dX5_readLevel_83 hlocks
    · have h := zk_f c_13 h
      refine lv_aload_n hx hb dX5_readLevel_34 rfl (lv_at hl 0 rfl) ?_
      refine lv_iload_n hx hb dX5_readLevel_35 rfl (lv_at hl 1 rfl) ?_
      obtain ⟨r_14, u_15, hc_16, h⟩ := zk_o2 h
      refine zk_vi (post := (fun r u => (r, u) = (r_14, u_15))) (w1 := fun u => (wl_X5_operatorAt ad cs tape_size tape_bytes lr_size lr_at lr_fault)) (As := [.int x1]) (rest := []) (c_X5_operatorAt l D cs ad  H.size x1 tape_size tape_bytes lr_size lr_at lr_fault _ hc_16) ⟨hx, hb, hml, hown, ht⟩ (cwV 1 ht g_X5_64 rfl rfl rfl (by decide +kernel) ⟨(by show 1 + 1 ≤ fr + 3; omega), (by show 8 + (3 + 11) + 21 ≤ lo + 65; omega)⟩) (va_recv hK hP (ci := 5) (q0 := 2) rfl rfl) hP hD hS hK hA [0, 1, 2] [3] rfl rfl rfl rfl (by decide) rfl hl.1 (Nat.le_of_ble_eq_true rfl) dX5_readLevel_36 ⟨Nat.zero_le _, Nat.zero_le _⟩ (fun r u H locs hq hP hD hS => ?_)
      cases hq
      have hP : va_P D classes (wl_X5_readLevel ad cs tape_size tape_bytes lr_size lr_at lr_fault lr_code) H := hP.sub [1, 2, 3, 0] rfl
      have hD : va_D A (wl_X5_readLevel ad cs tape_size tape_bytes lr_size lr_at lr_fault lr_code) := hD.sub [1, 2, 3, 0] rfl rfl
      refine lv_istore (lv' := [(4, .int r_14), (0, .ref (ad 26)), (1, .int x1), (2, .int x2), (3, .int x3)]) hx hb dX5_readLevel_39 hl (by decide) rfl (fun ls hl => ?_)
      refine lv_iload hx hb dX5_readLevel_41 (lv_at hl 0 rfl) ?_
      refine lv_if_ge (tgt := 47) hx hb dX5_readLevel_43 (by decide) (fun c_17 => ?_) (fun c_17 => ?_)
      · have h := zk_t c_17 h
        refine lv_aload_n hx hb dX5_readLevel_47 rfl (lv_at hl 1 rfl) ?_
        refine lv_dup hx hb dX5_readLevel_48 rfl ?_
        refine va_get (D := D) (ci := 5) (v := .int lr_at) (C := RX5) (T := TX5) (N := 5) hx hb ht iX5 hown hK hP 2 rfl rfl 3 (by decide) (ht _ kw_277) (fun _ h9 => h9) rfl dX5_readLevel_49 ?_
        refine lv_iconst (v := (1 : Int32)) hx hb dX5_readLevel_52 (by decide) ?_
        refine lv_iadd hx hb dX5_readLevel_53 ?_
        obtain ⟨v_18, ev_18, h⟩ := zk_lt h
        refine W.eq (g2 := F0 m 54 ls [.int v_18, .ref (ad 26)]) (by rw [ev_18]) ?_
        refine va_put (D := D) (ci := 5) (v := .int v_18) (ty := .int) (C := RX5) (T := TX5) (N := 5) hx hb ht iX5 tyX5 tyX5_ok nmX5 hown hK hP hD hS 2 rfl rfl 3 (by decide) (ht _ kw_277) (fun _ h9 => h9) rfl (by decide +kernel) rfl rfl (Nat.le_of_ble_eq_true rfl) dX5_readLevel_54 (fun H locs hP hD hS => ?_)
        have hP : va_P D classes (wl_X5_readLevel ad cs tape_size tape_bytes lr_size v_18 lr_fault lr_code) H := hP
        have hD : va_D A (wl_X5_readLevel ad cs tape_size tape_bytes lr_size v_18 lr_fault lr_code) := hD
        refine lv_aload_n hx hb dX5_readLevel_57 rfl (lv_at hl 1 rfl) ?_
        refine lv_iload_n hx hb dX5_readLevel_58 rfl (lv_at hl 2 rfl) ?_
        refine lv_iconst (v := (1 : Int32)) hx hb dX5_readLevel_59 (by decide) ?_
        refine lv_iadd hx hb dX5_readLevel_60 ?_
        refine lv_iload_n hx hb dX5_readLevel_61 rfl (lv_at hl 3 rfl) ?_
        obtain ⟨u_19, u_20, u_21, u_22, hc_23, h⟩ := zk_o4 h
        refine zk_vv (post := (fun u => u = (u_19, u_20, u_21, u_22))) (w1 := fun u => (wl_X5_readLevel ad cs tape_size tape_bytes u.1 u.2.1 u.2.2.1 u.2.2.2)) (As := [.int (x1 + (1 : Int32)), .int x2]) (rest := []) (hr_X5_readLevel D cs ad  H.size (x1 + (1 : Int32)) x2 tape_size tape_bytes lr_size v_18 lr_fault lr_code _ hc_23) ⟨hx, hb, hml, hown, ht⟩ (cwV 2 ht g_X5_53 rfl rfl rfl (by decide +kernel) ⟨(by show fr + 1 ≤ fr + 3; omega), (by show 8 + (5 + 11) + lo ≤ lo + 65; omega)⟩) (va_recv hK hP (ci := 5) (q0 := 2) rfl rfl) hP hD hS hK hA [0, 1, 2, 3] [] rfl rfl rfl rfl (by decide) rfl hl.1 (Nat.le_of_ble_eq_true rfl) dX5_readLevel_62 ⟨Nat.zero_le _, Nat.zero_le _⟩ (fun u H locs hq hP hD hS => ?_)
        cases hq
        have hP : va_P D classes (wl_X5_readLevel ad cs tape_size tape_bytes u_19 u_20 u_21 u_22) H := hP.sub [0, 1, 2, 3] rfl
        have hD : va_D A (wl_X5_readLevel ad cs tape_size tape_bytes u_19 u_20 u_21 u_22) := hD.sub [0, 1, 2, 3] rfl rfl
        refine lv_aload_n hx hb dX5_readLevel_65 rfl (lv_at hl 1 rfl) ?_
        refine lv_iload hx hb dX5_readLevel_66 (lv_at hl 0 rfl) ?_
        obtain ⟨u_24, u_25, hc_26, h⟩ := zk_o2 h
        refine zk_vv (post := (fun u => u = (u_24, u_25))) (w1 := fun u => (wl_X5_emit ad cs u.1 u_20 u_21 u.2)) (As := [.int r_14]) (rest := []) (c_X5_emit l D cs ad  H.size r_14 u_19 u_20 u_21 u_22 _ hc_26) ⟨hx, hb, hml, hown, ht⟩ (cwV 1 ht g_X5_57 rfl rfl rfl (by decide +kernel) ⟨(by show 0 + 1 ≤ fr + 3; omega), (by show 8 + (2 + 11) + 0 ≤ lo + 65; omega)⟩) (va_recv hK hP (ci := 5) (q0 := 2) rfl rfl) hP hD hS hK hA [2, 3] [0, 1] rfl rfl rfl rfl (by decide) rfl hl.1 (Nat.le_of_ble_eq_true rfl) dX5_readLevel_68 ⟨Nat.zero_le _, Nat.zero_le _⟩ (fun u H locs hq hP hD hS => ?_)
        cases hq
        have hP : va_P D classes (wl_X5_readLevel ad cs tape_size tape_bytes u_24 u_20 u_21 u_25) H := hP.sub [0, 1, 2, 3] rfl
        have hD : va_D A (wl_X5_readLevel ad cs tape_size tape_bytes u_24 u_20 u_21 u_25) := hD.sub [0, 1, 2, 3] rfl rfl
        refine lv_iload_n hx hb dX5_readLevel_71 rfl (lv_at hl 2 rfl) ?_
        refine lv_iconst (v := (2 : Int32)) hx hb dX5_readLevel_72 (by decide) ?_
        refine lv_icmp_ne (tgt := 77) hx hb dX5_readLevel_73 (by decide) (fun c_27 => ?_) (fun c_27 => ?_)
        · have h := zk_f c_27 h
          obtain ⟨v_28, ev_28, h⟩ := zk_lt h
          refine lv_iinc (v := v_28) (lv' := [(3, .int v_28), (4, .int r_14), (0, .ref (ad 26)), (1, .int x1), (2, .int x2)]) hx hb dX5_readLevel_77 hl (k := 4) rfl (by rw [ev_28]; rfl) (by decide) rfl (fun ls hl => ?_)
          refine lv_goto (tgt := 21) hx hb dX5_readLevel_80 (by decide) ?_
          exact ih21 x1 x2 v_28 u_24 u_20 u_21 u_25 h H locs ls hP hD hS (lv_sub hl [2, 3, 4, 0] rfl)
        · have h := zk_t c_27 h
          exact W.vret hx hb hr (fun t ht2 hW => ⟨⟨(u_24, u_20, u_21, u_25), rfl, Option.some.inj h, by rw [ht2]; exact hP, hD⟩, hS.F ht2⟩) hS.2.2 dX5_readLevel_76 hlocks
      · have h := zk_f c_17 h
        exact W.vret hx hb hr (fun t ht2 hW => ⟨⟨(lr_size, lr_at, lr_fault, lr_code), rfl, Option.some.inj h, by rw [ht2]; exact hP, hD⟩, hS.F ht2⟩) hS.2.2 dX5_readLevel_46 hlocks
set_option maxHeartbeats 4000000 in
set_option maxRecDepth 100000 in
theorem L_X5_readLevel_0 {p : Program} {l : Launch} {e : Env} {s : State} {m : MethodId} {args : Array Value} {below : List Frame} {meth : Method} {c : Code} {A : Nat → Prop} {D : va_G} {cs : Nat → ClassId} {ad : Nat → Nat} {tape_size : Int32} {tape_bytes : Nat → Int32} {R : Int32 × Int32 × Int32 × (Nat → Int32)} {g21 : Int32 → Int32 → Int32 → Int32 → Int32 → Int32 → (Nat → Int32) → (Option (Int32 × Int32 × Int32 × (Nat → Int32)))} (C0 : zC p s m args meth c cX5_readLevel 5 none RX5 zW) (hK : va_K D classes (zT cs) s) (hA : ∀ q : Nat, s.heap.size ≤ q → A q) {fr lo : Nat} {r_X5_readLevel : Int32 → Int32 → Int32 → (Nat → Int32) → Int32 → Int32 → Int32 → (Nat → Int32) → (Option (Int32 × Int32 × Int32 × (Nat → Int32)))} {r_X5_readOperand : Int32 → Int32 → (Nat → Int32) → Int32 → Int32 → Int32 → (Nat → Int32) → (Option (Int32 × Int32 × Int32 × (Nat → Int32)))} (hr_X5_readLevel : ∀ (D : va_G) (cs : Nat → ClassId) (ad : Nat → Nat) (sz : Nat) (x1 : Int32) (x2 : Int32) (tape_size : Int32) (tape_bytes : Nat → Int32) (lr_size : Int32) (lr_at : Int32) (lr_fault : Int32) (lr_code : Nat → Int32) (R : Int32 × Int32 × Int32 × (Nat → Int32)) (h : r_X5_readLevel x1 x2 tape_size tape_bytes lr_size lr_at lr_fault lr_code = some R), Met l yX5_readLevel z_X5_readLevel ({ frames := fr, cells := 0, slots := 0, locals := lo } : Room) (va_Pc [.ref (ad 26), .int x1, .int x2] (zPre D cs (wl_X5_readLevel ad cs tape_size tape_bytes lr_size lr_at lr_fault lr_code) sz)) (Q_X5_readLevel D cs ad tape_size tape_bytes (va_A (wl_X5_readLevel ad cs tape_size tape_bytes lr_size lr_at lr_fault lr_code) sz) R) 0 0 (va_A (wl_X5_readLevel ad cs tape_size tape_bytes lr_size lr_at lr_fault lr_code) sz)) (hr_X5_readOperand : ∀ (D : va_G) (cs : Nat → ClassId) (ad : Nat → Nat) (sz : Nat) (x1 : Int32) (tape_size : Int32) (tape_bytes : Nat → Int32) (lr_size : Int32) (lr_at : Int32) (lr_fault : Int32) (lr_code : Nat → Int32) (R : Int32 × Int32 × Int32 × (Nat → Int32)) (h : r_X5_readOperand x1 tape_size tape_bytes lr_size lr_at lr_fault lr_code = some R), Met l yX5_readOperand z_X5_readOperand ({ frames := fr, cells := 0, slots := 0, locals := lo } : Room) (va_Pc [.ref (ad 26), .int x1] (zPre D cs (wl_X5_readOperand ad cs tape_size tape_bytes lr_size lr_at lr_fault lr_code) sz)) (Q_X5_readOperand D cs ad tape_size tape_bytes (va_A (wl_X5_readOperand ad cs tape_size tape_bytes lr_size lr_at lr_fault lr_code) sz) R) 0 0 (va_A (wl_X5_readOperand ad cs tape_size tape_bytes lr_size lr_at lr_fault lr_code) sz)) (ih21 : ∀ (x1 : Int32) (x2 : Int32) (x3 : Int32) (lr_size : Int32) (lr_at : Int32) (lr_fault : Int32) (lr_code : Nat → Int32) (h : g21 x1 x2 x3 lr_size lr_at lr_fault lr_code = some R) (H : Heap) (locs : List Loc) (ls : Array Slot) (hP : va_P D classes (wl_X5_readLevel ad cs tape_size tape_bytes lr_size lr_at lr_fault lr_code) H) (hD : va_D A (wl_X5_readLevel ad cs tape_size tape_bytes lr_size lr_at lr_fault lr_code)) (hS : va_S A s.heap H locs) (hl : lv_has ls 5 [(0, .ref (ad 26)), (1, .int x1), (2, .int x2), (3, .int x3)]), W p l e ({ frames := fr + 3, cells := 0, slots := 0, locals := lo + 65 } : Room) s m args below meth c H locs 0 0 (MQ below (Q_X5_readLevel D cs ad tape_size tape_bytes A R) args s 0 0 A) (F0 m 21 ls [])) (x1 : Int32) (x2 : Int32) (lr_size : Int32) (lr_at : Int32) (lr_fault : Int32) (lr_code : Nat → Int32) (h : B_X5_readLevel_0 r_X5_readLevel r_X5_readOperand g21 tape_size tape_bytes x1 x2 lr_size lr_at lr_fault lr_code = some R) (H : Heap) (locs : List Loc) (ls : Array Slot) (hP : va_P D classes (wl_X5_readLevel ad cs tape_size tape_bytes lr_size lr_at lr_fault lr_code) H) (hD : va_D A (wl_X5_readLevel ad cs tape_size tape_bytes lr_size lr_at lr_fault lr_code)) (hS : va_S A s.heap H locs) (hl : lv_has ls 5 [(0, .ref (ad 26)), (1, .int x1), (2, .int x2)]) : W p l e ({ frames := fr + 3, cells := 0, slots := 0, locals := lo + 65 } : Room) s m args below meth c H locs 0 0 (MQ below (Q_X5_readLevel D cs ad tape_size tape_bytes A R) args s 0 0 A) (F0 m 0 ls []) := by
  obtain ⟨hx, hb, hr, hml, hown, ht, hlocks⟩ := id C0
  refine lv_iload_n hx hb dX5_readLevel_0 rfl (lv_at hl 1 rfl) ?_
  refine lv_iconst (v := (4 : Int32)) hx hb dX5_readLevel_1 (by decide) ?_
  refine lv_icmp_le (tgt := 11) hx hb dX5_readLevel_2 (by decide) (fun c_1 => ?_) (fun c_1 => ?_)
  · have h := zk_t c_1 h
    refine lv_aload_n hx hb dX5_readLevel_11 rfl (lv_at hl 0 rfl) ?_
    refine lv_iload_n hx hb dX5_readLevel_12 rfl (lv_at hl 1 rfl) ?_
    refine lv_iconst (v := (1 : Int32)) hx hb dX5_readLevel_13 (by decide) ?_
    refine lv_iadd hx hb dX5_readLevel_14 ?_
    refine lv_iload_n hx hb dX5_readLevel_15 rfl (lv_at hl 2 rfl) ?_
    obtain ⟨u_2, u_3, u_4, u_5, hc_6, h⟩ := zk_o4 h
    refine zk_vv (post := (fun u => u = (u_2, u_3, u_4, u_5))) (w1 := fun u => (wl_X5_readLevel ad cs tape_size tape_bytes u.1 u.2.1 u.2.2.1 u.2.2.2)) (As := [.int (x1 + (1 : Int32)), .int x2]) (rest := []) (hr_X5_readLevel D cs ad  H.size (x1 + (1 : Int32)) x2 tape_size tape_bytes lr_size lr_at lr_fault lr_code _ hc_6) ⟨hx, hb, hml, hown, ht⟩ (cwV 2 ht g_X5_53 rfl rfl rfl (by decide +kernel) ⟨(by show fr + 1 ≤ fr + 3; omega), (by show 8 + (5 + 11) + lo ≤ lo + 65; omega)⟩) (va_recv hK hP (ci := 5) (q0 := 2) rfl rfl) hP hD hS hK hA [0, 1, 2, 3] [] rfl rfl rfl rfl (by decide) rfl hl.1 (Nat.le_of_ble_eq_true rfl) dX5_readLevel_16 ⟨Nat.zero_le _, Nat.zero_le _⟩ (fun u H locs hq hP hD hS => ?_)
    cases hq
    have hP : va_P D classes (wl_X5_readLevel ad cs tape_size tape_bytes u_2 u_3 u_4 u_5) H := hP.sub [0, 1, 2, 3] rfl
    have hD : va_D A (wl_X5_readLevel ad cs tape_size tape_bytes u_2 u_3 u_4 u_5) := hD.sub [0, 1, 2, 3] rfl rfl
    refine lv_iconst (v := (0 : Int32)) hx hb dX5_readLevel_19 (by decide) ?_
    refine lv_istore_n (lv' := [(3, .int (0 : Int32)), (0, .ref (ad 26)), (1, .int x1), (2, .int x2)]) hx hb dX5_readLevel_20 rfl hl (by decide) rfl (fun ls hl => ?_)
    exact ih21 x1 x2 (0 : Int32) u_2 u_3 u_4 u_5 h H locs ls hP hD hS (lv_sub hl [1, 2, 3, 0] rfl)
  · have h := zk_f c_1 h
    refine lv_aload_n hx hb dX5_readLevel_5 rfl (lv_at hl 0 rfl) ?_
    refine lv_iload_n hx hb dX5_readLevel_6 rfl (lv_at hl 2 rfl) ?_
    obtain ⟨u_7, u_8, u_9, u_10, hc_11, h⟩ := zk_o4 h
    refine zk_vv (post := (fun u => u = (u_7, u_8, u_9, u_10))) (w1 := fun u => (wl_X5_readOperand ad cs tape_size tape_bytes u.1 u.2.1 u.2.2.1 u.2.2.2)) (As := [.int x2]) (rest := []) (hr_X5_readOperand D cs ad  H.size x2 tape_size tape_bytes lr_size lr_at lr_fault lr_code _ hc_11) ⟨hx, hb, hml, hown, ht⟩ (cwV 1 ht g_X5_61 rfl rfl rfl (by decide +kernel) ⟨(by show fr + 1 ≤ fr + 3; omega), (by show 8 + (3 + 11) + lo ≤ lo + 65; omega)⟩) (va_recv hK hP (ci := 5) (q0 := 2) rfl rfl) hP hD hS hK hA [0, 1, 2, 3] [] rfl rfl rfl rfl (by decide) rfl hl.1 (Nat.le_of_ble_eq_true rfl) dX5_readLevel_7 ⟨Nat.zero_le _, Nat.zero_le _⟩ (fun u H locs hq hP hD hS => ?_)
    cases hq
    have hP : va_P D classes (wl_X5_readLevel ad cs tape_size tape_bytes u_7 u_8 u_9 u_10) H := hP.sub [0, 1, 2, 3] rfl
    have hD : va_D A (wl_X5_readLevel ad cs tape_size tape_bytes u_7 u_8 u_9 u_10) := hD.sub [0, 1, 2, 3] rfl rfl
    exact W.vret hx hb hr (fun t ht2 hW => ⟨⟨(u_7, u_8, u_9, u_10), rfl, Option.some.inj h, by rw [ht2]; exact hP, hD⟩, hS.F ht2⟩) hS.2.2 dX5_readLevel_10 hlocks
theorem LG_X5_readLevel {p : Program} {l : Launch} {e : Env} {s : State} {m : MethodId} {args : Array Value} {below : List Frame} {meth : Method} {c : Code} {A : Nat → Prop} {D : va_G} {cs : Nat → ClassId} {ad : Nat → Nat} {tape_size : Int32} {tape_bytes : Nat → Int32} {R : Int32 × Int32 × Int32 × (Nat → Int32)} (C0 : zC p s m args meth c cX5_readLevel 5 none RX5 zW) (hK : va_K D classes (zT cs) s) (hA : ∀ q : Nat, s.heap.size ≤ q → A q) {fr lo : Nat} {r_X5_readLevel : Int32 → Int32 → Int32 → (Nat → Int32) → Int32 → Int32 → Int32 → (Nat → Int32) → (Option (Int32 × Int32 × Int32 × (Nat → Int32)))} {r_X5_readOperand : Int32 → Int32 → (Nat → Int32) → Int32 → Int32 → Int32 → (Nat → Int32) → (Option (Int32 × Int32 × Int32 × (Nat → Int32)))} (hr_X5_readLevel : ∀ (D : va_G) (cs : Nat → ClassId) (ad : Nat → Nat) (sz : Nat) (x1 : Int32) (x2 : Int32) (tape_size : Int32) (tape_bytes : Nat → Int32) (lr_size : Int32) (lr_at : Int32) (lr_fault : Int32) (lr_code : Nat → Int32) (R : Int32 × Int32 × Int32 × (Nat → Int32)) (h : r_X5_readLevel x1 x2 tape_size tape_bytes lr_size lr_at lr_fault lr_code = some R), Met l yX5_readLevel z_X5_readLevel ({ frames := fr, cells := 0, slots := 0, locals := lo } : Room) (va_Pc [.ref (ad 26), .int x1, .int x2] (zPre D cs (wl_X5_readLevel ad cs tape_size tape_bytes lr_size lr_at lr_fault lr_code) sz)) (Q_X5_readLevel D cs ad tape_size tape_bytes (va_A (wl_X5_readLevel ad cs tape_size tape_bytes lr_size lr_at lr_fault lr_code) sz) R) 0 0 (va_A (wl_X5_readLevel ad cs tape_size tape_bytes lr_size lr_at lr_fault lr_code) sz)) (hr_X5_readOperand : ∀ (D : va_G) (cs : Nat → ClassId) (ad : Nat → Nat) (sz : Nat) (x1 : Int32) (tape_size : Int32) (tape_bytes : Nat → Int32) (lr_size : Int32) (lr_at : Int32) (lr_fault : Int32) (lr_code : Nat → Int32) (R : Int32 × Int32 × Int32 × (Nat → Int32)) (h : r_X5_readOperand x1 tape_size tape_bytes lr_size lr_at lr_fault lr_code = some R), Met l yX5_readOperand z_X5_readOperand ({ frames := fr, cells := 0, slots := 0, locals := lo } : Room) (va_Pc [.ref (ad 26), .int x1] (zPre D cs (wl_X5_readOperand ad cs tape_size tape_bytes lr_size lr_at lr_fault lr_code) sz)) (Q_X5_readOperand D cs ad tape_size tape_bytes (va_A (wl_X5_readOperand ad cs tape_size tape_bytes lr_size lr_at lr_fault lr_code) sz) R) 0 0 (va_A (wl_X5_readOperand ad cs tape_size tape_bytes lr_size lr_at lr_fault lr_code) sz)) : ∀ n : Nat, (∀ (x1 : Int32) (x2 : Int32) (x3 : Int32) (lr_size : Int32) (lr_at : Int32) (lr_fault : Int32) (lr_code : Nat → Int32) (h : (G_X5_readLevel r_X5_readLevel r_X5_readOperand tape_size tape_bytes n) x1 x2 x3 lr_size lr_at lr_fault lr_code = some R) (H : Heap) (locs : List Loc) (ls : Array Slot) (hP : va_P D classes (wl_X5_readLevel ad cs tape_size tape_bytes lr_size lr_at lr_fault lr_code) H) (hD : va_D A (wl_X5_readLevel ad cs tape_size tape_bytes lr_size lr_at lr_fault lr_code)) (hS : va_S A s.heap H locs) (hl : lv_has ls 5 [(0, .ref (ad 26)), (1, .int x1), (2, .int x2), (3, .int x3)]), W p l e ({ frames := fr + 3, cells := 0, slots := 0, locals := lo + 65 } : Room) s m args below meth c H locs 0 0 (MQ below (Q_X5_readLevel D cs ad tape_size tape_bytes A R) args s 0 0 A) (F0 m 21 ls [])) := by
  intro n
  induction n with
  | zero =>
    refine ?_ <;> (intros; rename_i h _ _ _ _ _ _ _; cases h)
  | succ n ih =>
    exact L_X5_readLevel_21 C0 hK hA hr_X5_readLevel hr_X5_readOperand ih
set_option maxHeartbeats 4000000 in
set_option maxRecDepth 100000 in
theorem c_X5_readLevel (l : Launch) (D : va_G) (cs : Nat → ClassId) (ad : Nat → Nat) {fr lo : Nat} {r_X5_readLevel : Int32 → Int32 → Int32 → (Nat → Int32) → Int32 → Int32 → Int32 → (Nat → Int32) → (Option (Int32 × Int32 × Int32 × (Nat → Int32)))} {r_X5_readOperand : Int32 → Int32 → (Nat → Int32) → Int32 → Int32 → Int32 → (Nat → Int32) → (Option (Int32 × Int32 × Int32 × (Nat → Int32)))} (hr_X5_readLevel : ∀ (D : va_G) (cs : Nat → ClassId) (ad : Nat → Nat) (sz : Nat) (x1 : Int32) (x2 : Int32) (tape_size : Int32) (tape_bytes : Nat → Int32) (lr_size : Int32) (lr_at : Int32) (lr_fault : Int32) (lr_code : Nat → Int32) (R : Int32 × Int32 × Int32 × (Nat → Int32)) (h : r_X5_readLevel x1 x2 tape_size tape_bytes lr_size lr_at lr_fault lr_code = some R), Met l yX5_readLevel z_X5_readLevel ({ frames := fr, cells := 0, slots := 0, locals := lo } : Room) (va_Pc [.ref (ad 26), .int x1, .int x2] (zPre D cs (wl_X5_readLevel ad cs tape_size tape_bytes lr_size lr_at lr_fault lr_code) sz)) (Q_X5_readLevel D cs ad tape_size tape_bytes (va_A (wl_X5_readLevel ad cs tape_size tape_bytes lr_size lr_at lr_fault lr_code) sz) R) 0 0 (va_A (wl_X5_readLevel ad cs tape_size tape_bytes lr_size lr_at lr_fault lr_code) sz)) (hr_X5_readOperand : ∀ (D : va_G) (cs : Nat → ClassId) (ad : Nat → Nat) (sz : Nat) (x1 : Int32) (tape_size : Int32) (tape_bytes : Nat → Int32) (lr_size : Int32) (lr_at : Int32) (lr_fault : Int32) (lr_code : Nat → Int32) (R : Int32 × Int32 × Int32 × (Nat → Int32)) (h : r_X5_readOperand x1 tape_size tape_bytes lr_size lr_at lr_fault lr_code = some R), Met l yX5_readOperand z_X5_readOperand ({ frames := fr, cells := 0, slots := 0, locals := lo } : Room) (va_Pc [.ref (ad 26), .int x1] (zPre D cs (wl_X5_readOperand ad cs tape_size tape_bytes lr_size lr_at lr_fault lr_code) sz)) (Q_X5_readOperand D cs ad tape_size tape_bytes (va_A (wl_X5_readOperand ad cs tape_size tape_bytes lr_size lr_at lr_fault lr_code) sz) R) 0 0 (va_A (wl_X5_readOperand ad cs tape_size tape_bytes lr_size lr_at lr_fault lr_code) sz)) (sz : Nat) (n : Nat) (x1 : Int32) (x2 : Int32) (tape_size : Int32) (tape_bytes : Nat → Int32) (lr_size : Int32) (lr_at : Int32) (lr_fault : Int32) (lr_code : Nat → Int32) (R : Int32 × Int32 × Int32 × (Nat → Int32)) (h : f_X5_readLevel r_X5_readLevel r_X5_readOperand n x1 x2 tape_size tape_bytes lr_size lr_at lr_fault lr_code = some R) : Met l yX5_readLevel (z_X5_readLevel) ({ frames := fr + 3, cells := 0, slots := 0, locals := lo + 65 } : Room) (va_Pc [.ref (ad 26), .int x1, .int x2] (zPre D cs (wl_X5_readLevel ad cs tape_size tape_bytes lr_size lr_at lr_fault lr_code) sz)) (Q_X5_readLevel D cs ad tape_size tape_bytes (va_A (wl_X5_readLevel ad cs tape_size tape_bytes lr_size lr_at lr_fault lr_code) sz) R) 0 0 (va_A (wl_X5_readLevel ad cs tape_size tape_bytes lr_size lr_at lr_fault lr_code) sz) := by
  refine Met.ofW (cc := cX5_readLevel) (maxL := 5) (ret := none) (by decide) rfl ?_
  intro p e s m args below meth c s₁ B hml hv
  obtain ⟨rfl, hsz, hP, hK, hD0⟩ := hv
  subst hsz
  have hD := hD0.self (sz := s.heap.size)
  have C0 : zC p s m _ meth c cX5_readLevel 5 none RX5 zW := ⟨B.exec, B.bytes, B.returns, hml, findClass_of_methodNamed B.named, fun w hw => atoms_spec (ws := z_X5_readLevel) B.pre w (List.mem_cons_of_mem _ hw), B.notSynchronized⟩
  have hA : ∀ q : Nat, s.heap.size ≤ q → va_A (wl_X5_readLevel ad cs tape_size tape_bytes lr_size lr_at lr_fault lr_code) s.heap.size q := fun q h => Or.inr h
  have hl := lv_entry ([.ref (ad 26), .int x1, .int x2]) (n := 5) (Nat.le_of_ble_eq_true rfl)
  rw [lg_entry_eq]
  generalize (lg_sl ([.ref (ad 26), .int x1, .int x2]) ++ List.replicate (5 - (lg_sl ([.ref (ad 26), .int x1, .int x2])).length) Slot.unset).toArray = ls at hl ⊢
  exact L_X5_readLevel_0 C0 hK hA hr_X5_readLevel hr_X5_readOperand ((LG_X5_readLevel C0 hK hA hr_X5_readLevel hr_X5_readOperand n)) x1 x2 lr_size lr_at lr_fault lr_code h s.heap [] ls hP hD va_S.rf hl
set_option maxHeartbeats 4000000 in
set_option maxRecDepth 100000 in
theorem L_X5_readOperand_80 {p : Program} {l : Launch} {e : Env} {s : State} {m : MethodId} {args : Array Value} {below : List Frame} {meth : Method} {c : Code} {A : Nat → Prop} {D : va_G} {cs : Nat → ClassId} {ad : Nat → Nat} {tape_size : Int32} {tape_bytes : Nat → Int32} {R : Int32 × Int32 × Int32 × (Nat → Int32)} (C0 : zC p s m args meth c cX5_readOperand 3 none RX5 zW) (hK : va_K D classes (zT cs) s) (hA : ∀ q : Nat, s.heap.size ≤ q → A q) {fr lo : Nat} {r_X5_readLevel : Int32 → Int32 → Int32 → (Nat → Int32) → Int32 → Int32 → Int32 → (Nat → Int32) → (Option (Int32 × Int32 × Int32 × (Nat → Int32)))} {r_X5_readOperand : Int32 → Int32 → (Nat → Int32) → Int32 → Int32 → Int32 → (Nat → Int32) → (Option (Int32 × Int32 × Int32 × (Nat → Int32)))} (hr_X5_readLevel : ∀ (D : va_G) (cs : Nat → ClassId) (ad : Nat → Nat) (sz : Nat) (x1 : Int32) (x2 : Int32) (tape_size : Int32) (tape_bytes : Nat → Int32) (lr_size : Int32) (lr_at : Int32) (lr_fault : Int32) (lr_code : Nat → Int32) (R : Int32 × Int32 × Int32 × (Nat → Int32)) (h : r_X5_readLevel x1 x2 tape_size tape_bytes lr_size lr_at lr_fault lr_code = some R), Met l yX5_readLevel z_X5_readLevel ({ frames := fr, cells := 0, slots := 0, locals := lo } : Room) (va_Pc [.ref (ad 26), .int x1, .int x2] (zPre D cs (wl_X5_readLevel ad cs tape_size tape_bytes lr_size lr_at lr_fault lr_code) sz)) (Q_X5_readLevel D cs ad tape_size tape_bytes (va_A (wl_X5_readLevel ad cs tape_size tape_bytes lr_size lr_at lr_fault lr_code) sz) R) 0 0 (va_A (wl_X5_readLevel ad cs tape_size tape_bytes lr_size lr_at lr_fault lr_code) sz)) (hr_X5_readOperand : ∀ (D : va_G) (cs : Nat → ClassId) (ad : Nat → Nat) (sz : Nat) (x1 : Int32) (tape_size : Int32) (tape_bytes : Nat → Int32) (lr_size : Int32) (lr_at : Int32) (lr_fault : Int32) (lr_code : Nat → Int32) (R : Int32 × Int32 × Int32 × (Nat → Int32)) (h : r_X5_readOperand x1 tape_size tape_bytes lr_size lr_at lr_fault lr_code = some R), Met l yX5_readOperand z_X5_readOperand ({ frames := fr, cells := 0, slots := 0, locals := lo } : Room) (va_Pc [.ref (ad 26), .int x1] (zPre D cs (wl_X5_readOperand ad cs tape_size tape_bytes lr_size lr_at lr_fault lr_code) sz)) (Q_X5_readOperand D cs ad tape_size tape_bytes (va_A (wl_X5_readOperand ad cs tape_size tape_bytes lr_size lr_at lr_fault lr_code) sz) R) 0 0 (va_A (wl_X5_readOperand ad cs tape_size tape_bytes lr_size lr_at lr_fault lr_code) sz)) (s0 : Int32) (lr_size : Int32) (lr_at : Int32) (lr_fault : Int32) (lr_code : Nat → Int32) (h : B_X5_readOperand_80 r_X5_readLevel r_X5_readOperand tape_size tape_bytes s0 lr_size lr_at lr_fault lr_code = some R) (H : Heap) (locs : List Loc) (ls : Array Slot) (hP : va_P D classes (wl_X5_readOperand ad cs tape_size tape_bytes lr_size lr_at lr_fault lr_code) H) (hD : va_D A (wl_X5_readOperand ad cs tape_size tape_bytes lr_size lr_at lr_fault lr_code)) (hS : va_S A s.heap H locs) (hl : lv_has ls 3 []) : W p l e ({ frames := fr + 3, cells := 0, slots := 0, locals := lo + 65 } : Room) s m args below meth c H locs 0 0 (MQ below (Q_X5_readOperand D cs ad tape_size tape_bytes A R) args s 0 0 A) (F0 m 80 ls [.int s0, .ref (ad 26)]) := by
  obtain ⟨hx, hb, hr, hml, hown, ht, hlocks⟩ := id C0
  obtain ⟨u_43, u_44, hc_45, h⟩ := zk_o2 h
  refine zk_vv (post := (fun u => u = (u_43, u_44))) (w1 := fun u => (wl_X5_emit ad cs u.1 lr_at lr_fault u.2)) (As := [.int s0]) (rest := []) (c_X5_emit l D cs ad  H.size s0 lr_size lr_at lr_fault lr_code _ hc_45) ⟨hx, hb, hml, hown, ht⟩ (cwV 1 ht g_X5_57 rfl rfl rfl (by decide +kernel) ⟨(by show 0 + 1 ≤ fr + 3; omega), (by show 8 + (2 + 11) + 0 ≤ lo + 65; omega)⟩) (va_recv hK hP (ci := 5) (q0 := 2) rfl rfl) hP hD hS hK hA [2, 3] [0, 1] rfl rfl rfl rfl (by decide) rfl hl.1 (Nat.le_of_ble_eq_true rfl) dX5_readOperand_80 ⟨Nat.zero_le _, Nat.zero_le _⟩ (fun u H locs hq hP hD hS => ?_)
  cases hq
  have hP : va_P D classes (wl_X5_readOperand ad cs tape_size tape_bytes u_43 lr_at lr_fault u_44) H := hP.sub [0, 1, 2, 3] rfl
  have hD : va_D A (wl_X5_readOperand ad cs tape_size tape_bytes u_43 lr_at lr_fault u_44) := hD.sub [0, 1, 2, 3] rfl rfl
  refine lv_goto (tgt := 129) hx hb dX5_readOperand_83 (by decide) ?_
  exact W.vret hx hb hr (fun t ht2 hW => ⟨⟨(u_43, lr_at, lr_fault, u_44), rfl, Option.some.inj h, by rw [ht2]; exact hP, hD⟩, hS.F ht2⟩) hS.2.2 dX5_readOperand_129 hlocks
set_option maxHeartbeats 4000000 in
set_option maxRecDepth 100000 in
theorem L_X5_readOperand_53 {p : Program} {l : Launch} {e : Env} {s : State} {m : MethodId} {args : Array Value} {below : List Frame} {meth : Method} {c : Code} {A : Nat → Prop} {D : va_G} {cs : Nat → ClassId} {ad : Nat → Nat} {tape_size : Int32} {tape_bytes : Nat → Int32} {R : Int32 × Int32 × Int32 × (Nat → Int32)} (C0 : zC p s m args meth c cX5_readOperand 3 none RX5 zW) (hK : va_K D classes (zT cs) s) (hA : ∀ q : Nat, s.heap.size ≤ q → A q) {fr lo : Nat} {r_X5_readLevel : Int32 → Int32 → Int32 → (Nat → Int32) → Int32 → Int32 → Int32 → (Nat → Int32) → (Option (Int32 × Int32 × Int32 × (Nat → Int32)))} {r_X5_readOperand : Int32 → Int32 → (Nat → Int32) → Int32 → Int32 → Int32 → (Nat → Int32) → (Option (Int32 × Int32 × Int32 × (Nat → Int32)))} (hr_X5_readLevel : ∀ (D : va_G) (cs : Nat → ClassId) (ad : Nat → Nat) (sz : Nat) (x1 : Int32) (x2 : Int32) (tape_size : Int32) (tape_bytes : Nat → Int32) (lr_size : Int32) (lr_at : Int32) (lr_fault : Int32) (lr_code : Nat → Int32) (R : Int32 × Int32 × Int32 × (Nat → Int32)) (h : r_X5_readLevel x1 x2 tape_size tape_bytes lr_size lr_at lr_fault lr_code = some R), Met l yX5_readLevel z_X5_readLevel ({ frames := fr, cells := 0, slots := 0, locals := lo } : Room) (va_Pc [.ref (ad 26), .int x1, .int x2] (zPre D cs (wl_X5_readLevel ad cs tape_size tape_bytes lr_size lr_at lr_fault lr_code) sz)) (Q_X5_readLevel D cs ad tape_size tape_bytes (va_A (wl_X5_readLevel ad cs tape_size tape_bytes lr_size lr_at lr_fault lr_code) sz) R) 0 0 (va_A (wl_X5_readLevel ad cs tape_size tape_bytes lr_size lr_at lr_fault lr_code) sz)) (hr_X5_readOperand : ∀ (D : va_G) (cs : Nat → ClassId) (ad : Nat → Nat) (sz : Nat) (x1 : Int32) (tape_size : Int32) (tape_bytes : Nat → Int32) (lr_size : Int32) (lr_at : Int32) (lr_fault : Int32) (lr_code : Nat → Int32) (R : Int32 × Int32 × Int32 × (Nat → Int32)) (h : r_X5_readOperand x1 tape_size tape_bytes lr_size lr_at lr_fault lr_code = some R), Met l yX5_readOperand z_X5_readOperand ({ frames := fr, cells := 0, slots := 0, locals := lo } : Room) (va_Pc [.ref (ad 26), .int x1] (zPre D cs (wl_X5_readOperand ad cs tape_size tape_bytes lr_size lr_at lr_fault lr_code) sz)) (Q_X5_readOperand D cs ad tape_size tape_bytes (va_A (wl_X5_readOperand ad cs tape_size tape_bytes lr_size lr_at lr_fault lr_code) sz) R) 0 0 (va_A (wl_X5_readOperand ad cs tape_size tape_bytes lr_size lr_at lr_fault lr_code) sz)) (x1 : Int32) (x2 : Int32) (lr_size : Int32) (lr_at : Int32) (lr_fault : Int32) (lr_code : Nat → Int32) (h : B_X5_readOperand_53 r_X5_readLevel r_X5_readOperand tape_size tape_bytes x1 x2 lr_size lr_at lr_fault lr_code = some R) (H : Heap) (locs : List Loc) (ls : Array Slot) (hP : va_P D classes (wl_X5_readOperand ad cs tape_size tape_bytes lr_size lr_at lr_fault lr_code) H) (hD : va_D A (wl_X5_readOperand ad cs tape_size tape_bytes lr_size lr_at lr_fault lr_code)) (hS : va_S A s.heap H locs) (hl : lv_has ls 3 [(0, .ref (ad 26)), (1, .int x1), (2, .int x2)]) : W p l e ({ frames := fr + 3, cells := 0, slots := 0, locals := lo + 65 } : Room) s m args below meth c H locs 0 0 (MQ below (Q_X5_readOperand D cs ad tape_size tape_bytes A R) args s 0 0 A) (F0 m 53 ls []) := by
  obtain ⟨hx, hb, hr, hml, hown, ht, hlocks⟩ := id C0
  refine lv_aload_n hx hb dX5_readOperand_53 rfl (lv_at hl 0 rfl) ?_
  refine lv_iload_n hx hb dX5_readOperand_54 rfl (lv_at hl 1 rfl) ?_
  obtain ⟨r_32, u_33, u_34, hc_35, h⟩ := zk_o3 h
  refine zk_vi (post := (fun r u => (r, u) = (r_32, u_33, u_34))) (w1 := fun u => (wl_X5_mayOpen ad cs lr_size u.1 u.2)) (As := [.int x1]) (rest := []) (c_X5_mayOpen l D cs ad  H.size x1 lr_size lr_at lr_fault _ hc_35) ⟨hx, hb, hml, hown, ht⟩ (cwV 1 ht g_X5_77 rfl rfl rfl (by decide +kernel) ⟨(by show 1 + 1 ≤ fr + 3; omega), (by show 8 + (2 + 11) + 20 ≤ lo + 65; omega)⟩) (va_recv hK hP (ci := 5) (q0 := 2) rfl rfl) hP hD hS hK hA [2] [0, 1, 3] rfl rfl rfl rfl (by decide) rfl hl.1 (Nat.le_of_ble_eq_true rfl) dX5_readOperand_55 ⟨Nat.zero_le _, Nat.zero_le _⟩ (fun r u H locs hq hP hD hS => ?_)
  cases hq
  have hP : va_P D classes (wl_X5_readOperand ad cs tape_size tape_bytes lr_size u_33 u_34 lr_code) H := hP.sub [0, 1, 3, 2] rfl
  have hD : va_D A (wl_X5_readOperand ad cs tape_size tape_bytes lr_size u_33 u_34 lr_code) := hD.sub [0, 1, 3, 2] rfl rfl
  refine lv_if_eq (tgt := 129) hx hb dX5_readOperand_58 (by decide) (fun c_36 => ?_) (fun c_36 => ?_)
  · have h := zk_t c_36 h
    exact W.vret hx hb hr (fun t ht2 hW => ⟨⟨(lr_size, u_33, u_34, lr_code), rfl, Option.some.inj h, by rw [ht2]; exact hP, hD⟩, hS.F ht2⟩) hS.2.2 dX5_readOperand_129 hlocks
  · have h := zk_f c_36 h
    refine lv_aload_n hx hb dX5_readOperand_61 rfl (lv_at hl 0 rfl) ?_
    refine lv_iload_n hx hb dX5_readOperand_62 rfl (lv_at hl 1 rfl) ?_
    refine lv_iconst (v := (1 : Int32)) hx hb dX5_readOperand_63 (by decide) ?_
    refine lv_iadd hx hb dX5_readOperand_64 ?_
    obtain ⟨u_37, u_38, u_39, u_40, hc_41, h⟩ := zk_o4 h
    refine zk_vv (post := (fun u => u = (u_37, u_38, u_39, u_40))) (w1 := fun u => (wl_X5_readOperand ad cs tape_size tape_bytes u.1 u.2.1 u.2.2.1 u.2.2.2)) (As := [.int (x1 + (1 : Int32))]) (rest := []) (hr_X5_readOperand D cs ad  H.size (x1 + (1 : Int32)) tape_size tape_bytes lr_size u_33 u_34 lr_code _ hc_41) ⟨hx, hb, hml, hown, ht⟩ (cwV 1 ht g_X5_61 rfl rfl rfl (by decide +kernel) ⟨(by show fr + 1 ≤ fr + 3; omega), (by show 8 + (3 + 11) + lo ≤ lo + 65; omega)⟩) (va_recv hK hP (ci := 5) (q0 := 2) rfl rfl) hP hD hS hK hA [0, 1, 2, 3] [] rfl rfl rfl rfl (by decide) rfl hl.1 (Nat.le_of_ble_eq_true rfl) dX5_readOperand_65 ⟨Nat.zero_le _, Nat.zero_le _⟩ (fun u H locs hq hP hD hS => ?_)
    cases hq
    have hP : va_P D classes (wl_X5_readOperand ad cs tape_size tape_bytes u_37 u_38 u_39 u_40) H := hP.sub [0, 1, 2, 3] rfl
    have hD : va_D A (wl_X5_readOperand ad cs tape_size tape_bytes u_37 u_38 u_39 u_40) := hD.sub [0, 1, 2, 3] rfl rfl
    refine lv_aload_n hx hb dX5_readOperand_68 rfl (lv_at hl 0 rfl) ?_
    refine lv_iload_n hx hb dX5_readOperand_69 rfl (lv_at hl 2 rfl) ?_
    refine lv_bipush (v := (33 : Int32)) hx hb dX5_readOperand_70 (by decide) ?_
    refine lv_icmp_ne (tgt := 79) hx hb dX5_readOperand_72 (by decide) (fun c_42 => ?_) (fun c_42 => ?_)
    · have h := zk_f c_42 h
      refine lv_iconst (v := (5 : Int32)) hx hb dX5_readOperand_79 (by decide) ?_
      exact L_X5_readOperand_80 C0 hK hA hr_X5_readLevel hr_X5_readOperand  (5 : Int32) u_37 u_38 u_39 u_40 h H locs ls hP hD hS (lv_sub hl [] rfl)
    · have h := zk_t c_42 h
      refine lv_iconst (v := (4 : Int32)) hx hb dX5_readOperand_75 (by decide) ?_
      refine lv_goto (tgt := 80) hx hb dX5_readOperand_76 (by decide) ?_
      exact L_X5_readOperand_80 C0 hK hA hr_X5_readLevel hr_X5_readOperand  (4 : Int32) u_37 u_38 u_39 u_40 h H locs ls hP hD hS (lv_sub hl [] rfl)
set_option maxHeartbeats 4000000 in
set_option maxRecDepth 100000 in
theorem L_X5_readOperand_0 {p : Program} {l : Launch} {e : Env} {s : State} {m : MethodId} {args : Array Value} {below : List Frame} {meth : Method} {c : Code} {A : Nat → Prop} {D : va_G} {cs : Nat → ClassId} {ad : Nat → Nat} {tape_size : Int32} {tape_bytes : Nat → Int32} {R : Int32 × Int32 × Int32 × (Nat → Int32)} (C0 : zC p s m args meth c cX5_readOperand 3 none RX5 zW) (hK : va_K D classes (zT cs) s) (hA : ∀ q : Nat, s.heap.size ≤ q → A q) {fr lo : Nat} {r_X5_readLevel : Int32 → Int32 → Int32 → (Nat → Int32) → Int32 → Int32 → Int32 → (Nat → Int32) → (Option (Int32 × Int32 × Int32 × (Nat → Int32)))} {r_X5_readOperand : Int32 → Int32 → (Nat → Int32) → Int32 → Int32 → Int32 → (Nat → Int32) → (Option (Int32 × Int32 × Int32 × (Nat → Int32)))} (hr_X5_readLevel : ∀ (D : va_G) (cs : Nat → ClassId) (ad : Nat → Nat) (sz : Nat) (x1 : Int32) (x2 : Int32) (tape_size : Int32) (tape_bytes : Nat → Int32) (lr_size : Int32) (lr_at : Int32) (lr_fault : Int32) (lr_code : Nat → Int32) (R : Int32 × Int32 × Int32 × (Nat → Int32)) (h : r_X5_readLevel x1 x2 tape_size tape_bytes lr_size lr_at lr_fault lr_code = some R), Met l yX5_readLevel z_X5_readLevel ({ frames := fr, cells := 0, slots := 0, locals := lo } : Room) (va_Pc [.ref (ad 26), .int x1, .int x2] (zPre D cs (wl_X5_readLevel ad cs tape_size tape_bytes lr_size lr_at lr_fault lr_code) sz)) (Q_X5_readLevel D cs ad tape_size tape_bytes (va_A (wl_X5_readLevel ad cs tape_size tape_bytes lr_size lr_at lr_fault lr_code) sz) R) 0 0 (va_A (wl_X5_readLevel ad cs tape_size tape_bytes lr_size lr_at lr_fault lr_code) sz)) (hr_X5_readOperand : ∀ (D : va_G) (cs : Nat → ClassId) (ad : Nat → Nat) (sz : Nat) (x1 : Int32) (tape_size : Int32) (tape_bytes : Nat → Int32) (lr_size : Int32) (lr_at : Int32) (lr_fault : Int32) (lr_code : Nat → Int32) (R : Int32 × Int32 × Int32 × (Nat → Int32)) (h : r_X5_readOperand x1 tape_size tape_bytes lr_size lr_at lr_fault lr_code = some R), Met l yX5_readOperand z_X5_readOperand ({ frames := fr, cells := 0, slots := 0, locals := lo } : Room) (va_Pc [.ref (ad 26), .int x1] (zPre D cs (wl_X5_readOperand ad cs tape_size tape_bytes lr_size lr_at lr_fault lr_code) sz)) (Q_X5_readOperand D cs ad tape_size tape_bytes (va_A (wl_X5_readOperand ad cs tape_size tape_bytes lr_size lr_at lr_fault lr_code) sz) R) 0 0 (va_A (wl_X5_readOperand ad cs tape_size tape_bytes lr_size lr_at lr_fault lr_code) sz)) (x1 : Int32) (lr_size : Int32) (lr_at : Int32) (lr_fault : Int32) (lr_code : Nat → Int32) (h : B_X5_readOperand_0 r_X5_readLevel r_X5_readOperand tape_size tape_bytes x1 lr_size lr_at lr_fault lr_code = some R) (H : Heap) (locs : List Loc) (ls : Array Slot) (hP : va_P D classes (wl_X5_readOperand ad cs tape_size tape_bytes lr_size lr_at lr_fault lr_code) H) (hD : va_D A (wl_X5_readOperand ad cs tape_size tape_bytes lr_size lr_at lr_fault lr_code)) (hS : va_S A s.heap H locs) (hl : lv_has ls 3 [(0, .ref (ad 26)), (1, .int x1)]) : W p l e ({ frames := fr + 3, cells := 0, slots := 0, locals := lo + 65 } : Room) s m args below meth c H locs 0 0 (MQ below (Q_X5_readOperand D cs ad tape_size tape_bytes A R) args s 0 0 A) (F0 m 0 ls []) := by
  obtain ⟨hx, hb, hr, hml, hown, ht, hlocks⟩ := id C0
  refine lv_aload_n hx hb dX5_readOperand_0 rfl (lv_at hl 0 rfl) ?_
  refine va_get (D := D) (ci := 5) (v := .ref (ad 23)) (C := RX5) (T := TX5) (N := 5) hx hb ht iX5 hown hK hP 2 rfl rfl 0 (by decide) (ht _ kw_274) (fun _ h9 => h9) rfl dX5_readOperand_1 ?_
  refine lv_aload_n hx hb dX5_readOperand_4 rfl (lv_at hl 0 rfl) ?_
  refine va_get (D := D) (ci := 5) (v := .int lr_at) (C := RX5) (T := TX5) (N := 5) hx hb ht iX5 hown hK hP 2 rfl rfl 3 (by decide) (ht _ kw_277) (fun _ h9 => h9) rfl dX5_readOperand_5 ?_
  obtain ⟨r_1, u_2, hc_3, h⟩ := zk_o2 h
  refine zk_vi (post := (fun r u => (r, u) = (r_1, u_2))) (w1 := fun u => (wl_X9_byteAt ad cs tape_size tape_bytes)) (As := [.int lr_at]) (rest := []) (c_X9_byteAt l D cs ad  H.size lr_at tape_size tape_bytes _ hc_3) ⟨hx, hb, hml, hown, ht⟩ (cwV 1 ht g_X5_68 rfl rfl rfl (by decide +kernel) ⟨(by show 0 + 1 ≤ fr + 3; omega), (by show 8 + (2 + 11) + 0 ≤ lo + 65; omega)⟩) (va_recv hK hP (ci := 9) (q0 := 0) rfl rfl) hP hD hS hK hA [0, 1] [2, 3] rfl rfl rfl rfl (by decide) rfl hl.1 (Nat.le_of_ble_eq_true rfl) dX5_readOperand_8 ⟨Nat.zero_le _, Nat.zero_le _⟩ (fun r u H locs hq hP hD hS => ?_)
  cases hq
  have hP : va_P D classes (wl_X5_readOperand ad cs tape_size tape_bytes lr_size lr_at lr_fault lr_code) H := hP.sub [2, 3, 0, 1] rfl
  have hD : va_D A (wl_X5_readOperand ad cs tape_size tape_bytes lr_size lr_at lr_fault lr_code) := hD.sub [2, 3, 0, 1] rfl rfl
  refine lv_istore_n (lv' := [(2, .int r_1), (0, .ref (ad 26)), (1, .int x1)]) hx hb dX5_readOperand_11 rfl hl (by decide) rfl (fun ls hl => ?_)
  refine lv_aload_n hx hb dX5_readOperand_12 rfl (lv_at hl 1 rfl) ?_
  refine va_get (D := D) (ci := 5) (v := .int lr_fault) (C := RX5) (T := TX5) (N := 5) hx hb ht iX5 hown hK hP 2 rfl rfl 4 (by decide) (ht _ kw_278) (fun _ h9 => h9) rfl dX5_readOperand_13 ?_
  refine lv_if_lt (tgt := 20) hx hb dX5_readOperand_16 (by decide) (fun c_4 => ?_) (fun c_4 => ?_)
  · have h := zk_t c_4 h
    refine lv_aload_n hx hb dX5_readOperand_20 rfl (lv_at hl 1 rfl) ?_
    refine va_get (D := D) (ci := 5) (v := .ref (ad 23)) (C := RX5) (T := TX5) (N := 5) hx hb ht iX5 hown hK hP 2 rfl rfl 0 (by decide) (ht _ kw_274) (fun _ h9 => h9) rfl dX5_readOperand_21 ?_
    refine lv_aload_n hx hb dX5_readOperand_24 rfl (lv_at hl 1 rfl) ?_
    refine va_get (D := D) (ci := 5) (v := .int lr_at) (C := RX5) (T := TX5) (N := 5) hx hb ht iX5 hown hK hP 2 rfl rfl 3 (by decide) (ht _ kw_277) (fun _ h9 => h9) rfl dX5_readOperand_25 ?_
    obtain ⟨r_5, u_6, hc_7, h⟩ := zk_o2 h
    refine zk_vi (post := (fun r u => (r, u) = (r_5, u_6))) (w1 := fun u => (wl_X9_isDigitAt ad cs tape_size tape_bytes)) (As := [.int lr_at]) (rest := []) (c_X9_isDigitAt l D cs ad  H.size lr_at tape_size tape_bytes _ hc_7) ⟨hx, hb, hml, hown, ht⟩ (cwV 1 ht g_X5_71 rfl rfl rfl (by decide +kernel) ⟨(by show 1 + 1 ≤ fr + 3; omega), (by show 8 + (3 + 11) + 21 ≤ lo + 65; omega)⟩) (va_recv hK hP (ci := 9) (q0 := 0) rfl rfl) hP hD hS hK hA [0, 1] [2, 3] rfl rfl rfl rfl (by decide) rfl hl.1 (Nat.le_of_ble_eq_true rfl) dX5_readOperand_28 ⟨Nat.zero_le _, Nat.zero_le _⟩ (fun r u H locs hq hP hD hS => ?_)
    cases hq
    have hP : va_P D classes (wl_X5_readOperand ad cs tape_size tape_bytes lr_size lr_at lr_fault lr_code) H := hP.sub [2, 3, 0, 1] rfl
    have hD : va_D A (wl_X5_readOperand ad cs tape_size tape_bytes lr_size lr_at lr_fault lr_code) := hD.sub [2, 3, 0, 1] rfl rfl
    refine lv_if_eq (tgt := 41) hx hb dX5_readOperand_31 (by decide) (fun c_8 => ?_) (fun c_8 => ?_)
    · have h := zk_t c_8 h
      refine lv_iload_n hx hb dX5_readOperand_41 rfl (lv_at hl 0 rfl) ?_
      refine lv_bipush (v := (33 : Int32)) hx hb dX5_readOperand_42 (by decide) ?_
      refine lv_icmp_eq (tgt := 53) hx hb dX5_readOperand_44 (by decide) (fun c_9 => ?_) (fun c_9 => ?_)
      · have h := zk_t c_9 h
        exact L_X5_readOperand_53 C0 hK hA hr_X5_readLevel hr_X5_readOperand  x1 r_1 lr_size lr_at lr_fault lr_code h H locs ls hP hD hS (lv_sub hl [1, 2, 0] rfl)
      · have h := zk_f c_9 h
        refine lv_iload_n hx hb dX5_readOperand_47 rfl (lv_at hl 0 rfl) ?_
        refine lv_bipush (v := (45 : Int32)) hx hb dX5_readOperand_48 (by decide) ?_
        refine lv_icmp_ne (tgt := 86) hx hb dX5_readOperand_50 (by decide) (fun c_10 => ?_) (fun c_10 => ?_)
        · have h := zk_f c_10 h
          refine lv_iload_n hx hb dX5_readOperand_86 rfl (lv_at hl 0 rfl) ?_
          refine lv_bipush (v := (40 : Int32)) hx hb dX5_readOperand_87 (by decide) ?_
          refine lv_icmp_ne (tgt := 124) hx hb dX5_readOperand_89 (by decide) (fun c_11 => ?_) (fun c_11 => ?_)
          · have h := zk_f c_11 h
            refine lv_aload_n hx hb dX5_readOperand_124 rfl (lv_at hl 1 rfl) ?_
            refine lv_iload_n hx hb dX5_readOperand_125 rfl (lv_at hl 0 rfl) ?_
            cases h
          · have h := zk_t c_11 h
            refine lv_aload_n hx hb dX5_readOperand_92 rfl (lv_at hl 1 rfl) ?_
            refine lv_iload_n hx hb dX5_readOperand_93 rfl (lv_at hl 2 rfl) ?_
            obtain ⟨r_12, u_13, u_14, hc_15, h⟩ := zk_o3 h
            refine zk_vi (post := (fun r u => (r, u) = (r_12, u_13, u_14))) (w1 := fun u => (wl_X5_mayOpen ad cs lr_size u.1 u.2)) (As := [.int x1]) (rest := []) (c_X5_mayOpen l D cs ad  H.size x1 lr_size lr_at lr_fault _ hc_15) ⟨hx, hb, hml, hown, ht⟩ (cwV 1 ht g_X5_77 rfl rfl rfl (by decide +kernel) ⟨(by show 1 + 1 ≤ fr + 3; omega), (by show 8 + (2 + 11) + 20 ≤ lo + 65; omega)⟩) (va_recv hK hP (ci := 5) (q0 := 2) rfl rfl) hP hD hS hK hA [2] [0, 1, 3] rfl rfl rfl rfl (by decide) rfl hl.1 (Nat.le_of_ble_eq_true rfl) dX5_readOperand_94 ⟨Nat.zero_le _, Nat.zero_le _⟩ (fun r u H locs hq hP hD hS => ?_)
            cases hq
            have hP : va_P D classes (wl_X5_readOperand ad cs tape_size tape_bytes lr_size u_13 u_14 lr_code) H := hP.sub [0, 1, 3, 2] rfl
            have hD : va_D A (wl_X5_readOperand ad cs tape_size tape_bytes lr_size u_13 u_14 lr_code) := hD.sub [0, 1, 3, 2] rfl rfl
            refine lv_if_eq (tgt := 129) hx hb dX5_readOperand_97 (by decide) (fun c_16 => ?_) (fun c_16 => ?_)
            · have h := zk_t c_16 h
              exact W.vret hx hb hr (fun t ht2 hW => ⟨⟨(lr_size, u_13, u_14, lr_code), rfl, Option.some.inj h, by rw [ht2]; exact hP, hD⟩, hS.F ht2⟩) hS.2.2 dX5_readOperand_129 hlocks
            · have h := zk_f c_16 h
              refine lv_aload_n hx hb dX5_readOperand_100 rfl (lv_at hl 1 rfl) ?_
              refine lv_iconst (v := (0 : Int32)) hx hb dX5_readOperand_101 (by decide) ?_
              refine lv_iload_n hx hb dX5_readOperand_102 rfl (lv_at hl 2 rfl) ?_
              refine lv_iconst (v := (1 : Int32)) hx hb dX5_readOperand_103 (by decide) ?_
              refine lv_iadd hx hb dX5_readOperand_104 ?_
              obtain ⟨u_17, u_18, u_19, u_20, hc_21, h⟩ := zk_o4 h
              refine zk_vv (post := (fun u => u = (u_17, u_18, u_19, u_20))) (w1 := fun u => (wl_X5_readLevel ad cs tape_size tape_bytes u.1 u.2.1 u.2.2.1 u.2.2.2)) (As := [.int (0 : Int32), .int (x1 + (1 : Int32))]) (rest := []) (hr_X5_readLevel D cs ad  H.size (0 : Int32) (x1 + (1 : Int32)) tape_size tape_bytes lr_size u_13 u_14 lr_code _ hc_21) ⟨hx, hb, hml, hown, ht⟩ (cwV 2 ht g_X5_53 rfl rfl rfl (by decide +kernel) ⟨(by show fr + 1 ≤ fr + 3; omega), (by show 8 + (5 + 11) + lo ≤ lo + 65; omega)⟩) (va_recv hK hP (ci := 5) (q0 := 2) rfl rfl) hP hD hS hK hA [0, 1, 2, 3] [] rfl rfl rfl rfl (by decide) rfl hl.1 (Nat.le_of_ble_eq_true rfl) dX5_readOperand_105 ⟨Nat.zero_le _, Nat.zero_le _⟩ (fun u H locs hq hP hD hS => ?_)
              cases hq
              have hP : va_P D classes (wl_X5_readOperand ad cs tape_size tape_bytes u_17 u_18 u_19 u_20) H := hP.sub [0, 1, 2, 3] rfl
              have hD : va_D A (wl_X5_readOperand ad cs tape_size tape_bytes u_17 u_18 u_19 u_20) := hD.sub [0, 1, 2, 3] rfl rfl
              refine lv_aload_n hx hb dX5_readOperand_108 rfl (lv_at hl 1 rfl) ?_
              refine lv_bipush (v := (41 : Int32)) hx hb dX5_readOperand_109 (by decide) ?_
              obtain ⟨r_22, u_23, hc_24, h⟩ := zk_o2 h
              refine zk_vi (post := (fun r u => (r, u) = (r_22, u_23))) (w1 := fun u => (wl_X5_accept ad cs tape_size tape_bytes u_17 u u_19)) (As := [.int (41 : Int32)]) (rest := []) (c_X5_accept l D cs ad  H.size (41 : Int32) tape_size tape_bytes u_17 u_18 u_19 _ hc_24) ⟨hx, hb, hml, hown, ht⟩ (cwV 1 ht g_X5_32 rfl rfl rfl (by decide +kernel) ⟨(by show 1 + 1 ≤ fr + 3; omega), (by show 8 + (2 + 11) + 21 ≤ lo + 65; omega)⟩) (va_recv hK hP (ci := 5) (q0 := 2) rfl rfl) hP hD hS hK hA [0, 1, 2] [3] rfl rfl rfl rfl (by decide) rfl hl.1 (Nat.le_of_ble_eq_true rfl) dX5_readOperand_111 ⟨Nat.zero_le _, Nat.zero_le _⟩ (fun r u H locs hq hP hD hS => ?_)
              cases hq
              have hP : va_P D classes (wl_X5_readOperand ad cs tape_size tape_bytes u_17 u_23 u_19 u_20) H := hP.sub [1, 2, 3, 0] rfl
              have hD : va_D A (wl_X5_readOperand ad cs tape_size tape_bytes u_17 u_23 u_19 u_20) := hD.sub [1, 2, 3, 0] rfl rfl
              refine lv_if_ne (tgt := 129) hx hb dX5_readOperand_114 (by decide) (fun c_25 => ?_) (fun c_25 => ?_)
              · have h := zk_f c_25 h
                exact W.vret hx hb hr (fun t ht2 hW => ⟨⟨(u_17, u_23, u_19, u_20), rfl, Option.some.inj h, by rw [ht2]; exact hP, hD⟩, hS.F ht2⟩) hS.2.2 dX5_readOperand_129 hlocks
              · have h := zk_t c_25 h
                refine lv_aload_n hx hb dX5_readOperand_117 rfl (lv_at hl 1 rfl) ?_
                obtain ⟨u_26, hc_27, h⟩ := zk_o1 h
                refine zk_vv (post := (fun u => u = u_26)) (w1 := fun u => (wl_X5_fail ad cs u_17 u_23 u)) (As := []) (rest := []) (c_X5_fail l D cs ad  H.size u_17 u_23 u_19 _ hc_27) ⟨hx, hb, hml, hown, ht⟩ (cwV 0 ht g_X5_39 rfl rfl rfl (by decide +kernel) ⟨(by show 0 + 1 ≤ fr + 3; omega), (by show 8 + (1 + 11) + 0 ≤ lo + 65; omega)⟩) (va_recv hK hP (ci := 5) (q0 := 2) rfl rfl) hP hD hS hK hA [2] [0, 1, 3] rfl rfl rfl rfl (by decide) rfl hl.1 (Nat.le_of_ble_eq_true rfl) dX5_readOperand_118 ⟨Nat.zero_le _, Nat.zero_le _⟩ (fun u H locs hq hP hD hS => ?_)
                cases hq
                have hP : va_P D classes (wl_X5_readOperand ad cs tape_size tape_bytes u_17 u_23 u_26 u_20) H := hP.sub [0, 1, 3, 2] rfl
                have hD : va_D A (wl_X5_readOperand ad cs tape_size tape_bytes u_17 u_23 u_26 u_20) := hD.sub [0, 1, 3, 2] rfl rfl
                refine lv_goto (tgt := 129) hx hb dX5_readOperand_121 (by decide) ?_
                exact W.vret hx hb hr (fun t ht2 hW => ⟨⟨(u_17, u_23, u_26, u_20), rfl, Option.some.inj h, by rw [ht2]; exact hP, hD⟩, hS.F ht2⟩) hS.2.2 dX5_readOperand_129 hlocks
        · have h := zk_t c_10 h
          exact L_X5_readOperand_53 C0 hK hA hr_X5_readLevel hr_X5_readOperand  x1 r_1 lr_size lr_at lr_fault lr_code h H locs ls hP hD hS (lv_sub hl [1, 2, 0] rfl)
    · have h := zk_f c_8 h
      refine lv_aload_n hx hb dX5_readOperand_34 rfl (lv_at hl 1 rfl) ?_
      obtain ⟨u_28, u_29, u_30, hc_31, h⟩ := zk_o3 h
      refine zk_vv (post := (fun u => u = (u_28, u_29, u_30))) (w1 := fun u => (wl_X5_readNumber ad cs tape_size tape_bytes u.1 u.2.1 lr_fault u.2.2)) (As := []) (rest := []) (c_X5_readNumber l D cs ad  H.size 4000 tape_size tape_bytes lr_size lr_at lr_fault lr_code _ hc_31) ⟨hx, hb, hml, hown, ht⟩ (cwV 0 ht g_X5_74 rfl rfl rfl (by decide +kernel) ⟨(by show 2 + 1 ≤ fr + 3; omega), (by show 8 + (3 + 11) + 43 ≤ lo + 65; omega)⟩) (va_recv hK hP (ci := 5) (q0 := 2) rfl rfl) hP hD hS hK hA [0, 1, 2, 3] [] rfl rfl rfl rfl (by decide) rfl hl.1 (Nat.le_of_ble_eq_true rfl) dX5_readOperand_35 ⟨Nat.zero_le _, Nat.zero_le _⟩ (fun u H locs hq hP hD hS => ?_)
      cases hq
      have hP : va_P D classes (wl_X5_readOperand ad cs tape_size tape_bytes u_28 u_29 lr_fault u_30) H := hP.sub [0, 1, 2, 3] rfl
      have hD : va_D A (wl_X5_readOperand ad cs tape_size tape_bytes u_28 u_29 lr_fault u_30) := hD.sub [0, 1, 2, 3] rfl rfl
      refine lv_goto (tgt := 129) hx hb dX5_readOperand_38 (by decide) ?_
      exact W.vret hx hb hr (fun t ht2 hW => ⟨⟨(u_28, u_29, lr_fault, u_30), rfl, Option.some.inj h, by rw [ht2]; exact hP, hD⟩, hS.F ht2⟩) hS.2.2 dX5_readOperand_129 hlocks
  · have h := zk_f c_4 h
    exact W.vret hx hb hr (fun t ht2 hW => ⟨⟨(lr_size, lr_at, lr_fault, lr_code), rfl, Option.some.inj h, by rw [ht2]; exact hP, hD⟩, hS.F ht2⟩) hS.2.2 dX5_readOperand_19 hlocks
set_option maxHeartbeats 4000000 in
set_option maxRecDepth 100000 in
theorem c_X5_readOperand (l : Launch) (D : va_G) (cs : Nat → ClassId) (ad : Nat → Nat) {fr lo : Nat} {r_X5_readLevel : Int32 → Int32 → Int32 → (Nat → Int32) → Int32 → Int32 → Int32 → (Nat → Int32) → (Option (Int32 × Int32 × Int32 × (Nat → Int32)))} {r_X5_readOperand : Int32 → Int32 → (Nat → Int32) → Int32 → Int32 → Int32 → (Nat → Int32) → (Option (Int32 × Int32 × Int32 × (Nat → Int32)))} (hr_X5_readLevel : ∀ (D : va_G) (cs : Nat → ClassId) (ad : Nat → Nat) (sz : Nat) (x1 : Int32) (x2 : Int32) (tape_size : Int32) (tape_bytes : Nat → Int32) (lr_size : Int32) (lr_at : Int32) (lr_fault : Int32) (lr_code : Nat → Int32) (R : Int32 × Int32 × Int32 × (Nat → Int32)) (h : r_X5_readLevel x1 x2 tape_size tape_bytes lr_size lr_at lr_fault lr_code = some R), Met l yX5_readLevel z_X5_readLevel ({ frames := fr, cells := 0, slots := 0, locals := lo } : Room) (va_Pc [.ref (ad 26), .int x1, .int x2] (zPre D cs (wl_X5_readLevel ad cs tape_size tape_bytes lr_size lr_at lr_fault lr_code) sz)) (Q_X5_readLevel D cs ad tape_size tape_bytes (va_A (wl_X5_readLevel ad cs tape_size tape_bytes lr_size lr_at lr_fault lr_code) sz) R) 0 0 (va_A (wl_X5_readLevel ad cs tape_size tape_bytes lr_size lr_at lr_fault lr_code) sz)) (hr_X5_readOperand : ∀ (D : va_G) (cs : Nat → ClassId) (ad : Nat → Nat) (sz : Nat) (x1 : Int32) (tape_size : Int32) (tape_bytes : Nat → Int32) (lr_size : Int32) (lr_at : Int32) (lr_fault : Int32) (lr_code : Nat → Int32) (R : Int32 × Int32 × Int32 × (Nat → Int32)) (h : r_X5_readOperand x1 tape_size tape_bytes lr_size lr_at lr_fault lr_code = some R), Met l yX5_readOperand z_X5_readOperand ({ frames := fr, cells := 0, slots := 0, locals := lo } : Room) (va_Pc [.ref (ad 26), .int x1] (zPre D cs (wl_X5_readOperand ad cs tape_size tape_bytes lr_size lr_at lr_fault lr_code) sz)) (Q_X5_readOperand D cs ad tape_size tape_bytes (va_A (wl_X5_readOperand ad cs tape_size tape_bytes lr_size lr_at lr_fault lr_code) sz) R) 0 0 (va_A (wl_X5_readOperand ad cs tape_size tape_bytes lr_size lr_at lr_fault lr_code) sz)) (sz : Nat) (x1 : Int32) (tape_size : Int32) (tape_bytes : Nat → Int32) (lr_size : Int32) (lr_at : Int32) (lr_fault : Int32) (lr_code : Nat → Int32) (R : Int32 × Int32 × Int32 × (Nat → Int32)) (h : f_X5_readOperand r_X5_readLevel r_X5_readOperand x1 tape_size tape_bytes lr_size lr_at lr_fault lr_code = some R) : Met l yX5_readOperand (z_X5_readOperand) ({ frames := fr + 3, cells := 0, slots := 0, locals := lo + 65 } : Room) (va_Pc [.ref (ad 26), .int x1] (zPre D cs (wl_X5_readOperand ad cs tape_size tape_bytes lr_size lr_at lr_fault lr_code) sz)) (Q_X5_readOperand D cs ad tape_size tape_bytes (va_A (wl_X5_readOperand ad cs tape_size tape_bytes lr_size lr_at lr_fault lr_code) sz) R) 0 0 (va_A (wl_X5_readOperand ad cs tape_size tape_bytes lr_size lr_at lr_fault lr_code) sz) := by
  refine Met.ofW (cc := cX5_readOperand) (maxL := 3) (ret := none) (by decide) rfl ?_
  intro p e s m args below meth c s₁ B hml hv
  obtain ⟨rfl, hsz, hP, hK, hD0⟩ := hv
  subst hsz
  have hD := hD0.self (sz := s.heap.size)
  have C0 : zC p s m _ meth c cX5_readOperand 3 none RX5 zW := ⟨B.exec, B.bytes, B.returns, hml, findClass_of_methodNamed B.named, fun w hw => atoms_spec (ws := z_X5_readOperand) B.pre w (List.mem_cons_of_mem _ hw), B.notSynchronized⟩
  have hA : ∀ q : Nat, s.heap.size ≤ q → va_A (wl_X5_readOperand ad cs tape_size tape_bytes lr_size lr_at lr_fault lr_code) s.heap.size q := fun q h => Or.inr h
  have hl := lv_entry ([.ref (ad 26), .int x1]) (n := 3) (Nat.le_of_ble_eq_true rfl)
  rw [lg_entry_eq]
  generalize (lg_sl ([.ref (ad 26), .int x1]) ++ List.replicate (3 - (lg_sl ([.ref (ad 26), .int x1])).length) Slot.unset).toArray = ls at hl ⊢
  exact L_X5_readOperand_0 C0 hK hA hr_X5_readLevel hr_X5_readOperand  x1 lr_size lr_at lr_fault lr_code h s.heap [] ls hP hD va_S.rf hl
theorem cg_lawgrp (l : Launch) : ∀ n : Nat, (∀ (D : va_G) (cs : Nat → ClassId) (ad : Nat → Nat) (sz : Nat) (x1 : Int32) (x2 : Int32) (tape_size : Int32) (tape_bytes : Nat → Int32) (lr_size : Int32) (lr_at : Int32) (lr_fault : Int32) (lr_code : Nat → Int32) (R : Int32 × Int32 × Int32 × (Nat → Int32)) (h : ((grp_lawgrp n).1) x1 x2 tape_size tape_bytes lr_size lr_at lr_fault lr_code = some R), Met l yX5_readLevel z_X5_readLevel ({ frames := 3 * n, cells := 0, slots := 0, locals := 65 * n } : Room) (va_Pc [.ref (ad 26), .int x1, .int x2] (zPre D cs (wl_X5_readLevel ad cs tape_size tape_bytes lr_size lr_at lr_fault lr_code) sz)) (Q_X5_readLevel D cs ad tape_size tape_bytes (va_A (wl_X5_readLevel ad cs tape_size tape_bytes lr_size lr_at lr_fault lr_code) sz) R) 0 0 (va_A (wl_X5_readLevel ad cs tape_size tape_bytes lr_size lr_at lr_fault lr_code) sz)) ∧ (∀ (D : va_G) (cs : Nat → ClassId) (ad : Nat → Nat) (sz : Nat) (x1 : Int32) (tape_size : Int32) (tape_bytes : Nat → Int32) (lr_size : Int32) (lr_at : Int32) (lr_fault : Int32) (lr_code : Nat → Int32) (R : Int32 × Int32 × Int32 × (Nat → Int32)) (h : ((grp_lawgrp n).2) x1 tape_size tape_bytes lr_size lr_at lr_fault lr_code = some R), Met l yX5_readOperand z_X5_readOperand ({ frames := 3 * n, cells := 0, slots := 0, locals := 65 * n } : Room) (va_Pc [.ref (ad 26), .int x1] (zPre D cs (wl_X5_readOperand ad cs tape_size tape_bytes lr_size lr_at lr_fault lr_code) sz)) (Q_X5_readOperand D cs ad tape_size tape_bytes (va_A (wl_X5_readOperand ad cs tape_size tape_bytes lr_size lr_at lr_fault lr_code) sz) R) 0 0 (va_A (wl_X5_readOperand ad cs tape_size tape_bytes lr_size lr_at lr_fault lr_code) sz)) := by
  intro n
  induction n with
  | zero =>
    refine ⟨?_, ?_⟩ <;> (intros; rename_i h; cases h)
  | succ n ih =>
    exact ⟨(fun D cs ad  sz x1 x2 tape_size tape_bytes lr_size lr_at lr_fault lr_code R h => c_X5_readLevel l D cs ad  (ih.1) (ih.2) sz 4000 x1 x2 tape_size tape_bytes lr_size lr_at lr_fault lr_code R h), (fun D cs ad  sz x1 tape_size tape_bytes lr_size lr_at lr_fault lr_code R h => c_X5_readOperand l D cs ad  (ih.1) (ih.2) sz x1 tape_size tape_bytes lr_size lr_at lr_fault lr_code R h)⟩
end
section
theorem dX5_readLine_0 : decode cX5_readLine 0 = .ok (.aload_n 0, 1) := by decide +kernel
theorem dX5_readLine_1 : decode cX5_readLine 1 = .ok (.iconst 0, 1) := by decide +kernel
theorem dX5_readLine_2 : decode cX5_readLine 2 = .ok (.iconst 0, 1) := by decide +kernel
theorem dX5_readLine_3 : decode cX5_readLine 3 = .ok (.invokevirtual 53, 3) := by decide +kernel
theorem dX5_readLine_6 : decode cX5_readLine 6 = .ok (.aload_n 0, 1) := by decide +kernel
theorem dX5_readLine_7 : decode cX5_readLine 7 = .ok (.bipush 63, 2) := by decide +kernel
theorem dX5_readLine_9 : decode cX5_readLine 9 = .ok (.invokevirtual 32, 3) := by decide +kernel
theorem dX5_readLine_12 : decode cX5_readLine 12 = .ok (.ifCond .eq 50, 3) := by decide +kernel
theorem dX5_readLine_15 : decode cX5_readLine 15 = .ok (.aload_n 0, 1) := by decide +kernel
theorem dX5_readLine_16 : decode cX5_readLine 16 = .ok (.getfield 23, 3) := by decide +kernel
theorem dX5_readLine_19 : decode cX5_readLine 19 = .ok (.istore_n 1, 1) := by decide +kernel
theorem dX5_readLine_20 : decode cX5_readLine 20 = .ok (.aload_n 0, 1) := by decide +kernel
theorem dX5_readLine_21 : decode cX5_readLine 21 = .ok (.iconst 3, 1) := by decide +kernel
theorem dX5_readLine_22 : decode cX5_readLine 22 = .ok (.invokevirtual 57, 3) := by decide +kernel
theorem dX5_readLine_25 : decode cX5_readLine 25 = .ok (.aload_n 0, 1) := by decide +kernel
theorem dX5_readLine_26 : decode cX5_readLine 26 = .ok (.iconst 0, 1) := by decide +kernel
theorem dX5_readLine_27 : decode cX5_readLine 27 = .ok (.iconst 0, 1) := by decide +kernel
theorem dX5_readLine_28 : decode cX5_readLine 28 = .ok (.invokevirtual 53, 3) := by decide +kernel
theorem dX5_readLine_31 : decode cX5_readLine 31 = .ok (.aload_n 0, 1) := by decide +kernel
theorem dX5_readLine_32 : decode cX5_readLine 32 = .ok (.iconst 2, 1) := by decide +kernel
theorem dX5_readLine_33 : decode cX5_readLine 33 = .ok (.invokevirtual 57, 3) := by decide +kernel
theorem dX5_readLine_36 : decode cX5_readLine 36 = .ok (.iload_n 1, 1) := by decide +kernel
theorem dX5_readLine_37 : decode cX5_readLine 37 = .ok (.aload_n 0, 1) := by decide +kernel
theorem dX5_readLine_38 : decode cX5_readLine 38 = .ok (.getfield 9, 3) := by decide +kernel
theorem dX5_readLine_41 : decode cX5_readLine 41 = .ok (.arraylength, 1) := by decide +kernel
theorem dX5_readLine_42 : decode cX5_readLine 42 = .ok (.if_icmp .ge 17, 3) := by decide +kernel
theorem dX5_readLine_45 : decode cX5_readLine 45 = .ok (.aload_n 0, 1) := by decide +kernel
theorem dX5_readLine_46 : decode cX5_readLine 46 = .ok (.getfield 9, 3) := by decide +kernel
theorem dX5_readLine_49 : decode cX5_readLine 49 = .ok (.iload_n 1, 1) := by decide +kernel
theorem dX5_readLine_50 : decode cX5_readLine 50 = .ok (.aload_n 0, 1) := by decide +kernel
theorem dX5_readLine_51 : decode cX5_readLine 51 = .ok (.getfield 23, 3) := by decide +kernel
theorem dX5_readLine_54 : decode cX5_readLine 54 = .ok (.iconst 5, 1) := by decide +kernel
theorem dX5_readLine_55 : decode cX5_readLine 55 = .ok (.ishl, 1) := by decide +kernel
theorem dX5_readLine_56 : decode cX5_readLine 56 = .ok (.iconst 3, 1) := by decide +kernel
theorem dX5_readLine_57 : decode cX5_readLine 57 = .ok (.ior, 1) := by decide +kernel
theorem dX5_readLine_58 : decode cX5_readLine 58 = .ok (.iastore, 1) := by decide +kernel
theorem dX5_readLine_59 : decode cX5_readLine 59 = .ok (.goto 8, 3) := by decide +kernel
theorem dX5_readLine_62 : decode cX5_readLine 62 = .ok (.aload_n 0, 1) := by decide +kernel
theorem dX5_readLine_63 : decode cX5_readLine 63 = .ok (.iconst 2, 1) := by decide +kernel
theorem dX5_readLine_64 : decode cX5_readLine 64 = .ok (.invokevirtual 57, 3) := by decide +kernel
theorem dX5_readLine_67 : decode cX5_readLine 67 = .ok (.return_, 1) := by decide +kernel
abbrev z_X5_readLine : List Cond := .code yX5_readLine cX5_readLine 2 none :: zW
abbrev wl_X5_readLine (ad : Nat → Nat) (cs : Nat → ClassId)  (tape_size : Int32) (tape_bytes : Nat → Int32) (lr_size : Int32) (lr_at : Int32) (lr_fault : Int32) (lr_code : Nat → Int32) : va_W := [((ad 23), .inr (9, [.ref (ad 24), .int tape_size])), ((ad 24), .inl (cs 0, 120, .inl tape_bytes)), ((ad 26), .inr (5, [.ref (ad 23), .ref (ad 27), .int lr_size, .int lr_at, .int lr_fault])), ((ad 27), .inl (cs 0, 121, .inl lr_code))]
def Q_X5_readLine (D : va_G) (cs : Nat → ClassId) (ad : Nat → Nat)  (tape_size : Int32) (tape_bytes : Nat → Int32) (A : Nat → Prop) (R : Int32 × Int32 × Int32 × (Nat → Int32)) : Array Value → State → Outcome → State → Prop :=
  va_Qv (fun u : Int32 × Int32 × Int32 × (Nat → Int32) => u = R) (fun (u : Int32 × Int32 × Int32 × (Nat → Int32)) (t : State) => va_P D classes (wl_X5_readLine ad cs tape_size tape_bytes u.1 u.2.1 u.2.2.1 u.2.2.2) t.heap ∧ va_D A (wl_X5_readLine ad cs tape_size tape_bytes u.1 u.2.1 u.2.2.1 u.2.2.2)) A
abbrev rm_X5_readLine : Room := { frames := 181, cells := 0, slots := 0, locals := 3924 }
def B_X5_readLine_59   (tape_size : Int32) (tape_bytes : Nat → Int32) (lr_size : Int32) (lr_at : Int32) (lr_fault : Int32) (lr_code : Nat → Int32) : Option (Int32 × Int32 × Int32 × (Nat → Int32)) :=
  (some (lr_size, lr_at, lr_fault, lr_code))
def B_X5_readLine_0   (tape_size : Int32) (tape_bytes : Nat → Int32) (lr_size : Int32) (lr_at : Int32) (lr_fault : Int32) (lr_code : Nat → Int32) : Option (Int32 × Int32 × Int32 × (Nat → Int32)) :=
  (zk_b4 ((grp_lawgrp 60).1 (0 : Int32) (0 : Int32) tape_size tape_bytes lr_size lr_at lr_fault lr_code) (fun u_1 u_2 u_3 u_4 => (zk_b2 (f_X5_accept (63 : Int32) tape_size tape_bytes u_1 u_2 u_3) (fun r_6 u_7 => (if r_6 = 0 then (zk_b2 (f_X5_emit (2 : Int32) u_1 u_7 u_3 u_4) (fun u_10 u_11 => (some (u_10, u_7, u_3, u_11)))) else (zk_b2 (f_X5_emit (3 : Int32) u_1 u_7 u_3 u_4) (fun u_13 u_14 => (zk_b4 ((grp_lawgrp 60).1 (0 : Int32) (0 : Int32) tape_size tape_bytes u_13 u_7 u_3 u_14) (fun u_16 u_17 u_18 u_19 => (zk_b2 (f_X5_emit (2 : Int32) u_16 u_17 u_18 u_19) (fun u_21 u_22 => (if (121 : Int32) ≤ u_1 then (B_X5_readLine_59 tape_size tape_bytes u_21 u_17 u_18 u_22) else (zk_let ((u_21 <<< ((5 : Int32) &&& 31)) ||| (3 : Int32)) (fun v_25 => (if (u_1 < 0 ∨ 121 ≤ u_1.toNatClampNeg) then none else (zk_let (upd u_22 u_1.toNatClampNeg v_25) (fun f_27 => (B_X5_readLine_59 tape_size tape_bytes u_21 u_17 u_18 f_27))))))))))))))))))
def f_X5_readLine   (tape_size : Int32) (tape_bytes : Nat → Int32) (lr_size : Int32) (lr_at : Int32) (lr_fault : Int32) (lr_code : Nat → Int32) : Option (Int32 × Int32 × Int32 × (Nat → Int32)) := B_X5_readLine_0  tape_size tape_bytes  lr_size lr_at lr_fault lr_code
set_option maxHeartbeats 4000000 in
set_option maxRecDepth 100000 in
theorem L_X5_readLine_59 {p : Program} {l : Launch} {e : Env} {s : State} {m : MethodId} {args : Array Value} {below : List Frame} {meth : Method} {c : Code} {A : Nat → Prop} {D : va_G} {cs : Nat → ClassId} {ad : Nat → Nat} {tape_size : Int32} {tape_bytes : Nat → Int32} {R : Int32 × Int32 × Int32 × (Nat → Int32)} (C0 : zC p s m args meth c cX5_readLine 2 none RX5 zW) (hK : va_K D classes (zT cs) s) (hA : ∀ q : Nat, s.heap.size ≤ q → A q) (lr_size : Int32) (lr_at : Int32) (lr_fault : Int32) (lr_code : Nat → Int32) (h : B_X5_readLine_59 tape_size tape_bytes lr_size lr_at lr_fault lr_code = some R) (H : Heap) (locs : List Loc) (ls : Array Slot) (hP : va_P D classes (wl_X5_readLine ad cs tape_size tape_bytes lr_size lr_at lr_fault lr_code) H) (hD : va_D A (wl_X5_readLine ad cs tape_size tape_bytes lr_size lr_at lr_fault lr_code)) (hS : va_S A s.heap H locs) (hl : lv_has ls 2 []) : W p l e rm_X5_readLine s m args below meth c H locs 0 0 (MQ below (Q_X5_readLine D cs ad tape_size tape_bytes A R) args s 0 0 A) (F0 m 59 ls []) := by
  obtain ⟨hx, hb, hr, hml, hown, ht, hlocks⟩ := id C0
  refine lv_goto (tgt := 67) hx hb dX5_readLine_59 (by decide) ?_
  exact W.vret hx hb hr (fun t ht2 hW => ⟨⟨(lr_size, lr_at, lr_fault, lr_code), rfl, Option.some.inj h, by rw [ht2]; exact hP, hD⟩, hS.F ht2⟩) hS.2.2 dX5_readLine_67 hlocks
set_option maxHeartbeats 4000000 in
set_option maxRecDepth 100000 in
theorem L_X5_readLine_0 {p : Program} {l : Launch} {e : Env} {s : State} {m : MethodId} {args : Array Value} {below : List Frame} {meth : Method} {c : Code} {A : Nat → Prop} {D : va_G} {cs : Nat → ClassId} {ad : Nat → Nat} {tape_size : Int32} {tape_bytes : Nat → Int32} {R : Int32 × Int32 × Int32 × (Nat → Int32)} (C0 : zC p s m args meth c cX5_readLine 2 none RX5 zW) (hK : va_K D classes (zT cs) s) (hA : ∀ q : Nat, s.heap.size ≤ q → A q) (lr_size : Int32) (lr_at : Int32) (lr_fault : Int32) (lr_code : Nat → Int32) (h : B_X5_readLine_0 tape_size tape_bytes lr_size lr_at lr_fault lr_code = some R) (H : Heap) (locs : List Loc) (ls : Array Slot) (hP : va_P D classes (wl_X5_readLine ad cs tape_size tape_bytes lr_size lr_at lr_fault lr_code) H) (hD : va_D A (wl_X5_readLine ad cs tape_size tape_bytes lr_size lr_at lr_fault lr_code)) (hS : va_S A s.heap H locs) (hl : lv_has ls 2 [(0, .ref (ad 26))]) : W p l e rm_X5_readLine s m args below meth c H locs 0 0 (MQ below (Q_X5_readLine D cs ad tape_size tape_bytes A R) args s 0 0 A) (F0 m 0 ls []) := by
  obtain ⟨hx, hb, hr, hml, hown, ht, hlocks⟩ := id C0
  refine lv_aload_n hx hb dX5_readLine_0 rfl (lv_at hl 0 rfl) ?_
  refine lv_iconst (v := (0 : Int32)) hx hb dX5_readLine_1 (by decide) ?_
  refine lv_iconst (v := (0 : Int32)) hx hb dX5_readLine_2 (by decide) ?_
  obtain ⟨u_1, u_2, u_3, u_4, hc_5, h⟩ := zk_o4 h
  refine zk_vv (post := (fun u => u = (u_1, u_2, u_3, u_4))) (w1 := fun u => (wl_X5_readLevel ad cs tape_size tape_bytes u.1 u.2.1 u.2.2.1 u.2.2.2)) (As := [.int (0 : Int32), .int (0 : Int32)]) (rest := []) (((cg_lawgrp l 60).1) D cs ad  H.size (0 : Int32) (0 : Int32) tape_size tape_bytes lr_size lr_at lr_fault lr_code _ hc_5) ⟨hx, hb, hml, hown, ht⟩ (cwV 2 ht g_X5_53 rfl rfl rfl (by decide +kernel) ⟨Nat.le_of_ble_eq_true rfl, Nat.le_of_ble_eq_true rfl⟩) (va_recv hK hP (ci := 5) (q0 := 2) rfl rfl) hP hD hS hK hA [0, 1, 2, 3] [] rfl rfl rfl rfl (by decide) rfl hl.1 (Nat.le_of_ble_eq_true rfl) dX5_readLine_3 ⟨Nat.zero_le _, Nat.zero_le _⟩ (fun u H locs hq hP hD hS => ?_)
  cases hq
  have hP : va_P D classes (wl_X5_readLine ad cs tape_size tape_bytes u_1 u_2 u_3 u_4) H := hP.sub [0, 1, 2, 3] rfl
  have hD : va_D A (wl_X5_readLine ad cs tape_size tape_bytes u_1 u_2 u_3 u_4) := hD.sub [0, 1, 2, 3] rfl rfl
  refine lv_aload_n hx hb dX5_readLine_6 rfl (lv_at hl 0 rfl) ?_
  refine lv_bipush (v := (63 : Int32)) hx hb dX5_readLine_7 (by decide) ?_
  obtain ⟨r_6, u_7, hc_8, h⟩ := zk_o2 h
  refine zk_vi (post := (fun r u => (r, u) = (r_6, u_7))) (w1 := fun u => (wl_X5_accept ad cs tape_size tape_bytes u_1 u u_3)) (As := [.int (63 : Int32)]) (rest := []) (c_X5_accept l D cs ad  H.size (63 : Int32) tape_size tape_bytes u_1 u_2 u_3 _ hc_8) ⟨hx, hb, hml, hown, ht⟩ (cwV 1 ht g_X5_32 rfl rfl rfl (by decide +kernel) ⟨Nat.le_of_ble_eq_true rfl, Nat.le_of_ble_eq_true rfl⟩) (va_recv hK hP (ci := 5) (q0 := 2) rfl rfl) hP hD hS hK hA [0, 1, 2] [3] rfl rfl rfl rfl (by decide) rfl hl.1 (Nat.le_of_ble_eq_true rfl) dX5_readLine_9 ⟨Nat.zero_le _, Nat.zero_le _⟩ (fun r u H locs hq hP hD hS => ?_)
  cases hq
  have hP : va_P D classes (wl_X5_readLine ad cs tape_size tape_bytes u_1 u_7 u_3 u_4) H := hP.sub [1, 2, 3, 0] rfl
  have hD : va_D A (wl_X5_readLine ad cs tape_size tape_bytes u_1 u_7 u_3 u_4) := hD.sub [1, 2, 3, 0] rfl rfl
  refine lv_if_eq (tgt := 62) hx hb dX5_readLine_12 (by decide) (fun c_9 => ?_) (fun c_9 => ?_)
  · have h := zk_t c_9 h
    refine lv_aload_n hx hb dX5_readLine_62 rfl (lv_at hl 0 rfl) ?_
    refine lv_iconst (v := (2 : Int32)) hx hb dX5_readLine_63 (by decide) ?_
    obtain ⟨u_10, u_11, hc_12, h⟩ := zk_o2 h
    refine zk_vv (post := (fun u => u = (u_10, u_11))) (w1 := fun u => (wl_X5_emit ad cs u.1 u_7 u_3 u.2)) (As := [.int (2 : Int32)]) (rest := []) (c_X5_emit l D cs ad  H.size (2 : Int32) u_1 u_7 u_3 u_4 _ hc_12) ⟨hx, hb, hml, hown, ht⟩ (cwV 1 ht g_X5_57 rfl rfl rfl (by decide +kernel) ⟨Nat.le_of_ble_eq_true rfl, Nat.le_of_ble_eq_true rfl⟩) (va_recv hK hP (ci := 5) (q0 := 2) rfl rfl) hP hD hS hK hA [2, 3] [0, 1] rfl rfl rfl rfl (by decide) rfl hl.1 (Nat.le_of_ble_eq_true rfl) dX5_readLine_64 ⟨Nat.zero_le _, Nat.zero_le _⟩ (fun u H locs hq hP hD hS => ?_)
    cases hq
    have hP : va_P D classes (wl_X5_readLine ad cs tape_size tape_bytes u_10 u_7 u_3 u_11) H := hP.sub [0, 1, 2, 3] rfl
    have hD : va_D A (wl_X5_readLine ad cs tape_size tape_bytes u_10 u_7 u_3 u_11) := hD.sub [0, 1, 2, 3] rfl rfl
    exact W.vret hx hb hr (fun t ht2 hW => ⟨⟨(u_10, u_7, u_3, u_11), rfl, Option.some.inj h, by rw [ht2]; exact hP, hD⟩, hS.F ht2⟩) hS.2.2 dX5_readLine_67 hlocks
  · have h := zk_f c_9 h
    refine lv_aload_n hx hb dX5_readLine_15 rfl (lv_at hl 0 rfl) ?_
    refine va_get (D := D) (ci := 5) (v := .int u_1) (C := RX5) (T := TX5) (N := 5) hx hb ht iX5 hown hK hP 2 rfl rfl 2 (by decide) (ht _ kw_276) (fun _ h9 => h9) rfl dX5_readLine_16 ?_
    refine lv_istore_n (lv' := [(1, .int u_1), (0, .ref (ad 26))]) hx hb dX5_readLine_19 rfl hl (by decide) rfl (fun ls hl => ?_)
    refine lv_aload_n hx hb dX5_readLine_20 rfl (lv_at hl 1 rfl) ?_
    refine lv_iconst (v := (3 : Int32)) hx hb dX5_readLine_21 (by decide) ?_
    obtain ⟨u_13, u_14, hc_15, h⟩ := zk_o2 h
    refine zk_vv (post := (fun u => u = (u_13, u_14))) (w1 := fun u => (wl_X5_emit ad cs u.1 u_7 u_3 u.2)) (As := [.int (3 : Int32)]) (rest := []) (c_X5_emit l D cs ad  H.size (3 : Int32) u_1 u_7 u_3 u_4 _ hc_15) ⟨hx, hb, hml, hown, ht⟩ (cwV 1 ht g_X5_57 rfl rfl rfl (by decide +kernel) ⟨Nat.le_of_ble_eq_true rfl, Nat.le_of_ble_eq_true rfl⟩) (va_recv hK hP (ci := 5) (q0 := 2) rfl rfl) hP hD hS hK hA [2, 3] [0, 1] rfl rfl rfl rfl (by decide) rfl hl.1 (Nat.le_of_ble_eq_true rfl) dX5_readLine_22 ⟨Nat.zero_le _, Nat.zero_le _⟩ (fun u H locs hq hP hD hS => ?_)
    cases hq
    have hP : va_P D classes (wl_X5_readLine ad cs tape_size tape_bytes u_13 u_7 u_3 u_14) H := hP.sub [0, 1, 2, 3] rfl
    have hD : va_D A (wl_X5_readLine ad cs tape_size tape_bytes u_13 u_7 u_3 u_14) := hD.sub [0, 1, 2, 3] rfl rfl
    refine lv_aload_n hx hb dX5_readLine_25 rfl (lv_at hl 1 rfl) ?_
    refine lv_iconst (v := (0 : Int32)) hx hb dX5_readLine_26 (by decide) ?_
    refine lv_iconst (v := (0 : Int32)) hx hb dX5_readLine_27 (by decide) ?_
    obtain ⟨u_16, u_17, u_18, u_19, hc_20, h⟩ := zk_o4 h
    refine zk_vv (post := (fun u => u = (u_16, u_17, u_18, u_19))) (w1 := fun u => (wl_X5_readLevel ad cs tape_size tape_bytes u.1 u.2.1 u.2.2.1 u.2.2.2)) (As := [.int (0 : Int32), .int (0 : Int32)]) (rest := []) (((cg_lawgrp l 60).1) D cs ad  H.size (0 : Int32) (0 : Int32) tape_size tape_bytes u_13 u_7 u_3 u_14 _ hc_20) ⟨hx, hb, hml, hown, ht⟩ (cwV 2 ht g_X5_53 rfl rfl rfl (by decide +kernel) ⟨Nat.le_of_ble_eq_true rfl, Nat.le_of_ble_eq_true rfl⟩) (va_recv hK hP (ci := 5) (q0 := 2) rfl rfl) hP hD hS hK hA [0, 1, 2, 3] [] rfl rfl rfl rfl (by decide) rfl hl.1 (Nat.le_of_ble_eq_true rfl) dX5_readLine_28 ⟨Nat.zero_le _, Nat.zero_le _⟩ (fun u H locs hq hP hD hS => ?_)
    cases hq
    have hP : va_P D classes (wl_X5_readLine ad cs tape_size tape_bytes u_16 u_17 u_18 u_19) H := hP.sub [0, 1, 2, 3] rfl
    have hD : va_D A (wl_X5_readLine ad cs tape_size tape_bytes u_16 u_17 u_18 u_19) := hD.sub [0, 1, 2, 3] rfl rfl
    refine lv_aload_n hx hb dX5_readLine_31 rfl (lv_at hl 1 rfl) ?_
    refine lv_iconst (v := (2 : Int32)) hx hb dX5_readLine_32 (by decide) ?_
    obtain ⟨u_21, u_22, hc_23, h⟩ := zk_o2 h
    refine zk_vv (post := (fun u => u = (u_21, u_22))) (w1 := fun u => (wl_X5_emit ad cs u.1 u_17 u_18 u.2)) (As := [.int (2 : Int32)]) (rest := []) (c_X5_emit l D cs ad  H.size (2 : Int32) u_16 u_17 u_18 u_19 _ hc_23) ⟨hx, hb, hml, hown, ht⟩ (cwV 1 ht g_X5_57 rfl rfl rfl (by decide +kernel) ⟨Nat.le_of_ble_eq_true rfl, Nat.le_of_ble_eq_true rfl⟩) (va_recv hK hP (ci := 5) (q0 := 2) rfl rfl) hP hD hS hK hA [2, 3] [0, 1] rfl rfl rfl rfl (by decide) rfl hl.1 (Nat.le_of_ble_eq_true rfl) dX5_readLine_33 ⟨Nat.zero_le _, Nat.zero_le _⟩ (fun u H locs hq hP hD hS => ?_)
    cases hq
    have hP : va_P D classes (wl_X5_readLine ad cs tape_size tape_bytes u_21 u_17 u_18 u_22) H := hP.sub [0, 1, 2, 3] rfl
    have hD : va_D A (wl_X5_readLine ad cs tape_size tape_bytes u_21 u_17 u_18 u_22) := hD.sub [0, 1, 2, 3] rfl rfl
    refine lv_iload_n hx hb dX5_readLine_36 rfl (lv_at hl 0 rfl) ?_
    refine lv_aload_n hx hb dX5_readLine_37 rfl (lv_at hl 1 rfl) ?_
    refine va_get (D := D) (ci := 5) (v := .ref (ad 27)) (C := RX5) (T := TX5) (N := 5) hx hb ht iX5 hown hK hP 2 rfl rfl 1 (by decide) (ht _ kw_275) (fun _ h9 => h9) rfl dX5_readLine_38 ?_
    refine va_alen (v := (121 : Int32)) hx hb hK hP 3 0 rfl rfl rfl dX5_readLine_41 ?_
    refine lv_icmp_ge (tgt := 59) hx hb dX5_readLine_42 (by decide) (fun c_24 => ?_) (fun c_24 => ?_)
    · have h := zk_t c_24 h
      exact L_X5_readLine_59 C0 hK hA   u_21 u_17 u_18 u_22 h H locs ls hP hD hS (lv_sub hl [] rfl)
    · have h := zk_f c_24 h
      refine lv_aload_n hx hb dX5_readLine_45 rfl (lv_at hl 1 rfl) ?_
      refine va_get (D := D) (ci := 5) (v := .ref (ad 27)) (C := RX5) (T := TX5) (N := 5) hx hb ht iX5 hown hK hP 2 rfl rfl 1 (by decide) (ht _ kw_275) (fun _ h9 => h9) rfl dX5_readLine_46 ?_
      refine lv_iload_n hx hb dX5_readLine_49 rfl (lv_at hl 0 rfl) ?_
      refine lv_aload_n hx hb dX5_readLine_50 rfl (lv_at hl 1 rfl) ?_
      refine va_get (D := D) (ci := 5) (v := .int u_21) (C := RX5) (T := TX5) (N := 5) hx hb ht iX5 hown hK hP 2 rfl rfl 2 (by decide) (ht _ kw_276) (fun _ h9 => h9) rfl dX5_readLine_51 ?_
      refine lv_iconst (v := (5 : Int32)) hx hb dX5_readLine_54 (by decide) ?_
      refine lv_ishl hx hb dX5_readLine_55 ?_
      refine lv_iconst (v := (3 : Int32)) hx hb dX5_readLine_56 (by decide) ?_
      refine lv_ior hx hb dX5_readLine_57 ?_
      obtain ⟨v_25, ev_25, h⟩ := zk_lt h
      refine W.eq (g2 := F0 m 58 ls [.int v_25, .int u_1, .ref (ad 27)]) (by rw [ev_25]) ?_
      obtain ⟨g_26, h⟩ := zk_gd h
      obtain ⟨f_27, ef_27, h⟩ := zk_lt h
      refine va_iast hx hb hK hP hD hS 3 0 rfl rfl g_26 dX5_readLine_58 (fun H locs hP hD hS => ?_)
      have hP : va_P D classes (wl_X5_readLine ad cs tape_size tape_bytes u_21 u_17 u_18 f_27) H := by rw [ef_27]; exact hP
      have hD : va_D A (wl_X5_readLine ad cs tape_size tape_bytes u_21 u_17 u_18 f_27) := by rw [ef_27]; exact hD
      exact L_X5_readLine_59 C0 hK hA   u_21 u_17 u_18 f_27 h H locs ls hP hD hS (lv_sub hl [] rfl)
set_option maxHeartbeats 4000000 in
set_option maxRecDepth 100000 in
theorem c_X5_readLine (l : Launch) (D : va_G) (cs : Nat → ClassId) (ad : Nat → Nat) (sz : Nat)  (tape_size : Int32) (tape_bytes : Nat → Int32) (lr_size : Int32) (lr_at : Int32) (lr_fault : Int32) (lr_code : Nat → Int32) (R : Int32 × Int32 × Int32 × (Nat → Int32)) (h : f_X5_readLine   tape_size tape_bytes lr_size lr_at lr_fault lr_code = some R) : Met l yX5_readLine (z_X5_readLine) rm_X5_readLine (va_Pc [.ref (ad 26)] (zPre D cs (wl_X5_readLine ad cs tape_size tape_bytes lr_size lr_at lr_fault lr_code) sz)) (Q_X5_readLine D cs ad tape_size tape_bytes (va_A (wl_X5_readLine ad cs tape_size tape_bytes lr_size lr_at lr_fault lr_code) sz) R) 0 0 (va_A (wl_X5_readLine ad cs tape_size tape_bytes lr_size lr_at lr_fault lr_code) sz) := by
  refine Met.ofW (cc := cX5_readLine) (maxL := 2) (ret := none) (by decide) rfl ?_
  intro p e s m args below meth c s₁ B hml hv
  obtain ⟨rfl, hsz, hP, hK, hD0⟩ := hv
  subst hsz
  have hD := hD0.self (sz := s.heap.size)
  have C0 : zC p s m _ meth c cX5_readLine 2 none RX5 zW := ⟨B.exec, B.bytes, B.returns, hml, findClass_of_methodNamed B.named, fun w hw => atoms_spec (ws := z_X5_readLine) B.pre w (List.mem_cons_of_mem _ hw), B.notSynchronized⟩
  have hA : ∀ q : Nat, s.heap.size ≤ q → va_A (wl_X5_readLine ad cs tape_size tape_bytes lr_size lr_at lr_fault lr_code) s.heap.size q := fun q h => Or.inr h
  have hl := lv_entry ([.ref (ad 26)]) (n := 2) (Nat.le_of_ble_eq_true rfl)
  rw [lg_entry_eq]
  generalize (lg_sl ([.ref (ad 26)]) ++ List.replicate (2 - (lg_sl ([.ref (ad 26)])).length) Slot.unset).toArray = ls at hl ⊢
  exact L_X5_readLine_0 C0 hK hA    lr_size lr_at lr_fault lr_code h s.heap [] ls hP hD va_S.rf hl
end
section
theorem zz_end : True := trivial
end
