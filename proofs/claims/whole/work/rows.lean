section
-- ===== PART A: goes FIRST, ahead of the names: the tables' words, and 'selects' of the private methods out of them =====
/-- a private method of a class that the tables say can be made, by its rows of tables_1 -/
def lw_okq (q : MethodName × Nat) : Prop := (q.1.cls ≠ "java/lang/invoke/MethodHandle" ∧ q.1.cls ≠ "java/lang/invoke/VarHandle") ∧ Cond.instantiable q.1.cls q.2 ∈ tables_1 ∧ Cond.privateMethod q.1 ∈ tables_1 ∧ Cond.instanceMethod q.1 ∈ tables_1
theorem lw_p0 : lw_okq (⟨"BargeRiver", "openReach", "(II)I"⟩, 14) := ⟨⟨by decide +kernel, by decide +kernel⟩, List.mem_of_getElem? (i := 29) (by decide +kernel), List.mem_of_getElem? (i := 137) (by decide +kernel), List.mem_of_getElem? (i := 138) (by decide +kernel)⟩
theorem lw_p1 : lw_okq (⟨"BargeRiver", "needReach", "(I)V"⟩, 14) := ⟨⟨by decide +kernel, by decide +kernel⟩, List.mem_of_getElem? (i := 29) (by decide +kernel), List.mem_of_getElem? (i := 289) (by decide +kernel), List.mem_of_getElem? (i := 290) (by decide +kernel)⟩
theorem lw_p2 : lw_okq (⟨"java/lang/Throwable", "fillInStackTrace", "(I)Ljava/lang/Throwable;"⟩, 6) := ⟨⟨by decide +kernel, by decide +kernel⟩, List.mem_of_getElem? (i := 335) (by decide +kernel), List.mem_of_getElem? (i := 333) (by decide +kernel), List.mem_of_getElem? (i := 334) (by decide +kernel)⟩
theorem lw_p3 : lw_okq (⟨"BargeRiver", "needLock", "(I)V"⟩, 14) := ⟨⟨by decide +kernel, by decide +kernel⟩, List.mem_of_getElem? (i := 29) (by decide +kernel), List.mem_of_getElem? (i := 446) (by decide +kernel), List.mem_of_getElem? (i := 447) (by decide +kernel)⟩
theorem lw_p4 : lw_okq (⟨"BargeRiver", "bargeNumbered", "(I)LBargeRiver$Barge;"⟩, 14) := ⟨⟨by decide +kernel, by decide +kernel⟩, List.mem_of_getElem? (i := 29) (by decide +kernel), List.mem_of_getElem? (i := 581) (by decide +kernel), List.mem_of_getElem? (i := 582) (by decide +kernel)⟩
theorem lw_p5 : lw_okq (⟨"BargeRiver", "floatsWith", "(LBargeRiver$Barge;I)Z"⟩, 14) := ⟨⟨by decide +kernel, by decide +kernel⟩, List.mem_of_getElem? (i := 29) (by decide +kernel), List.mem_of_getElem? (i := 615) (by decide +kernel), List.mem_of_getElem? (i := 616) (by decide +kernel)⟩
theorem lw_p6 : lw_okq (⟨"BargeRiver", "carry", "(LBargeRiver$Barge;I)I"⟩, 14) := ⟨⟨by decide +kernel, by decide +kernel⟩, List.mem_of_getElem? (i := 29) (by decide +kernel), List.mem_of_getElem? (i := 709) (by decide +kernel), List.mem_of_getElem? (i := 710) (by decide +kernel)⟩
theorem lw_p7 : lw_okq (⟨"BargeRiver", "tryVoyage", "(LBargeRiver$Barge;I)Z"⟩, 14) := ⟨⟨by decide +kernel, by decide +kernel⟩, List.mem_of_getElem? (i := 29) (by decide +kernel), List.mem_of_getElem? (i := 718) (by decide +kernel), List.mem_of_getElem? (i := 719) (by decide +kernel)⟩
theorem lw_p8 : lw_okq (⟨"BargeRiver", "tryPassage", "(LBargeRiver$Barge;IZ)I"⟩, 14) := ⟨⟨by decide +kernel, by decide +kernel⟩, List.mem_of_getElem? (i := 29) (by decide +kernel), List.mem_of_getElem? (i := 725) (by decide +kernel), List.mem_of_getElem? (i := 726) (by decide +kernel)⟩
theorem lw_p9 : lw_okq (⟨"BargeRiver", "canReach", "(LBargeRiver$Barge;I)Z"⟩, 14) := ⟨⟨by decide +kernel, by decide +kernel⟩, List.mem_of_getElem? (i := 29) (by decide +kernel), List.mem_of_getElem? (i := 755) (by decide +kernel), List.mem_of_getElem? (i := 756) (by decide +kernel)⟩
theorem lw_p10 : lw_okq (⟨"BargeRiver", "needRefusal", "()V"⟩, 14) := ⟨⟨by decide +kernel, by decide +kernel⟩, List.mem_of_getElem? (i := 29) (by decide +kernel), List.mem_of_getElem? (i := 778) (by decide +kernel), List.mem_of_getElem? (i := 779) (by decide +kernel)⟩
theorem lw_p11 : lw_okq (⟨"BargeRiver", "unload", "(LBargeRiver$Barge;I)V"⟩, 14) := ⟨⟨by decide +kernel, by decide +kernel⟩, List.mem_of_getElem? (i := 29) (by decide +kernel), List.mem_of_getElem? (i := 817) (by decide +kernel), List.mem_of_getElem? (i := 818) (by decide +kernel)⟩
theorem lw_p12 : lw_okq (⟨"BargeRiver", "needMovement", "(I)V"⟩, 14) := ⟨⟨by decide +kernel, by decide +kernel⟩, List.mem_of_getElem? (i := 29) (by decide +kernel), List.mem_of_getElem? (i := 862) (by decide +kernel), List.mem_of_getElem? (i := 863) (by decide +kernel)⟩
theorem lw_p13 : lw_okq (⟨"BargeRiver", "appendConvoy", "(LBargeRiver$Barge;)V"⟩, 14) := ⟨⟨by decide +kernel, by decide +kernel⟩, List.mem_of_getElem? (i := 29) (by decide +kernel), List.mem_of_getElem? (i := 1179) (by decide +kernel), List.mem_of_getElem? (i := 1180) (by decide +kernel)⟩
theorem lw_p14 : lw_okq (⟨"BargeRiverModel", "fails", "(I)I"⟩, 40) := ⟨⟨by decide +kernel, by decide +kernel⟩, List.mem_of_getElem? (i := 1202) (by decide +kernel), List.mem_of_getElem? (i := 1344) (by decide +kernel), List.mem_of_getElem? (i := 1345) (by decide +kernel)⟩
theorem lw_p15 : lw_okq (⟨"BargeRiverModel", "records", "(III)V"⟩, 40) := ⟨⟨by decide +kernel, by decide +kernel⟩, List.mem_of_getElem? (i := 1202) (by decide +kernel), List.mem_of_getElem? (i := 1348) (by decide +kernel), List.mem_of_getElem? (i := 1349) (by decide +kernel)⟩
def lw_privs_1 : List (MethodName × Nat) := [(⟨"BargeRiver", "openReach", "(II)I"⟩, 14), (⟨"BargeRiver", "needReach", "(I)V"⟩, 14), (⟨"java/lang/Throwable", "fillInStackTrace", "(I)Ljava/lang/Throwable;"⟩, 6), (⟨"BargeRiver", "needLock", "(I)V"⟩, 14), (⟨"BargeRiver", "bargeNumbered", "(I)LBargeRiver$Barge;"⟩, 14), (⟨"BargeRiver", "floatsWith", "(LBargeRiver$Barge;I)Z"⟩, 14), (⟨"BargeRiver", "carry", "(LBargeRiver$Barge;I)I"⟩, 14), (⟨"BargeRiver", "tryVoyage", "(LBargeRiver$Barge;I)Z"⟩, 14), (⟨"BargeRiver", "tryPassage", "(LBargeRiver$Barge;IZ)I"⟩, 14), (⟨"BargeRiver", "canReach", "(LBargeRiver$Barge;I)Z"⟩, 14), (⟨"BargeRiver", "needRefusal", "()V"⟩, 14), (⟨"BargeRiver", "unload", "(LBargeRiver$Barge;I)V"⟩, 14), (⟨"BargeRiver", "needMovement", "(I)V"⟩, 14), (⟨"BargeRiver", "appendConvoy", "(LBargeRiver$Barge;)V"⟩, 14), (⟨"BargeRiverModel", "fails", "(I)I"⟩, 40), (⟨"BargeRiverModel", "records", "(III)V"⟩, 40)]
theorem lw_r1 : ∀ q ∈ lw_privs_1, lw_okq q := List.forall_mem_cons.mpr ⟨lw_p0, List.forall_mem_cons.mpr ⟨lw_p1, List.forall_mem_cons.mpr ⟨lw_p2, List.forall_mem_cons.mpr ⟨lw_p3, List.forall_mem_cons.mpr ⟨lw_p4, List.forall_mem_cons.mpr ⟨lw_p5, List.forall_mem_cons.mpr ⟨lw_p6, List.forall_mem_cons.mpr ⟨lw_p7, List.forall_mem_cons.mpr ⟨lw_p8, List.forall_mem_cons.mpr ⟨lw_p9, List.forall_mem_cons.mpr ⟨lw_p10, List.forall_mem_cons.mpr ⟨lw_p11, List.forall_mem_cons.mpr ⟨lw_p12, List.forall_mem_cons.mpr ⟨lw_p13, List.forall_mem_cons.mpr ⟨lw_p14, List.forall_mem_cons.mpr ⟨lw_p15, fun _ h => absurd h List.not_mem_nil⟩⟩⟩⟩⟩⟩⟩⟩⟩⟩⟩⟩⟩⟩⟩⟩
theorem lw_p16 : lw_okq (⟨"BargeRiverModel", "tells", "(I)I"⟩, 40) := ⟨⟨by decide +kernel, by decide +kernel⟩, List.mem_of_getElem? (i := 1202) (by decide +kernel), List.mem_of_getElem? (i := 1352) (by decide +kernel), List.mem_of_getElem? (i := 1353) (by decide +kernel)⟩
theorem lw_p17 : lw_okq (⟨"BargeRiverModel", "isReach", "(I)Z"⟩, 40) := ⟨⟨by decide +kernel, by decide +kernel⟩, List.mem_of_getElem? (i := 1202) (by decide +kernel), List.mem_of_getElem? (i := 1364) (by decide +kernel), List.mem_of_getElem? (i := 1365) (by decide +kernel)⟩
theorem lw_p18 : lw_okq (⟨"BargeRiverModel", "bySteps", "(I)I"⟩, 40) := ⟨⟨by decide +kernel, by decide +kernel⟩, List.mem_of_getElem? (i := 1202) (by decide +kernel), List.mem_of_getElem? (i := 1376) (by decide +kernel), List.mem_of_getElem? (i := 1377) (by decide +kernel)⟩
theorem lw_p19 : lw_okq (⟨"BargeRiverModel", "level", "(I)I"⟩, 40) := ⟨⟨by decide +kernel, by decide +kernel⟩, List.mem_of_getElem? (i := 1202) (by decide +kernel), List.mem_of_getElem? (i := 1384) (by decide +kernel), List.mem_of_getElem? (i := 1385) (by decide +kernel)⟩
theorem lw_p20 : lw_okq (⟨"BargeRiverModel", "isLock", "(I)Z"⟩, 40) := ⟨⟨by decide +kernel, by decide +kernel⟩, List.mem_of_getElem? (i := 1202) (by decide +kernel), List.mem_of_getElem? (i := 1392) (by decide +kernel), List.mem_of_getElem? (i := 1393) (by decide +kernel)⟩
theorem lw_p21 : lw_okq (⟨"BargeRiverModel", "asks", "(IZ)Z"⟩, 40) := ⟨⟨by decide +kernel, by decide +kernel⟩, List.mem_of_getElem? (i := 1202) (by decide +kernel), List.mem_of_getElem? (i := 1408) (by decide +kernel), List.mem_of_getElem? (i := 1409) (by decide +kernel)⟩
theorem lw_p22 : lw_okq (⟨"BargeRiverModel", "empties", "(I)V"⟩, 40) := ⟨⟨by decide +kernel, by decide +kernel⟩, List.mem_of_getElem? (i := 1202) (by decide +kernel), List.mem_of_getElem? (i := 1416) (by decide +kernel), List.mem_of_getElem? (i := 1417) (by decide +kernel)⟩
theorem lw_p23 : lw_okq (⟨"BargeRiverModel", "comes", "(III)V"⟩, 40) := ⟨⟨by decide +kernel, by decide +kernel⟩, List.mem_of_getElem? (i := 1202) (by decide +kernel), List.mem_of_getElem? (i := 1420) (by decide +kernel), List.mem_of_getElem? (i := 1421) (by decide +kernel)⟩
theorem lw_p24 : lw_okq (⟨"BargeRiverModel", "fills", "(I)V"⟩, 40) := ⟨⟨by decide +kernel, by decide +kernel⟩, List.mem_of_getElem? (i := 1202) (by decide +kernel), List.mem_of_getElem? (i := 1424) (by decide +kernel), List.mem_of_getElem? (i := 1425) (by decide +kernel)⟩
theorem lw_p25 : lw_okq (⟨"BargeRiverModel", "isBarge", "(I)Z"⟩, 40) := ⟨⟨by decide +kernel, by decide +kernel⟩, List.mem_of_getElem? (i := 1202) (by decide +kernel), List.mem_of_getElem? (i := 1456) (by decide +kernel), List.mem_of_getElem? (i := 1457) (by decide +kernel)⟩
theorem lw_p26 : lw_okq (⟨"BargeRiverModel", "deep", "(I)I"⟩, 40) := ⟨⟨by decide +kernel, by decide +kernel⟩, List.mem_of_getElem? (i := 1202) (by decide +kernel), List.mem_of_getElem? (i := 1468) (by decide +kernel), List.mem_of_getElem? (i := 1469) (by decide +kernel)⟩
theorem lw_p27 : lw_okq (⟨"BargeRiverModel", "floats", "(I)Z"⟩, 40) := ⟨⟨by decide +kernel, by decide +kernel⟩, List.mem_of_getElem? (i := 1202) (by decide +kernel), List.mem_of_getElem? (i := 1476) (by decide +kernel), List.mem_of_getElem? (i := 1477) (by decide +kernel)⟩
theorem lw_p28 : lw_okq (⟨"BargeRiverModel", "first", "(I)I"⟩, 40) := ⟨⟨by decide +kernel, by decide +kernel⟩, List.mem_of_getElem? (i := 1202) (by decide +kernel), List.mem_of_getElem? (i := 1484) (by decide +kernel), List.mem_of_getElem? (i := 1485) (by decide +kernel)⟩
theorem lw_p29 : lw_okq (⟨"BargeRiverModel", "size", "(I)I"⟩, 40) := ⟨⟨by decide +kernel, by decide +kernel⟩, List.mem_of_getElem? (i := 1202) (by decide +kernel), List.mem_of_getElem? (i := 1488) (by decide +kernel), List.mem_of_getElem? (i := 1489) (by decide +kernel)⟩
theorem lw_p30 : lw_okq (⟨"BargeRiverModel", "isTooLong", "(II)Z"⟩, 40) := ⟨⟨by decide +kernel, by decide +kernel⟩, List.mem_of_getElem? (i := 1202) (by decide +kernel), List.mem_of_getElem? (i := 1508) (by decide +kernel), List.mem_of_getElem? (i := 1509) (by decide +kernel)⟩
theorem lw_p31 : lw_okq (⟨"BargeRiverModel", "endOfPart", "(II)I"⟩, 40) := ⟨⟨by decide +kernel, by decide +kernel⟩, List.mem_of_getElem? (i := 1202) (by decide +kernel), List.mem_of_getElem? (i := 1512) (by decide +kernel), List.mem_of_getElem? (i := 1513) (by decide +kernel)⟩
def lw_privs_2 : List (MethodName × Nat) := [(⟨"BargeRiverModel", "tells", "(I)I"⟩, 40), (⟨"BargeRiverModel", "isReach", "(I)Z"⟩, 40), (⟨"BargeRiverModel", "bySteps", "(I)I"⟩, 40), (⟨"BargeRiverModel", "level", "(I)I"⟩, 40), (⟨"BargeRiverModel", "isLock", "(I)Z"⟩, 40), (⟨"BargeRiverModel", "asks", "(IZ)Z"⟩, 40), (⟨"BargeRiverModel", "empties", "(I)V"⟩, 40), (⟨"BargeRiverModel", "comes", "(III)V"⟩, 40), (⟨"BargeRiverModel", "fills", "(I)V"⟩, 40), (⟨"BargeRiverModel", "isBarge", "(I)Z"⟩, 40), (⟨"BargeRiverModel", "deep", "(I)I"⟩, 40), (⟨"BargeRiverModel", "floats", "(I)Z"⟩, 40), (⟨"BargeRiverModel", "first", "(I)I"⟩, 40), (⟨"BargeRiverModel", "size", "(I)I"⟩, 40), (⟨"BargeRiverModel", "isTooLong", "(II)Z"⟩, 40), (⟨"BargeRiverModel", "endOfPart", "(II)I"⟩, 40)]
theorem lw_r2 : ∀ q ∈ lw_privs_2, lw_okq q := List.forall_mem_cons.mpr ⟨lw_p16, List.forall_mem_cons.mpr ⟨lw_p17, List.forall_mem_cons.mpr ⟨lw_p18, List.forall_mem_cons.mpr ⟨lw_p19, List.forall_mem_cons.mpr ⟨lw_p20, List.forall_mem_cons.mpr ⟨lw_p21, List.forall_mem_cons.mpr ⟨lw_p22, List.forall_mem_cons.mpr ⟨lw_p23, List.forall_mem_cons.mpr ⟨lw_p24, List.forall_mem_cons.mpr ⟨lw_p25, List.forall_mem_cons.mpr ⟨lw_p26, List.forall_mem_cons.mpr ⟨lw_p27, List.forall_mem_cons.mpr ⟨lw_p28, List.forall_mem_cons.mpr ⟨lw_p29, List.forall_mem_cons.mpr ⟨lw_p30, List.forall_mem_cons.mpr ⟨lw_p31, fun _ h => absurd h List.not_mem_nil⟩⟩⟩⟩⟩⟩⟩⟩⟩⟩⟩⟩⟩⟩⟩⟩
theorem lw_p32 : lw_okq (⟨"BargeRiverModel", "keeps", "()V"⟩, 40) := ⟨⟨by decide +kernel, by decide +kernel⟩, List.mem_of_getElem? (i := 1202) (by decide +kernel), List.mem_of_getElem? (i := 1520) (by decide +kernel), List.mem_of_getElem? (i := 1521) (by decide +kernel)⟩
theorem lw_p33 : lw_okq (⟨"BargeRiverModel", "passes", "(IZ)I"⟩, 40) := ⟨⟨by decide +kernel, by decide +kernel⟩, List.mem_of_getElem? (i := 1202) (by decide +kernel), List.mem_of_getElem? (i := 1524) (by decide +kernel), List.mem_of_getElem? (i := 1525) (by decide +kernel)⟩
theorem lw_p34 : lw_okq (⟨"BargeRiverModel", "refuses", "(II)I"⟩, 40) := ⟨⟨by decide +kernel, by decide +kernel⟩, List.mem_of_getElem? (i := 1202) (by decide +kernel), List.mem_of_getElem? (i := 1528) (by decide +kernel), List.mem_of_getElem? (i := 1529) (by decide +kernel)⟩
theorem lw_p35 : lw_okq (⟨"BargeRiverModel", "locks", "(IIIZ)I"⟩, 40) := ⟨⟨by decide +kernel, by decide +kernel⟩, List.mem_of_getElem? (i := 1202) (by decide +kernel), List.mem_of_getElem? (i := 1532) (by decide +kernel), List.mem_of_getElem? (i := 1533) (by decide +kernel)⟩
theorem lw_p36 : lw_okq (⟨"BargeRiverModel", "ends", "(II)I"⟩, 40) := ⟨⟨by decide +kernel, by decide +kernel⟩, List.mem_of_getElem? (i := 1202) (by decide +kernel), List.mem_of_getElem? (i := 1536) (by decide +kernel), List.mem_of_getElem? (i := 1537) (by decide +kernel)⟩
theorem lw_p37 : lw_okq (⟨"BargeRiverModel", "takesBack", "()V"⟩, 40) := ⟨⟨by decide +kernel, by decide +kernel⟩, List.mem_of_getElem? (i := 1202) (by decide +kernel), List.mem_of_getElem? (i := 1540) (by decide +kernel), List.mem_of_getElem? (i := 1541) (by decide +kernel)⟩
theorem lw_p38 : lw_okq (⟨"BargeRiverModel", "sails", "(II)I"⟩, 40) := ⟨⟨by decide +kernel, by decide +kernel⟩, List.mem_of_getElem? (i := 1202) (by decide +kernel), List.mem_of_getElem? (i := 1548) (by decide +kernel), List.mem_of_getElem? (i := 1549) (by decide +kernel)⟩
theorem lw_p39 : lw_okq (⟨"BargeRiverModel", "can", "(II)Z"⟩, 40) := ⟨⟨by decide +kernel, by decide +kernel⟩, List.mem_of_getElem? (i := 1202) (by decide +kernel), List.mem_of_getElem? (i := 1556) (by decide +kernel), List.mem_of_getElem? (i := 1557) (by decide +kernel)⟩
theorem lw_p40 : lw_okq (⟨"BargeRiverModel", "allThrough", "()I"⟩, 40) := ⟨⟨by decide +kernel, by decide +kernel⟩, List.mem_of_getElem? (i := 1202) (by decide +kernel), List.mem_of_getElem? (i := 1564) (by decide +kernel), List.mem_of_getElem? (i := 1565) (by decide +kernel)⟩
theorem lw_p41 : lw_okq (⟨"BargeRiverModel", "has", "(I)J"⟩, 40) := ⟨⟨by decide +kernel, by decide +kernel⟩, List.mem_of_getElem? (i := 1202) (by decide +kernel), List.mem_of_getElem? (i := 1588) (by decide +kernel), List.mem_of_getElem? (i := 1589) (by decide +kernel)⟩
theorem lw_p42 : lw_okq (⟨"BargeRiverModel", "sells", "(II)V"⟩, 40) := ⟨⟨by decide +kernel, by decide +kernel⟩, List.mem_of_getElem? (i := 1202) (by decide +kernel), List.mem_of_getElem? (i := 1596) (by decide +kernel), List.mem_of_getElem? (i := 1597) (by decide +kernel)⟩
theorem lw_p43 : lw_okq (⟨"BargeRiverModel", "held", "()I"⟩, 40) := ⟨⟨by decide +kernel, by decide +kernel⟩, List.mem_of_getElem? (i := 1202) (by decide +kernel), List.mem_of_getElem? (i := 1632) (by decide +kernel), List.mem_of_getElem? (i := 1633) (by decide +kernel)⟩
theorem lw_p44 : lw_okq (⟨"BargeRiverModel", "writes", "(C)V"⟩, 40) := ⟨⟨by decide +kernel, by decide +kernel⟩, List.mem_of_getElem? (i := 1202) (by decide +kernel), List.mem_of_getElem? (i := 1664) (by decide +kernel), List.mem_of_getElem? (i := 1665) (by decide +kernel)⟩
def lw_privs_3 : List (MethodName × Nat) := [(⟨"BargeRiverModel", "keeps", "()V"⟩, 40), (⟨"BargeRiverModel", "passes", "(IZ)I"⟩, 40), (⟨"BargeRiverModel", "refuses", "(II)I"⟩, 40), (⟨"BargeRiverModel", "locks", "(IIIZ)I"⟩, 40), (⟨"BargeRiverModel", "ends", "(II)I"⟩, 40), (⟨"BargeRiverModel", "takesBack", "()V"⟩, 40), (⟨"BargeRiverModel", "sails", "(II)I"⟩, 40), (⟨"BargeRiverModel", "can", "(II)Z"⟩, 40), (⟨"BargeRiverModel", "allThrough", "()I"⟩, 40), (⟨"BargeRiverModel", "has", "(I)J"⟩, 40), (⟨"BargeRiverModel", "sells", "(II)V"⟩, 40), (⟨"BargeRiverModel", "held", "()I"⟩, 40), (⟨"BargeRiverModel", "writes", "(C)V"⟩, 40)]
theorem lw_r3 : ∀ q ∈ lw_privs_3, lw_okq q := List.forall_mem_cons.mpr ⟨lw_p32, List.forall_mem_cons.mpr ⟨lw_p33, List.forall_mem_cons.mpr ⟨lw_p34, List.forall_mem_cons.mpr ⟨lw_p35, List.forall_mem_cons.mpr ⟨lw_p36, List.forall_mem_cons.mpr ⟨lw_p37, List.forall_mem_cons.mpr ⟨lw_p38, List.forall_mem_cons.mpr ⟨lw_p39, List.forall_mem_cons.mpr ⟨lw_p40, List.forall_mem_cons.mpr ⟨lw_p41, List.forall_mem_cons.mpr ⟨lw_p42, List.forall_mem_cons.mpr ⟨lw_p43, List.forall_mem_cons.mpr ⟨lw_p44, fun _ h => absurd h List.not_mem_nil⟩⟩⟩⟩⟩⟩⟩⟩⟩⟩⟩⟩⟩
def lw_privs : List (MethodName × Nat) := lw_privs_1 ++ (lw_privs_2 ++ (lw_privs_3))
def lw_tbl : List Cond := k2_sels lw_privs ++ tables_1
theorem lw_privs_ok : ∀ q ∈ lw_privs, lw_okq q := by
  show ∀ q ∈ lw_privs_1 ++ (lw_privs_2 ++ (lw_privs_3)), lw_okq q
  exact List.forall_mem_append.mpr ⟨lw_r1, List.forall_mem_append.mpr ⟨lw_r2, lw_r3⟩⟩
/-- the streams that the claim lets the run draw from -/
abbrev lw_cs : List Choice := [Jvm.Choice.named "NaN.bits"]
theorem lw_bits : nanBits ∈ lw_cs := by first | decide | exact List.mem_cons_self | simp [lw_cs, nanBits]
-- ===== end of PART A; then your names; then what follows =====
/-! ===== BEGIN words of one list among another's, by their places ===== -/
theorem goodIn_r {big : List Cond} (ws : List Cond) (ps : List Nat) (hp : ws = ps.filterMap (fun i => big[i]?)) (h : ws.all goodWord = true) : GoodIn big ws := by
  intro w hw
  have h1 := List.all_eq_true.mp h w hw
  rw [hp] at hw
  obtain ⟨i, -, hi⟩ := List.mem_filterMap.mp hw
  have hm : w ∈ big := by first | exact List.mem_of_getElem? hi | exact List.getElem?_mem hi
  exact ⟨hm, good_of_word h1⟩
theorem goodIn_app {big a b : List Cond} (ha : GoodIn big a) (hb : GoodIn big b) : GoodIn big (a ++ b) := fun w h => (List.mem_append.mp h).elim (ha w) (hb w)
theorem goodIn_ca {big a b : List Cond} {c : Cond} (ha : GoodIn big (c :: a)) (hb : GoodIn big b) : GoodIn big (c :: (a ++ b)) := fun w h => (List.mem_cons.mp h).elim (fun e => ha w (List.mem_cons.mpr (Or.inl e))) (fun h => (List.mem_append.mp h).elim (fun h => ha w (List.mem_cons.mpr (Or.inr h))) (hb w))
theorem goodIn_sub {big ws : List Cond} (hm : ∀ w ∈ ws, w ∈ big) (h : ws.all goodWord = true) : GoodIn big ws := fun w hw => ⟨hm w hw, good_of_word (List.all_eq_true.mp h w hw)⟩
/-! ===== END ===== -/

/-! ===== BEGIN exceptions that leave a method, and their catching by the caller (launches without stack traces) ===== -/
section VXA
/-! The laws vx_back, vx_callV, vx_callS, vx_callSW, vx_throw0, vx_throwS follow proofs of the library, with one case more: JvmDerived/Free/Laws.lean (Back.of_free), Shelf42/LK1.lean (callV, callS), Shelf/KitTraced.lean (throwNew0V, throwNewS). -/
/-- where a method has thrown q: the class by its name, the cell, what was written, the world -/
def vx_T (XC : String → State → State → Prop) (st : State) (q : Addr) (t : State) (mc ms : Nat) (free : Addr → Prop) : Prop :=
  ∃ (E : String) (ce : Cell) (L : List Loc), XC E st t ∧ t.heap[q]? = some ce ∧ ce.vm = .none ∧ st.vm.findClass E = some ce.cls ∧ st.WarmedH t.vm ∧ st.sameButNew ({ t with vm := st.vm } : State) L mc ms ∧ ∀ z ∈ L, free z.base
def vx_Q (Qc : Array Value → State → Outcome → State → Prop) (XC : String → State → State → Prop) (mc ms : Nat) (free : Addr → Prop) : Array Value → State → Outcome → State → Prop := fun a st o t =>
  (Qc a st o t ∧ ∃ L, FrameEnd st o t L mc ms ∧ ∀ q ∈ L, free q.base) ∨ ∃ q, o = .threw q ∧ vx_T XC st q t mc ms free
/-- a callee that returns or throws -/
def vx_Met (l : Launch) (y : MethodName) (ws : List Cond) (rm : Room) (Pc : Array Value → State → Prop) (Qc : Array Value → State → Outcome → State → Prop) (XC : String → State → State → Prop) (mc ms : Nat) (free : Addr → Prop) : Prop :=
  MetFree l y (headSpec ws rm) Pc (fun _ _ _ _ _ => True) (vx_Q Qc XC mc ms free)
def vx_Post (XC : String → State → State → Prop) (mc ms : Nat) (free : Addr → Prop) : Pt → Array Value → Addr → Pt → Prop := fun A a q B =>
  ∃ (g : JFrame) (mk : MethodId) (t : State) (L : List Loc) (E : String) (ce : Cell), B.U.heap = t.heap ∧ B.U.vm = t.vm ∧ XC E (A.U.calling g mk a) t ∧ t.heap[q]? = some ce ∧ ce.vm = .none ∧ A.U.vm.findClass E = some ce.cls ∧ B.locs = A.locs ++ L ∧ (∀ z ∈ L, free z.base) ∧ B.cells = A.cells + mc ∧ B.slots = A.slots + ms
def vx_Back (l : Launch) (R : Room) (p : Program) (e : Env) (below : List Frame) (s : State) (sargs : Array Value) (y : MethodName) (len W9 : Nat)
    (Pre : Pt → Array Value → Prop) (Post : Pt → Array Value → Option Value → Pt → Prop) (PostX : Pt → Array Value → Addr → Pt → Prop) : Prop :=
  ∀ (m : MethodId) (meth : Method) (c : Code) (A : Pt) (g : JFrame) (ig : Instr) (mk : MethodId) (a : Array Value),
    Stand p l e R s m sargs below meth c A.U A.locs A.cells A.slots → g.method = m → g.locals.size = c.maxLocals → decode c.code g.pc = .ok (ig, len) →
    2 * g.monitorRoom + (g.stack.map fun v => v.category).sum ≤ W9 → A.U.methodNamed? y = some mk → Pre A a →
    (∃ (v : Option Value) (B : Pt), Stand p l e R s m sargs below meth c B.U B.locs B.cells B.slots ∧ Post A a v B ∧
      Steps p.tables e below (doInvoke e (A.U.setTop g) [] mk a).1 (B.U.setTop { g with pc := g.pc + len, stack := v.toList ++ g.stack })) ∨
    (∃ (q : Addr) (B : Pt), Stand p l e R s m sargs below meth c B.U B.locs B.cells B.slots ∧ PostX A a q B ∧
      Steps p.tables e below (doInvoke e (A.U.setTop g) [] mk a).1 ((B.U.setTop g).pushFrame (.throwing q)))
section Payer
variable {l : Launch} {R : Room} {p : Program} {e : Env} {below : List Frame} {s : State} {sargs : Array Value} {y : MethodName} {len W9 : Nat}
theorem vx_back {ws : List Cond} {rm : Room} {Pc : Array Value → State → Prop} {Qc : Array Value → State → Outcome → State → Prop} {XC : String → State → State → Prop} {mc ms : Nat} {free : Addr → Prop} {bytes : ByteArray} {maxL : Nat} {ret : Option FieldType}
    (hM : vx_Met l y ws rm Pc Qc XC mc ms free) (hblind : FrameBlind Pc) (hrc : rm.cells = mc) (hrs : rm.slots = ms)
    (hframes : rm.frames + 1 ≤ R.frames) (hlocals : W9 + (maxL + 11) + rm.locals ≤ R.locals)
    (hws : ∀ w ∈ ws, ∀ a' U, s.WarmedH U.vm → w.before a' U = true) (hcode : Cond.code y bytes maxL ret ∈ ws) (hinit : ∀ a' U, s.WarmedH U.vm → (Cond.initialized y.cls).before a' U = true) :
    vx_Back l R p e below s sargs y len W9 (PreOf R mc ms Pc) (PostOf Qc mc ms free) (vx_Post XC mc ms free) := by
  intro m meth c A g ig mk a X hg hsize hdg hW hn hp
  have h1 : (headSpec ws rm).pre.before a A.U = true := atoms_intro fun w hw => hws w hw _ _ X.warmed
  have h2 : (Cond.code y bytes maxL ret).before a A.U = true := hws _ hcode _ _ X.warmed
  have h3 : (Cond.initialized y.cls).before a A.U = true := hinit _ _ X.warmed
  have h4 : A.cells + (headSpec ws rm).room.cells ≤ R.cells := by rw [show (headSpec ws rm).room.cells = mc from hrc]; exact hp.1
  have h5 : A.slots + (headSpec ws rm).room.slots ≤ R.slots := by rw [show (headSpec ws rm).room.slots = ms from hrs]; exact hp.2.1
  have hPc : Pc a (A.U.calling g mk a) := hblind _ _ _ _ hp.2.2
  obtain ⟨U, Ls, c0, s0⟩ := A
  dsimp only [Pt.U, Pt.locs, Pt.cells, Pt.slots] at h1 h2 h3 h4 h5 X hn hPc ⊢
  obtain ⟨methY, cY, hmY, hcY, -, hlY, -, -, -, -⟩ := Cond.code_spec hn h2
  obtain ⟨kY, hkY, -⟩ := className_of_methodNamed hn
  have hinitY : kY.init = .initialized := Cond.initialized_spec (findClass_of_methodNamed hn) hkY h3
  have h : At U g.method c below := by rw [hg]; exact X.here
  have hlocals9 : W9 + (maxL + 11) + (headSpec ws rm).room.locals ≤ R.locals := hlocals
  have happ : (headSpec ws rm).appliesLoose y e.platform (U.calling g mk a) = true :=
    Spec.appliesLoose_calling (g := g) h hdg hn hkY hinitY
      (X.room_calling (g := g) (R' := (headSpec ws rm).room) hsize hmY hcY hframes (by rw [hlY]; omega) h4 h5) h1
  obtain ⟨mid, hmid⟩ := h.above
  have hfr : (U.setTop g).frames = (.java g :: mid) ++ below := by rw [State.frames_setTop' g h.top, hmid]; rfl
  obtain ⟨o, s₂, hsteps, -, hend, hq⟩ := Steps.callFree hM p X.admits X.cas X.clock (acts := []) hfr happ hPc trivial
  have hq' : vx_Q Qc XC mc ms free a (U.calling g mk a) o s₂ := hq
  rw [State.frames_setTop' g h.top] at hend
  obtain ⟨g₀, hg0⟩ := Option.isSome_iff_exists.mp h.top
  obtain ⟨r, hr⟩ := State.topJava?_eq_some.mp hg0
  have hr' : (({ U with heap := s₂.heap, slotsUsed := s₂.slotsUsed } : State).setVm s₂.vm).frames = .java g₀ :: r := hr
  rcases hq' with ⟨hqc, L, hfe, hL⟩ | ⟨q, rfl, E, ce, L, hx, hce, hcv, hcl, hW₂, hsm, hL⟩
  · obtain ⟨⟨v, rfl⟩, hW₂, e2, q2, q3, q4, q5, q6⟩ := id hfe
    have e3 : s₂ = ({ (U.calling g mk a).setFrames s₂.frames with heap := s₂.heap, slotsUsed := s₂.slotsUsed } : State).setVm s₂.vm := by
      have : s₂ = ({ s₂ with vm := (U.calling g mk a).vm } : State).setVm s₂.vm := rfl
      rw [e2] at this
      exact this
    obtain ⟨c₂, i₂, len₂, hc₂, hd₂, hf₂⟩ := hend
    have hW' : U.WarmedH s₂.vm := hW₂
    have hcc : c₂ = c := by
      have h1 : s₂.code? g.method = U.code? g.method := by
        rw [State.code?_eq, State.code?_eq, hW'.alike.method?]
      exact Option.some.inj (hc₂.symm.trans (h1.trans h.code))
    subst hcc
    have hlen : len₂ = len := by rw [hdg] at hd₂; cases hd₂; rfl
    subst hlen
    have hs₂ : s₂ = (({ U with heap := s₂.heap, slotsUsed := s₂.slotsUsed } : State).setVm s₂.vm).setTop { g with pc := g.pc + len₂, stack := v.toList ++ g.stack } := by
      refine e3.trans ?_
      rw [hf₂, State.calling_eq h.top, State.setFrames_setFrames, State.setTop_of_frames _ hr', hr]
      rfl
    have hsame : U.sameButNew ({ U with heap := s₂.heap, slotsUsed := s₂.slotsUsed } : State) L mc ms := by
      refine ⟨?_, q2, q3, q4, q5, q6⟩
      obtain ⟨t, ht, -⟩ := State.frames_cons hr
      show ({ U with heap := s₂.heap, slotsUsed := s₂.slotsUsed } : State) = { U.setFrames U.frames with heap := s₂.heap, slotsUsed := s₂.slotsUsed }
      rw [State.setFrames_self ht]
    subst hg
    refine Or.inl ⟨v, ⟨(({ U with heap := s₂.heap, slotsUsed := s₂.slotsUsed } : State).setVm s₂.vm), Ls ++ L, c0 + mc, s0 + ms⟩,
      ⟨X.admits, X.cas, X.clock, X.frames, X.room, X.hears, X.method, X.code, (X.here.setHeapUsed s₂.heap s₂.slotsUsed).setVm hW'.alike, X.tail, State.WarmedH.trans X.warmed hW', X.limits, X.bytes, X.same.trans (hsame.setVm s.vm)⟩,
      ⟨g, mk, s₂, L, rfl, rfl, hqc, rfl, hL, rfl, rfl⟩, ?_⟩
    show Steps p.tables e below _ ((({ U with heap := s₂.heap, slotsUsed := s₂.slotsUsed } : State).setVm s₂.vm).setTop { g with pc := g.pc + len₂, stack := v.toList ++ g.stack })
    rw [← hs₂]
    exact hsteps
  · obtain ⟨e2, q2, q3, q4, q5, q6⟩ := id hsm
    have e3 : s₂ = ({ (U.calling g mk a).setFrames s₂.frames with heap := s₂.heap, slotsUsed := s₂.slotsUsed } : State).setVm s₂.vm := by
      have : s₂ = ({ s₂ with vm := (U.calling g mk a).vm } : State).setVm s₂.vm := rfl
      rw [e2] at this
      exact this
    have hf₂ : s₂.frames = .throwing q :: .java g :: U.frames.tail := hend
    have hW' : U.WarmedH s₂.vm := hW₂
    have hs₂ : s₂ = ((({ U with heap := s₂.heap, slotsUsed := s₂.slotsUsed } : State).setVm s₂.vm).setTop g).pushFrame (.throwing q) := by
      refine e3.trans ?_
      rw [hf₂, State.calling_eq h.top, State.setFrames_setFrames, State.pushFrame, State.frames_setTop _ hr', State.setTop_of_frames _ hr', State.setFrames_setFrames, hr]
      rfl
    have hsame : U.sameButNew ({ U with heap := s₂.heap, slotsUsed := s₂.slotsUsed } : State) L mc ms := by
      refine ⟨?_, q2, q3, q4, q5, q6⟩
      obtain ⟨t, ht, -⟩ := State.frames_cons hr
      show ({ U with heap := s₂.heap, slotsUsed := s₂.slotsUsed } : State) = { U.setFrames U.frames with heap := s₂.heap, slotsUsed := s₂.slotsUsed }
      rw [State.setFrames_self ht]
    subst hg
    refine Or.inr ⟨q, ⟨(({ U with heap := s₂.heap, slotsUsed := s₂.slotsUsed } : State).setVm s₂.vm), Ls ++ L, c0 + mc, s0 + ms⟩,
      ⟨X.admits, X.cas, X.clock, X.frames, X.room, X.hears, X.method, X.code, (X.here.setHeapUsed s₂.heap s₂.slotsUsed).setVm hW'.alike, X.tail, State.WarmedH.trans X.warmed hW', X.limits, X.bytes, X.same.trans (hsame.setVm s.vm)⟩,
      ⟨g, mk, s₂, L, E, ce, rfl, rfl, hx, hce, hcv, hcl, rfl, hL, rfl, rfl⟩, ?_⟩
    show Steps p.tables e below _ (((({ U with heap := s₂.heap, slotsUsed := s₂.slotsUsed } : State).setVm s₂.vm).setTop g).pushFrame (.throwing q))
    rw [← hs₂]
    exact hsteps
end Payer
section Calls
variable {p : Program} {l : Launch} {e : Env} {R : Room} {s : State} {m : MethodId} {args : Array Value} {below : List Frame} {meth : Method} {c : Code} {T : State} {locs : List Loc} {cells slots : Nat}
theorem vx_callV (X : Stand p l e R s m args below meth c T locs cells slots) (hexec : p.tables.exec = Jvm.exec) {own C : String} {index : Nat} {y : MethodName} {bytes : ByteArray} {maxL : Nat} {ret : Option FieldType}
    (hown : s.vm.findClass own = some m.cls) (hlink : (Cond.methodLink own index y).before args s = true) (hinst : (Cond.instanceMethod y).before args s = true) (hsel : (Cond.selects C y y).before args s = true)
    (hcode : (Cond.code y bytes maxL ret).before args s = true) (hy : y.cls ≠ "java/lang/invoke/MethodHandle" ∧ y.cls ≠ "java/lang/invoke/VarHandle")
    {W9 : Nat} {Pre : Pt → Array Value → Prop} {Post : Pt → Array Value → Option Value → Pt → Prop} {PostX : Pt → Array Value → Addr → Pt → Prop} (hK : vx_Back l R p e below s args y 3 W9 Pre Post PostX)
    {b : Addr} {cellB : Cell} (hcell : T.heap[b]? = some cellB) (hobj : cellB.vm.isStatics = false) (hcls : s.vm.findClass C = some cellB.cls)
    {g : JFrame} (hg : g.method = m) (hsize : g.locals.size = c.maxLocals) {argsL rest : List Value} (hlen : ∀ sig, parseMethodDescriptor y.desc = some sig → argsL.length = sig.parameters.length)
    (hstack : g.stack = argsL.reverse ++ .ref b :: rest) (hW : 2 * g.monitorRoom + (rest.map fun v => v.category).sum ≤ W9) (hdg : decode c.code g.pc = .ok (.invokevirtual index, 3))
    (hpre : ∀ vm₁, s.WarmedH vm₁ → Pre ⟨T.setVm vm₁, locs, cells, slots⟩ (Value.ref b :: argsL).toArray) :
    (∃ (v : Option Value) (vm₁ : Vm) (B : Pt), s.WarmedH vm₁ ∧ Stand p l e R s m args below meth c B.U B.locs B.cells B.slots ∧ Post ⟨T.setVm vm₁, locs, cells, slots⟩ (Value.ref b :: argsL).toArray v B ∧
      ∀ target, Steps p.tables e below (B.U.setTop { g with pc := g.pc + 3, stack := v.toList ++ rest }) target → Steps p.tables e below (T.setTop g) target) ∨
    (∃ (q : Addr) (vm₁ : Vm) (B : Pt), s.WarmedH vm₁ ∧ Stand p l e R s m args below meth c B.U B.locs B.cells B.slots ∧ PostX ⟨T.setVm vm₁, locs, cells, slots⟩ (Value.ref b :: argsL).toArray q B ∧
      Steps p.tables e below (T.setTop g) ((B.U.setTop { g with stack := rest }).pushFrame (.throwing q))) := by
  obtain ⟨mk, methM, hnamed, hmethM, hstM, habM⟩ := Cond.instanceMethod_spec hinst
  obtain ⟨methM', cM, hmethM', -, -, -, -, -, -, hsigM⟩ := Cond.code_spec hnamed hcode
  cases hmethM.symm.trans hmethM'
  obtain ⟨c2, r2, m2, q1, q2, q3, q4, kP, hkP, hkPi⟩ := Cond.selects_spec hsel
  cases hcls.symm.trans q1
  cases (State.methodFound?_of_named hnamed hy).symm.trans q2
  cases hnamed.symm.trans q3
  have hselP : selectMethod e.platform s.vm cellB.cls mk = .method mk := by rw [Launch.admits_selectMethod X.admits]; exact q4
  obtain ⟨vm₁, X₁, hstep₁⟩ := X.invokevirtual hexec hown hlink hnamed hmethM hstM hkP hkPi hy (a := b) (cell := cellB) hcell
    (fun z h => by rw [h] at hobj; cases hobj) hselP hmethM habM hkP hkPi (g := g) hg (argsL := argsL) (rest := rest) (hlen _ hsigM) hstack hdg
  rcases hK m meth c ⟨T.setVm vm₁, locs, cells, slots⟩ { g with stack := rest } (.invokevirtual index) mk (Value.ref b :: argsL).toArray X₁ hg hsize hdg hW (X₁.named hnamed) (hpre vm₁ X₁.warmed) with ⟨v, B, X', hpost, hsteps⟩ | ⟨q, B, X', hpost, hsteps⟩
  · exact Or.inl ⟨v, vm₁, B, X₁.warmed, X', hpost, fun target h => hstep₁ _ fun acts => by rw [doInvoke_state]; exact hsteps.trans h⟩
  · exact Or.inr ⟨q, vm₁, B, X₁.warmed, X', hpost, hstep₁ _ fun acts => by rw [doInvoke_state]; exact hsteps⟩
theorem vx_callS (X : Stand p l e R s m args below meth c T locs cells slots) (hexec : p.tables.exec = Jvm.exec) {own : String} {index : Nat} {y : MethodName} {bytes : ByteArray} {maxL : Nat} {ret : Option FieldType}
    (hown : s.vm.findClass own = some m.cls) (hlink : (Cond.methodLink own index y).before args s = true) (hstat : (Cond.static y).before args s = true) (hinit : (Cond.initialized y.cls).before args s = true)
    (hcode : (Cond.code y bytes maxL ret).before args s = true) (hy : y.cls ≠ "java/lang/invoke/MethodHandle" ∧ y.cls ≠ "java/lang/invoke/VarHandle")
    {W9 : Nat} {Pre : Pt → Array Value → Prop} {Post : Pt → Array Value → Option Value → Pt → Prop} {PostX : Pt → Array Value → Addr → Pt → Prop} (hK : vx_Back l R p e below s args y 3 W9 Pre Post PostX)
    {g : JFrame} (hg : g.method = m) (hsize : g.locals.size = c.maxLocals) {argsL rest : List Value} (hlen : ∀ sig, parseMethodDescriptor y.desc = some sig → argsL.length = sig.parameters.length)
    (hstack : g.stack = argsL.reverse ++ rest) (hW : 2 * g.monitorRoom + (rest.map fun v => v.category).sum ≤ W9) (hdg : decode c.code g.pc = .ok (.invokestatic index, 3))
    (hpre : ∀ vm₁, s.WarmedH vm₁ → Pre ⟨T.setVm vm₁, locs, cells, slots⟩ argsL.toArray) :
    (∃ (v : Option Value) (vm₁ : Vm) (B : Pt), s.WarmedH vm₁ ∧ Stand p l e R s m args below meth c B.U B.locs B.cells B.slots ∧ Post ⟨T.setVm vm₁, locs, cells, slots⟩ argsL.toArray v B ∧
      ∀ target, Steps p.tables e below (B.U.setTop { g with pc := g.pc + 3, stack := v.toList ++ rest }) target → Steps p.tables e below (T.setTop g) target) ∨
    (∃ (q : Addr) (vm₁ : Vm) (B : Pt), s.WarmedH vm₁ ∧ Stand p l e R s m args below meth c B.U B.locs B.cells B.slots ∧ PostX ⟨T.setVm vm₁, locs, cells, slots⟩ argsL.toArray q B ∧
      Steps p.tables e below (T.setTop g) ((B.U.setTop { g with stack := rest }).pushFrame (.throwing q))) := by
  obtain ⟨mk, hnamed⟩ := Cond.code_named hcode
  obtain ⟨methM, cM, hmethM, -, -, -, -, -, -, hsigM⟩ := Cond.code_spec hnamed hcode
  have hstatic : methM.isStatic = true := Cond.static_spec hnamed hmethM hstat
  obtain ⟨kP, hkP, -⟩ := className_of_methodNamed hnamed
  have hinitP : kP.init = .initialized := Cond.initialized_spec (findClass_of_methodNamed hnamed) hkP hinit
  obtain ⟨vm₁, X₁, hstep₁⟩ := X.invokestatic hexec hown hlink hnamed hmethM hstatic hkP hinitP hy (g := g) hg (argsL := argsL) (rest := rest) (hlen _ hsigM) hstack hdg
  rcases hK m meth c ⟨T.setVm vm₁, locs, cells, slots⟩ { g with stack := rest } (.invokestatic index) mk argsL.toArray X₁ hg hsize hdg hW (X₁.named hnamed) (hpre vm₁ X₁.warmed) with ⟨v, B, X', hpost, hsteps⟩ | ⟨q, B, X', hpost, hsteps⟩
  · exact Or.inl ⟨v, vm₁, B, X₁.warmed, X', hpost, fun target h => hstep₁ _ fun acts => by rw [doInvoke_state]; exact hsteps.trans h⟩
  · exact Or.inr ⟨q, vm₁, B, X₁.warmed, X', hpost, hstep₁ _ fun acts => by rw [doInvoke_state]; exact hsteps⟩
end Calls
theorem vx_cls {s : State} {T : State} {vm₁ : Vm} {E : String} {k : ClassId} (hW : s.WarmedH vm₁) (h : (T.setVm vm₁).vm.findClass E = some k) : s.vm.findClass E = some k := by
  have h1 : vm₁.findClass E = some k := h
  rw [hW.alike.findClass] at h1
  exact h1
/-- the method's frame g, with q thrown over it -/
def vx_W (p : Program) (l : Launch) (e : Env) (R : Room) (s : State) (m : MethodId) (args : Array Value) (below : List Frame) (meth : Method) (c : Code) (H : Heap) (locs : List Loc) (cells slots : Nat) (Q : State → Prop) (g : JFrame) (q : Addr) : Prop :=
  ∀ T : State, T.heap = H → Stand p l e R s m args below meth c T locs cells slots → ∃ t, Steps p.tables e below ((T.setTop g).pushFrame (.throwing q)) t ∧ Q t
def vx_Run (p : Program) (l : Launch) (e : Env) (R : Room) (s : State) (m : MethodId) (args : Array Value) (below : List Frame) (meth : Method) (c : Code) (H : Heap) (locs : List Loc) (cells slots mc ms : Nat) (g : JFrame) (rest : List Value) (Qa : State → Outcome → State → Prop) (XC : String → State → State → Prop) (free : Addr → Prop) : Prop :=
  ∀ T : State, T.heap = H → Stand p l e R s m args below meth c T locs cells slots →
    (∃ (v : Option Value) (st₀ t T' : State) (L : List Loc), st₀.heap = H ∧ Stand p l e R s m args below meth c T' (locs ++ L) (cells + mc) (slots + ms) ∧ (∀ q ∈ L, free q.base) ∧ T'.heap = t.heap ∧ T'.vm = t.vm ∧ Qa st₀ (.returned v) t ∧
      Goes p e below T g T' { g with pc := g.pc + 3, stack := v.toList ++ rest }) ∨
    (∃ (q : Addr) (st₀ t T' : State) (L : List Loc) (E : String) (ce : Cell), st₀.heap = H ∧ Stand p l e R s m args below meth c T' (locs ++ L) (cells + mc) (slots + ms) ∧ (∀ z ∈ L, free z.base) ∧ T'.heap = t.heap ∧ T'.vm = t.vm ∧ XC E st₀ t ∧ t.heap[q]? = some ce ∧ ce.vm = .none ∧ s.vm.findClass E = some ce.cls ∧
      Steps p.tables e below (T.setTop g) ((T'.setTop { g with stack := rest }).pushFrame (.throwing q)))
def vx_X {S : Type} (px : S → Prop) (B : String → S → State → Prop) (A : Nat → Prop) : String → State → State → Prop := fun E st t => ∃ u : S, px u ∧ B E u t ∧ va_F A st t
section Runs
variable {p : Program} {l : Launch} {e : Env} {R : Room} {s : State} {m : MethodId} {args : Array Value} {below : List Frame} {meth : Method} {c : Code} {H : Heap} {locs : List Loc} {cells slots : Nat}
variable {y : MethodName} {bytes cc : ByteArray} {maxL nL mc ms n index : Nat} {ret : Option FieldType} {ws : List Cond} {rm : Room} {Pc : Array Value → State → Prop} {Qc : Array Value → State → Outcome → State → Prop} {XC : String → State → State → Prop} {free : Addr → Prop} {Ts : List Cond} {own C : String} {b : Addr} {As rest : List Value} {g : JFrame}
theorem vx_callBack (cb : CallB R s args own index y bytes maxL ret ws rm mc ms n) (hM : vx_Met l y ws rm Pc Qc XC mc ms free) (hbl : FrameBlind Pc) : vx_Back l R p e below s args y 3 8 (PreOf R mc ms Pc) (PostOf Qc mc ms free) (vx_Post XC mc ms free) := by
  obtain ⟨hrc, hrs, hfr, hlo, hws, hcw, -, hini, -⟩ := cb
  exact vx_back (bytes := bytes) (maxL := maxL) (ret := ret) hM hbl hrc hrs hfr hlo hws hcw (fun a' U hW => word_at hW (Or.inl (by first | rfl | simp [Cond.onTables, Cond.keeps, Cond.steady])) hini)
theorem vx_runV (S : CallFix p m c cc nL s args Ts own) (hM : vx_Met l y ws rm Pc Qc XC mc ms free) (cw : CallW R s args own C index y bytes maxL ret ws rm mc ms n) (hp : PreV s H C b Pc As)
    (hg : g.method = m) (hn : As.length = n) (hsize : g.locals.size = nL) (hstack : g.stack = As.reverse ++ .ref b :: rest) (hW : 2 * g.monitorRoom + (rest.map fun v => v.category).sum ≤ 8) (hdg : decode cc g.pc = .ok (.invokevirtual index, 3)) (hf : cells + mc ≤ R.cells ∧ slots + ms ≤ R.slots) :
    vx_Run p l e R s m args below meth c H locs cells slots mc ms g rest (Qc (Value.ref b :: As).toArray) XC free := by
  have hK : vx_Back l R p e below s args y 3 8 (PreOf R mc ms Pc) (PostOf Qc mc ms free) (vx_Post XC mc ms free) := vx_callBack cw.1 hM hp.1
  obtain ⟨⟨-, -, -, -, -, -, hcode, -, hy, hlen, hl⟩, hin, hse⟩ := cw
  obtain ⟨hx, hb, hml, ho, -⟩ := S
  obtain ⟨-, ⟨cellB, hcB, hoB, hclB⟩, hPc⟩ := hp
  intro T hT X
  rcases vx_callV X hx (C := C) (bytes := bytes) (maxL := maxL) (ret := ret) ho hl hin hse hcode hy hK (by rw [hT]; exact hcB) hoB hclB hg (hsize.trans hml.symm) (argsL := As) (rest := rest) (fun sig h => hn.trans (hlen sig h)) hstack hW (by rw [hb]; exact hdg)
    (fun vm₁ hW₁ => ⟨hf.1, hf.2, hPc (T.setVm vm₁) hT hW₁⟩) with ⟨v, vm₁, ⟨U', l2, c2, s2⟩, hW₁, X', ⟨g', mk, t, L, e1, e2, hq, h1, hL, h2, h3⟩, st⟩ | ⟨q, vm₁, ⟨U', l2, c2, s2⟩, hW₁, X', ⟨g', mk, t, L, E, ce, e1, e2, hq, hce, hcv, hcl, h1, hL, h2, h3⟩, st⟩
  · dsimp only [Pt.U, Pt.locs, Pt.cells, Pt.slots] at X' e1 e2 h1 h2 h3 st
    subst h1; subst h2; subst h3
    exact Or.inl ⟨v, (T.setVm vm₁).calling g' mk (Value.ref b :: As).toArray, t, U', L, hT, X', hL, e1, e2, hq, st⟩
  · dsimp only [Pt.U, Pt.locs, Pt.cells, Pt.slots] at X' e1 e2 h1 h2 h3 st hcl
    subst h1; subst h2; subst h3
    exact Or.inr ⟨q, (T.setVm vm₁).calling g' mk (Value.ref b :: As).toArray, t, U', L, E, ce, hT, X', hL, e1, e2, hq, hce, hcv, vx_cls hW₁ hcl, st⟩
theorem vx_runS (S : CallFix p m c cc nL s args Ts own) (hM : vx_Met l y ws rm Pc Qc XC mc ms free) (cw : CallB R s args own index y bytes maxL ret ws rm mc ms n ∧ (Cond.static y).before args s = true) (hp : PreS s H Pc As)
    (hg : g.method = m) (hn : As.length = n) (hsize : g.locals.size = nL) (hstack : g.stack = As.reverse ++ rest) (hW : 2 * g.monitorRoom + (rest.map fun v => v.category).sum ≤ 8) (hdg : decode cc g.pc = .ok (.invokestatic index, 3)) (hf : cells + mc ≤ R.cells ∧ slots + ms ≤ R.slots) :
    vx_Run p l e R s m args below meth c H locs cells slots mc ms g rest (Qc As.toArray) XC free := by
  have hK : vx_Back l R p e below s args y 3 8 (PreOf R mc ms Pc) (PostOf Qc mc ms free) (vx_Post XC mc ms free) := vx_callBack cw.1 hM hp.1
  obtain ⟨⟨-, -, -, -, -, -, hcode, hini, hy, hlen, hl⟩, hstt⟩ := cw
  obtain ⟨hx, hb, hml, ho, -⟩ := S
  intro T hT X
  rcases vx_callS X hx (bytes := bytes) (maxL := maxL) (ret := ret) ho hl hstt hini hcode hy hK hg (hsize.trans hml.symm) (argsL := As) (rest := rest) (fun sig h => hn.trans (hlen sig h)) hstack hW (by rw [hb]; exact hdg)
    (fun vm₁ hW₁ => ⟨hf.1, hf.2, hp.2 (T.setVm vm₁) hT hW₁⟩) with ⟨v, vm₁, ⟨U', l2, c2, s2⟩, hW₁, X', ⟨g', mk, t, L, e1, e2, hq, h1, hL, h2, h3⟩, st⟩ | ⟨q, vm₁, ⟨U', l2, c2, s2⟩, hW₁, X', ⟨g', mk, t, L, E, ce, e1, e2, hq, hce, hcv, hcl, h1, hL, h2, h3⟩, st⟩
  · dsimp only [Pt.U, Pt.locs, Pt.cells, Pt.slots] at X' e1 e2 h1 h2 h3 st
    subst h1; subst h2; subst h3
    exact Or.inl ⟨v, (T.setVm vm₁).calling g' mk As.toArray, t, U', L, hT, X', hL, e1, e2, hq, st⟩
  · dsimp only [Pt.U, Pt.locs, Pt.cells, Pt.slots] at X' e1 e2 h1 h2 h3 st hcl
    subst h1; subst h2; subst h3
    exact Or.inr ⟨q, (T.setVm vm₁).calling g' mk As.toArray, t, U', L, E, ce, hT, X', hL, e1, e2, hq, hce, hcv, vx_cls hW₁ hcl, st⟩
end Runs
section Rows
variable {p : Program} {l : Launch} {e : Env} {R : Room} {s : State} {m : MethodId} {args : Array Value} {below : List Frame} {meth : Method} {c : Code} {H : Heap} {locs : List Loc} {cells slots : Nat} {Q : State → Prop}
variable {mc ms : Nat} {free : Addr → Prop} {A0 A1 : Nat → Prop} {H0 : Heap} {a : Array Value} {pc : Nat} {ls : Array Slot} {st0 rest : List Value}
theorem vx_keep {st₀ t T' : State} {L : List Loc} (h0 : st₀.heap = H) (e1 : T'.heap = t.heap) (hS : va_S A0 H0 H locs) (hA : ∀ q, q < H.size → A1 q → A0 q) (hf : ∀ q, free q → A0 q) (hL : ∀ q ∈ L, free q.base) (hF : va_F A1 st₀ t) :
    H.size ≤ T'.heap.size ∧ (∀ q : Nat, q < H.size → ¬ A1 q → T'.heap[q]? = H[q]?) ∧ va_S A0 H0 T'.heap (locs ++ L) := by
  obtain ⟨hz, hk⟩ := hF
  rw [h0] at hz hk
  exact ⟨by rw [e1]; exact hz, fun q h1 h2 => by rw [e1]; exact hk q h1 h2,
    ⟨Nat.le_trans hS.1 (by rw [e1]; exact hz), fun q h1 h2 => by rw [e1, hk q (Nat.lt_of_lt_of_le h1 hS.1) (fun z => h2 (hA q (Nat.lt_of_lt_of_le h1 hS.1) z))]; exact hS.2.1 q h1 h2, fun q hq => by
      rcases List.mem_append.mp hq with h | h
      · exact hS.2.2 q h
      · exact hf _ (hL q h)⟩⟩
theorem vx_calli {S SX : Type} {post : Int32 → S → Prop} {px : SX → Prop} {B : S → State → Prop} {BX : String → SX → State → Prop} {AX : Nat → Prop} (hr : vx_Run p l e R s m args below meth c H locs cells slots mc ms (F0 m pc ls st0) rest (va_Qi post B A1 a) (vx_X px BX AX) free) (hS : va_S A0 H0 H locs) (hA : ∀ q, q < H.size → A1 q → A0 q) (hf : ∀ q, free q → A0 q) (hAX : ∀ q, q < H.size → AX q → A0 q)
    (kx : ∀ (E : String) (ce : Cell) (q9 : Addr) (u : SX) (t : State) (H1 : Heap) (locs1 : List Loc), t.heap = H1 → s.vm.Alike t.vm → px u → BX E u t → H.size ≤ H1.size → (∀ q : Nat, q < H.size → ¬ AX q → H1[q]? = H[q]?) → va_S A0 H0 H1 locs1 → H1[q9]? = some ce → ce.vm = .none → s.vm.findClass E = some ce.cls → vx_W p l e R s m args below meth c H1 locs1 (cells + mc) (slots + ms) Q (F0 m pc ls rest) q9)
    (kk : ∀ (r : Int32) (u : S) (t : State) (H1 : Heap) (locs1 : List Loc), t.heap = H1 → s.vm.Alike t.vm → post r u → B u t → H.size ≤ H1.size → (∀ q : Nat, q < H.size → ¬ A1 q → H1[q]? = H[q]?) → va_S A0 H0 H1 locs1 → W p l e R s m args below meth c H1 locs1 (cells + mc) (slots + ms) Q (F0 m (pc + 3) ls (.int r :: rest))) : W p l e R s m args below meth c H locs cells slots Q (F0 m pc ls st0) := by
  intro T hT X
  rcases hr T hT X with ⟨v, st₀, t, T', L, h0, X', hL, e1, e2, ⟨⟨r, u, hv, hp, hb⟩, hF⟩, st⟩ | ⟨q, st₀, t, T', L, E, ce, h0, X', hL, e1, e2, ⟨u, hp, hb, hF⟩, hce, hcv, hcl, st⟩
  · cases hv
    obtain ⟨k1, k2, k3⟩ := vx_keep h0 e1 hS hA hf hL hF
    obtain ⟨t2, a1, b1⟩ := kk r u t T'.heap (locs ++ L) e1.symm (by rw [← e2]; exact X'.warmed.alike) hp hb k1 k2 k3 T' rfl X'
    exact ⟨t2, st t2 a1, b1⟩
  · obtain ⟨k1, k2, k3⟩ := vx_keep h0 e1 hS hAX hf hL hF
    obtain ⟨t2, a1, b1⟩ := kx E ce q u t T'.heap (locs ++ L) e1.symm (by rw [← e2]; exact X'.warmed.alike) hp hb k1 k2 k3 (by rw [e1]; exact hce) hcv hcl T' rfl X'
    exact ⟨t2, st.trans a1, b1⟩
theorem vx_calll {S SX : Type} {post : Int64 → S → Prop} {px : SX → Prop} {B : S → State → Prop} {BX : String → SX → State → Prop} {AX : Nat → Prop} (hr : vx_Run p l e R s m args below meth c H locs cells slots mc ms (F0 m pc ls st0) rest (va_Ql post B A1 a) (vx_X px BX AX) free) (hS : va_S A0 H0 H locs) (hA : ∀ q, q < H.size → A1 q → A0 q) (hf : ∀ q, free q → A0 q) (hAX : ∀ q, q < H.size → AX q → A0 q)
    (kx : ∀ (E : String) (ce : Cell) (q9 : Addr) (u : SX) (t : State) (H1 : Heap) (locs1 : List Loc), t.heap = H1 → s.vm.Alike t.vm → px u → BX E u t → H.size ≤ H1.size → (∀ q : Nat, q < H.size → ¬ AX q → H1[q]? = H[q]?) → va_S A0 H0 H1 locs1 → H1[q9]? = some ce → ce.vm = .none → s.vm.findClass E = some ce.cls → vx_W p l e R s m args below meth c H1 locs1 (cells + mc) (slots + ms) Q (F0 m pc ls rest) q9)
    (kk : ∀ (r : Int64) (u : S) (t : State) (H1 : Heap) (locs1 : List Loc), t.heap = H1 → s.vm.Alike t.vm → post r u → B u t → H.size ≤ H1.size → (∀ q : Nat, q < H.size → ¬ A1 q → H1[q]? = H[q]?) → va_S A0 H0 H1 locs1 → W p l e R s m args below meth c H1 locs1 (cells + mc) (slots + ms) Q (F0 m (pc + 3) ls (.long r :: rest))) : W p l e R s m args below meth c H locs cells slots Q (F0 m pc ls st0) := by
  intro T hT X
  rcases hr T hT X with ⟨v, st₀, t, T', L, h0, X', hL, e1, e2, ⟨⟨r, u, hv, hp, hb⟩, hF⟩, st⟩ | ⟨q, st₀, t, T', L, E, ce, h0, X', hL, e1, e2, ⟨u, hp, hb, hF⟩, hce, hcv, hcl, st⟩
  · cases hv
    obtain ⟨k1, k2, k3⟩ := vx_keep h0 e1 hS hA hf hL hF
    obtain ⟨t2, a1, b1⟩ := kk r u t T'.heap (locs ++ L) e1.symm (by rw [← e2]; exact X'.warmed.alike) hp hb k1 k2 k3 T' rfl X'
    exact ⟨t2, st t2 a1, b1⟩
  · obtain ⟨k1, k2, k3⟩ := vx_keep h0 e1 hS hAX hf hL hF
    obtain ⟨t2, a1, b1⟩ := kx E ce q u t T'.heap (locs ++ L) e1.symm (by rw [← e2]; exact X'.warmed.alike) hp hb k1 k2 k3 (by rw [e1]; exact hce) hcv hcl T' rfl X'
    exact ⟨t2, st.trans a1, b1⟩
theorem vx_callf {S SX : Type} {post : UInt32 → S → Prop} {px : SX → Prop} {B : S → State → Prop} {BX : String → SX → State → Prop} {AX : Nat → Prop} (hr : vx_Run p l e R s m args below meth c H locs cells slots mc ms (F0 m pc ls st0) rest (va_Qf post B A1 a) (vx_X px BX AX) free) (hS : va_S A0 H0 H locs) (hA : ∀ q, q < H.size → A1 q → A0 q) (hf : ∀ q, free q → A0 q) (hAX : ∀ q, q < H.size → AX q → A0 q)
    (kx : ∀ (E : String) (ce : Cell) (q9 : Addr) (u : SX) (t : State) (H1 : Heap) (locs1 : List Loc), t.heap = H1 → s.vm.Alike t.vm → px u → BX E u t → H.size ≤ H1.size → (∀ q : Nat, q < H.size → ¬ AX q → H1[q]? = H[q]?) → va_S A0 H0 H1 locs1 → H1[q9]? = some ce → ce.vm = .none → s.vm.findClass E = some ce.cls → vx_W p l e R s m args below meth c H1 locs1 (cells + mc) (slots + ms) Q (F0 m pc ls rest) q9)
    (kk : ∀ (r : UInt32) (u : S) (t : State) (H1 : Heap) (locs1 : List Loc), t.heap = H1 → s.vm.Alike t.vm → post r u → B u t → H.size ≤ H1.size → (∀ q : Nat, q < H.size → ¬ A1 q → H1[q]? = H[q]?) → va_S A0 H0 H1 locs1 → W p l e R s m args below meth c H1 locs1 (cells + mc) (slots + ms) Q (F0 m (pc + 3) ls (.float r :: rest))) : W p l e R s m args below meth c H locs cells slots Q (F0 m pc ls st0) := by
  intro T hT X
  rcases hr T hT X with ⟨v, st₀, t, T', L, h0, X', hL, e1, e2, ⟨⟨r, u, hv, hp, hb⟩, hF⟩, st⟩ | ⟨q, st₀, t, T', L, E, ce, h0, X', hL, e1, e2, ⟨u, hp, hb, hF⟩, hce, hcv, hcl, st⟩
  · cases hv
    obtain ⟨k1, k2, k3⟩ := vx_keep h0 e1 hS hA hf hL hF
    obtain ⟨t2, a1, b1⟩ := kk r u t T'.heap (locs ++ L) e1.symm (by rw [← e2]; exact X'.warmed.alike) hp hb k1 k2 k3 T' rfl X'
    exact ⟨t2, st t2 a1, b1⟩
  · obtain ⟨k1, k2, k3⟩ := vx_keep h0 e1 hS hAX hf hL hF
    obtain ⟨t2, a1, b1⟩ := kx E ce q u t T'.heap (locs ++ L) e1.symm (by rw [← e2]; exact X'.warmed.alike) hp hb k1 k2 k3 (by rw [e1]; exact hce) hcv hcl T' rfl X'
    exact ⟨t2, st.trans a1, b1⟩
theorem vx_calld {S SX : Type} {post : UInt64 → S → Prop} {px : SX → Prop} {B : S → State → Prop} {BX : String → SX → State → Prop} {AX : Nat → Prop} (hr : vx_Run p l e R s m args below meth c H locs cells slots mc ms (F0 m pc ls st0) rest (va_Qd post B A1 a) (vx_X px BX AX) free) (hS : va_S A0 H0 H locs) (hA : ∀ q, q < H.size → A1 q → A0 q) (hf : ∀ q, free q → A0 q) (hAX : ∀ q, q < H.size → AX q → A0 q)
    (kx : ∀ (E : String) (ce : Cell) (q9 : Addr) (u : SX) (t : State) (H1 : Heap) (locs1 : List Loc), t.heap = H1 → s.vm.Alike t.vm → px u → BX E u t → H.size ≤ H1.size → (∀ q : Nat, q < H.size → ¬ AX q → H1[q]? = H[q]?) → va_S A0 H0 H1 locs1 → H1[q9]? = some ce → ce.vm = .none → s.vm.findClass E = some ce.cls → vx_W p l e R s m args below meth c H1 locs1 (cells + mc) (slots + ms) Q (F0 m pc ls rest) q9)
    (kk : ∀ (r : UInt64) (u : S) (t : State) (H1 : Heap) (locs1 : List Loc), t.heap = H1 → s.vm.Alike t.vm → post r u → B u t → H.size ≤ H1.size → (∀ q : Nat, q < H.size → ¬ A1 q → H1[q]? = H[q]?) → va_S A0 H0 H1 locs1 → W p l e R s m args below meth c H1 locs1 (cells + mc) (slots + ms) Q (F0 m (pc + 3) ls (.double r :: rest))) : W p l e R s m args below meth c H locs cells slots Q (F0 m pc ls st0) := by
  intro T hT X
  rcases hr T hT X with ⟨v, st₀, t, T', L, h0, X', hL, e1, e2, ⟨⟨r, u, hv, hp, hb⟩, hF⟩, st⟩ | ⟨q, st₀, t, T', L, E, ce, h0, X', hL, e1, e2, ⟨u, hp, hb, hF⟩, hce, hcv, hcl, st⟩
  · cases hv
    obtain ⟨k1, k2, k3⟩ := vx_keep h0 e1 hS hA hf hL hF
    obtain ⟨t2, a1, b1⟩ := kk r u t T'.heap (locs ++ L) e1.symm (by rw [← e2]; exact X'.warmed.alike) hp hb k1 k2 k3 T' rfl X'
    exact ⟨t2, st t2 a1, b1⟩
  · obtain ⟨k1, k2, k3⟩ := vx_keep h0 e1 hS hAX hf hL hF
    obtain ⟨t2, a1, b1⟩ := kx E ce q u t T'.heap (locs ++ L) e1.symm (by rw [← e2]; exact X'.warmed.alike) hp hb k1 k2 k3 (by rw [e1]; exact hce) hcv hcl T' rfl X'
    exact ⟨t2, st.trans a1, b1⟩
theorem vx_callv {S SX : Type} {post : S → Prop} {px : SX → Prop} {B : S → State → Prop} {BX : String → SX → State → Prop} {AX : Nat → Prop} (hr : vx_Run p l e R s m args below meth c H locs cells slots mc ms (F0 m pc ls st0) rest (va_Qv post B A1 a) (vx_X px BX AX) free) (hS : va_S A0 H0 H locs) (hA : ∀ q, q < H.size → A1 q → A0 q) (hf : ∀ q, free q → A0 q) (hAX : ∀ q, q < H.size → AX q → A0 q)
    (kx : ∀ (E : String) (ce : Cell) (q9 : Addr) (u : SX) (t : State) (H1 : Heap) (locs1 : List Loc), t.heap = H1 → s.vm.Alike t.vm → px u → BX E u t → H.size ≤ H1.size → (∀ q : Nat, q < H.size → ¬ AX q → H1[q]? = H[q]?) → va_S A0 H0 H1 locs1 → H1[q9]? = some ce → ce.vm = .none → s.vm.findClass E = some ce.cls → vx_W p l e R s m args below meth c H1 locs1 (cells + mc) (slots + ms) Q (F0 m pc ls rest) q9)
    (kk : ∀ (u : S) (t : State) (H1 : Heap) (locs1 : List Loc), t.heap = H1 → s.vm.Alike t.vm → post u → B u t → H.size ≤ H1.size → (∀ q : Nat, q < H.size → ¬ A1 q → H1[q]? = H[q]?) → va_S A0 H0 H1 locs1 → W p l e R s m args below meth c H1 locs1 (cells + mc) (slots + ms) Q (F0 m (pc + 3) ls (rest))) : W p l e R s m args below meth c H locs cells slots Q (F0 m pc ls st0) := by
  intro T hT X
  rcases hr T hT X with ⟨v, st₀, t, T', L, h0, X', hL, e1, e2, ⟨⟨u, hv, hp, hb⟩, hF⟩, st⟩ | ⟨q, st₀, t, T', L, E, ce, h0, X', hL, e1, e2, ⟨u, hp, hb, hF⟩, hce, hcv, hcl, st⟩
  · cases hv
    obtain ⟨k1, k2, k3⟩ := vx_keep h0 e1 hS hA hf hL hF
    obtain ⟨t2, a1, b1⟩ := kk u t T'.heap (locs ++ L) e1.symm (by rw [← e2]; exact X'.warmed.alike) hp hb k1 k2 k3 T' rfl X'
    exact ⟨t2, st t2 a1, b1⟩
  · obtain ⟨k1, k2, k3⟩ := vx_keep h0 e1 hS hAX hf hL hF
    obtain ⟨t2, a1, b1⟩ := kx E ce q u t T'.heap (locs ++ L) e1.symm (by rw [← e2]; exact X'.warmed.alike) hp hb k1 k2 k3 (by rw [e1]; exact hce) hcv hcl T' rfl X'
    exact ⟨t2, st.trans a1, b1⟩
/-- caught by the row x of this method's table; the rows ahead don't take it -/
theorem vx_catch {own name : String} {E : String} {ce : Cell} {q : Addr} (hown : s.vm.findClass own = some m.cls) (pre : List ExceptionTableEntry) (x : ExceptionTableEntry) (suf : List ExceptionTableEntry) (hsplit : c.exceptionTable.toList = pre ++ x :: suf)
    (hpass : ∀ z ∈ pre, covers z pc = false ∨ (z.catchType ≠ 0 ∧ ∃ nm : String, (Cond.classLink own z.catchType nm).before args s = true ∧ va_Nc E nm s)) (hx : covers x pc = true) (h0 : x.catchType ≠ 0)
    (hlink : (Cond.classLink own x.catchType name).before args s = true) (hcast : (Cond.castable E name).before args s = true) (hcell : H[q]? = some ce) (hv : ce.vm = .none) (hcl : s.vm.findClass E = some ce.cls)
    (kk : W p l e R s m args below meth c H locs cells slots Q (F0 m x.handlerPc ls [.ref q])) : vx_W p l e R s m args below meth c H locs cells slots Q (F0 m pc ls rest) q := by
  intro T hT X
  have hpl : e.platform.magicAccessors = ({} : Platform).magicAccessors := by rw [X.admits.platform]
  obtain ⟨c3, c4, hc3, hc4, hasg⟩ := Cond.castable_spec hcast
  cases Option.some.inj (hc3.symm.trans hcl)
  obtain ⟨c5, hc5, hcl5⟩ := Cond.classLink_spec hown hlink e.platform hpl
  cases Option.some.inj (hc4.symm.trans hc5)
  obtain ⟨vm', X', st⟩ := X.thenCaughtThrough q (g := F0 m pc ls rest) rfl (Steps.refl _) (by rw [hT]; exact hcell) (by rw [hv]; rfl) (by obtain ⟨k9, h9, -⟩ := Vm.findClass_spec hcl; exact ⟨k9, h9⟩) pre x suf hsplit
    (fun z hz => by
      rcases hpass z hz with h | ⟨hz0, nm, hl1, hn1⟩
      · exact Or.inl h
      · obtain ⟨c6, hc6, hcl6⟩ := Cond.classLink_spec hown hl1 e.platform hpl
        obtain ⟨a8, b8, h1, h2, h3⟩ := hn1
        cases Option.some.inj (h1.symm.trans hcl)
        cases Option.some.inj (h2.symm.trans hc6)
        exact Or.inr ⟨hz0, _, hcl6, h3⟩) hx (Or.inr ⟨h0, c4, hcl5, hasg⟩)
  obtain ⟨t, a1, b1⟩ := kk (T.setVm vm') hT X'
  exact ⟨t, st.trans a1, b1⟩
end Rows
section Ends
variable {p : Program} {l : Launch} {e : Env} {R : Room} {s : State} {m : MethodId} {args : Array Value} {below : List Frame} {meth : Method} {c : Code} {H : Heap} {locs : List Loc} {cells slots : Nat} {Q : State → Prop}
variable {mc ms : Nat} {free : Addr → Prop} {A0 A1 : Nat → Prop} {H0 : Heap} {a : Array Value} {ls : Array Slot} {st0 rest : List Value}
variable {Qc : Array Value → State → Outcome → State → Prop} {XC : String → State → State → Prop}
/-- what a body that may throw owes at its end -/
def vx_MQ (below : List Frame) (Qc : Array Value → State → Outcome → State → Prop) (XC : String → State → State → Prop) (a : Array Value) (s : State) (mc ms : Nat) (free : Addr → Prop) : State → Prop := fun t =>
  ∃ o, t.status = .running ∧ Ended t below o ∧ vx_Q Qc XC mc ms free a s o t
theorem vx_ret {g : JFrame} {mc ms : Nat} (k : W p l e R s m args below meth c H locs cells slots (MQ below Qc args s mc ms free) g) : W p l e R s m args below meth c H locs cells slots (vx_MQ below Qc XC args s mc ms free) g := by
  intro T hT X
  obtain ⟨t, a1, o, b1, b2, b3, b4⟩ := k T hT X
  exact ⟨t, a1, o, b1, b2, Or.inl ⟨b3, b4⟩⟩
/-- not caught here: it goes on to the caller -/
theorem vx_widen {g : JFrame} {q : Addr} {k n : Nat} (h1 : cells ≤ k) (h2 : slots ≤ n) (kk : vx_W p l e R s m args below meth c H locs k n Q g q) : vx_W p l e R s m args below meth c H locs cells slots Q g q := fun T hT X => kk T hT (stand_widen X h1 h2)
theorem vx_out {pc : Nat} {E : String} {ce : Cell} {q : Addr} {mc ms : Nat} (hout : ∀ x ∈ c.exceptionTable.toList, covers x pc = false) (hlocks : meth.locks = false) (hcell : H[q]? = some ce) (hv : ce.vm = .none) (hcl : s.vm.findClass E = some ce.cls)
    (hx : ∀ t : State, t.heap = H → s.vm.Alike t.vm → XC E s t) (hf : ∀ z ∈ locs, free z.base) (hc : cells ≤ mc) (hs : slots ≤ ms) :
    vx_W p l e R s m args below meth c H locs cells slots (vx_MQ below Qc XC args s mc ms free) (F0 m pc ls rest) q := by
  intro T hT X
  obtain ⟨st1, hrun, hend, hW, hsm⟩ := X.leaveThrown q (g := F0 m pc ls rest) rfl rfl rfl hout hlocks
  have hcell9 : (T.setFrames (.throwing q :: below)).heap[q]? = some ce := by
    show T.heap[q]? = some ce
    rw [hT]; exact hcell
  exact ⟨_, st1, .threw q, hrun, hend, Or.inr ⟨q, rfl, E, ce, locs, hx _ hT hW.alike, hcell9, hv, hcl, hW, hsm.mono hc hs, hf⟩⟩
theorem vx_frame {U : State} {k n : Nat} (h : s.sameButNew ({ U with vm := s.vm } : State) locs k n) : s.heap.size ≤ U.heap.size ∧ ∀ q : Nat, q < s.heap.size → (∀ z ∈ locs, z.base ≠ q) → U.heap[q]? = s.heap[q]? := by
  obtain ⟨-, h2, -, -, -, h6⟩ := h
  refine ⟨h2, fun q hq hz => ?_⟩
  obtain ⟨c9, e1, e2, e3, e4⟩ := h6 q _ (Array.getElem?_eq_getElem hq)
  have hs : c9.slots = (s.heap[q]).slots := Array.ext_getElem? fun i => e4 i fun hm => hz _ hm rfl
  have h9 : c9 = s.heap[q] := by
    rw [hs] at e2
    exact e2
  have e5 : U.heap[q]? = some c9 := e1
  rw [e5, h9, Array.getElem?_eq_getElem hq]
/-- the words of a throw but the four that speak of the heap -/
def vx_no (w : Cond) : Bool := decide (w ≠ .isRef (.static Bundle.tN "UNASSIGNED_STACK" Bundle.steD)) && decide (w ≠ .isRef (.static Bundle.tN "SUPPRESSED_SENTINEL" Bundle.listD)) && decide (w ≠ .laysStatic Bundle.tN "UNASSIGNED_STACK" Bundle.steD) && decide (w ≠ .laysStatic Bundle.tN "SUPPRESSED_SENTINEL" Bundle.listD)
def vx_at0 (own : String) (ic : Nat) (X : String) (names : List String) : List Cond := (Bundle.ownAtoms0 own ic X names).filter vx_no
def vx_atS (own : String) (ic : Nat) (X : String) (names : List String) : List Cond := (Bundle.ownAtoms own ic X names).filter vx_no
/-- a word that the tables alone decide, or a good one -/
def vx_ot (w : Cond) : Bool := w.onTables || goodWord w
theorem vx_ot_at {args a' : Array Value} {s U : State} {w : Cond} (hW : s.WarmedH U.vm) (hvm : s.vm = U.vm) (hg : vx_ot w = true) (h : w.before args s = true) : w.before a' U = true := by
  simp only [vx_ot, Bool.or_eq_true] at hg
  rcases hg with hg | hg
  · exact va_tabs hg hvm h
  · exact word_at hW (good_of_word hg) h
/-- a list's words: the good ones out of the method's own list, the others by premises of their own -/
theorem vx_hat {args : Array Value} {s : State} {L B : List Cond} (h1 : ∀ w ∈ L.filter goodWord, w.before args s = true) (h2 : ∀ w ∈ L.filter (fun w => !goodWord w), w ∈ B) (h3 : ∀ w ∈ B, w.before args s = true) : ∀ w ∈ L, w.before args s = true := by
  intro w hw
  by_cases g : goodWord w = true
  · exact h1 w (List.mem_filter.mpr ⟨hw, g⟩)
  · refine h3 w (h2 w (List.mem_filter.mpr ⟨hw, ?_⟩))
    show (!goodWord w) = true
    cases hgw : goodWord w
    · rfl
    · exact absurd hgw g
theorem vx_c {args : Array Value} {s : State} {w : Cond} {B : List Cond} (h : w.before args s = true) (t : ∀ w ∈ B, w.before args s = true) : ∀ w' ∈ w :: B, w'.before args s = true := fun w' h' => (List.mem_cons.mp h').elim (fun e => by rw [e]; exact h) (t w')
theorem vx_n {args : Array Value} {s : State} : ∀ w ∈ ([] : List Cond), w.before args s = true := fun _ h => nomatch h
theorem vx_own {args : Array Value} {s : State} {L : List Cond} (h1 : ∀ w ∈ L.filter vx_no, w.before args s = true)
    (hU : (Cond.isRef (.static Bundle.tN "UNASSIGNED_STACK" Bundle.steD)).before args s = true) (hN : (Cond.isRef (.static Bundle.tN "SUPPRESSED_SENTINEL" Bundle.listD)).before args s = true)
    (lU : (Cond.laysStatic Bundle.tN "UNASSIGNED_STACK" Bundle.steD).before args s = true) (lN : (Cond.laysStatic Bundle.tN "SUPPRESSED_SENTINEL" Bundle.listD).before args s = true) : ∀ w ∈ L, w.before args s = true := by
  intro w hw
  by_cases e1 : w = .isRef (.static Bundle.tN "UNASSIGNED_STACK" Bundle.steD)
  · rw [e1]; exact hU
  · by_cases e2 : w = .isRef (.static Bundle.tN "SUPPRESSED_SENTINEL" Bundle.listD)
    · rw [e2]; exact hN
    · by_cases e3 : w = .laysStatic Bundle.tN "UNASSIGNED_STACK" Bundle.steD
      · rw [e3]; exact lU
      · by_cases e4 : w = .laysStatic Bundle.tN "SUPPRESSED_SENTINEL" Bundle.listD
        · rw [e4]; exact lN
        · exact h1 w (List.mem_filter.mpr ⟨hw, by unfold vx_no; rw [decide_eq_true e1, decide_eq_true e2, decide_eq_true e3, decide_eq_true e4]; rfl⟩)
/-- where a static field lies, its class's statics cell in H -/
def vx_L (C n d : String) (A : Nat → Prop) (U : State) (H : Heap) : Prop := ∃ (c : ClassId) (k : Class) (i : Nat) (f : Field) (a : Nat) (cell : Cell), U.vm.findClass C = some c ∧ U.fieldFound? C n d = some (c, k, i, f) ∧ f.isStatic = true ∧ k.statics = some a ∧ H[a]? = some cell ∧ cell.vm.isStatics = true ∧ cell.cls = c ∧ f.slot < cell.slots.size ∧ k.staticTypes[f.slot]? = some f.type ∧ ¬ A a
theorem vx_L.moved {C n d : String} {A : Nat → Prop} {u U : State} {H : Heap} (hvm : u.vm.Alike U.vm) (h : vx_L C n d A u H) : vx_L C n d A U H := by
  obtain ⟨c, k, i, f, a, cell, h1, h2, h3, h4, h5, h6, h7, h8, h9, h10⟩ := h
  obtain ⟨k', hi', he⟩ := State.fieldFound?_setVm hvm h2
  exact ⟨c, k', i, f, a, cell, by rw [hvm.findClass]; exact h1, hi', h3, by rw [he]; exact h4, h5, h6, h7, h8, by rw [he]; exact h9, h10⟩
theorem vx_L.kept {C n d : String} {A : Nat → Prop} {U : State} {H H1 : Heap} (h : vx_L C n d A U H) (hq : ∀ a : Nat, a < H.size → ¬ A a → H1[a]? = H[a]?) : vx_L C n d A U H1 := by
  obtain ⟨c, k, i, f, a, cell, h1, h2, h3, h4, h5, h6, h7, h8, h9, h10⟩ := h
  exact ⟨c, k, i, f, a, cell, h1, h2, h3, h4, by rw [hq a (Array.getElem?_eq_some_iff.mp h5).1 h10]; exact h5, h6, h7, h8, h9, h10⟩
theorem vx_L.narrow {C n d : String} {A B : Nat → Prop} {U : State} {H : Heap} (h : vx_L C n d A U H) (hAB : ∀ q, B q → A q) : vx_L C n d B U H := by
  obtain ⟨c, k, i, f, a, cell, h1, h2, h3, h4, h5, h6, h7, h8, h9, h10⟩ := h
  exact ⟨c, k, i, f, a, cell, h1, h2, h3, h4, h5, h6, h7, h8, h9, fun z => h10 (hAB _ z)⟩
theorem vx_L.word {C n d : String} {A : Nat → Prop} {s : State} {args : Array Value} (h : vx_L C n d A s s.heap) : (Cond.laysStatic C n d).before args s = true := by
  obtain ⟨c, k, i, f, a, cell, h1, h2, h3, h4, h5, h6, h7, h8, h9, -⟩ := h
  show (Cond.laysStatic C n d).holds args s none s [] = true
  exact Cond.laysStatic_of h1 h2 h3 h4 h5 h6 h7 h8 h9
/-- .. and what it holds: null or some reference -/
def vx_Zq (C n d : String) (A : Nat → Prop) (U : State) (H : Heap) : Prop := va_Zq C n d A U H ∧ vx_L C n d A U H
theorem vx_Zq.moved {C n d : String} {A : Nat → Prop} {u U : State} {H : Heap} (hvm : u.vm.Alike U.vm) (h : vx_Zq C n d A u H) : vx_Zq C n d A U H := ⟨va_Zq.moved hvm h.1, vx_L.moved hvm h.2⟩
theorem vx_Zq.kept {C n d : String} {A : Nat → Prop} {U : State} {H H1 : Heap} (h : vx_Zq C n d A U H) (hq : ∀ a : Nat, a < H.size → ¬ A a → H1[a]? = H[a]?) : vx_Zq C n d A U H1 := ⟨va_Zq.kept h.1 hq, vx_L.kept h.2 hq⟩
theorem vx_Zq.narrow {C n d : String} {A B : Nat → Prop} {U : State} {H : Heap} (h : vx_Zq C n d A U H) (hAB : ∀ q, B q → A q) : vx_Zq C n d B U H := ⟨va_Zq.narrow h.1 hAB, vx_L.narrow h.2 hAB⟩
theorem vx_Zqof {args : Array Value} {s : State} {C n d : String} {A : Nat → Prop} (hl : (Cond.laysStatic C n d).before args s = true) (hini : (Cond.initialized C).before args s = true) (h : (Cond.isRef (.static C n d)).before args s = true) (hA : ∀ a : Nat, a < s.heap.size → ¬ A a) : vx_Zq C n d A s s.heap := by
  refine ⟨va_Zqof hl hini h hA, ?_⟩
  obtain ⟨c, k, i, f, a, cell, h1, h2, h3, h4, h5, h6, h7, h8, h9⟩ := Cond.laysStatic_spec hl
  exact ⟨c, k, i, f, a, cell, h1, h2, h3, h4, h5, h6, h7, h8, h9, hA a (Array.getElem?_eq_some_iff.mp h5).1⟩
theorem vx_isRef {C n d : String} {v : Value} {A : Nat → Prop} {s : State} {args : Array Value} (h : va_Z C n d v A s s.heap) (hv : v.isRef = true) : (Cond.isRef (.static C n d)).before args s = true := by
  obtain ⟨cf, kf, fi, f, a, cell, h1, h2, h3, h4, h5, h6, h7, -⟩ := h
  have he : (Term.static C n d).eval args s none [] s = some v := by
    simp [Term.eval, State.fieldNamed?, h1, h2, h4, h5, h6, h7]
  simp only [Cond.before, Cond.holds, Cond.value, he]
  cases v <;> simp_all [Value.isRef]
theorem vx_isRefq {C n d : String} {A : Nat → Prop} {s : State} {args : Array Value} (h : va_Zq C n d A s s.heap) : (Cond.isRef (.static C n d)).before args s = true := by
  rcases h with h | ⟨t, h⟩
  · exact vx_isRef h rfl
  · exact vx_isRef h rfl
/-- the same frame, seen from here: as if the method were called anew in this heap -/
theorem vx_rebase {T : State} (X : Stand p l e R s m args below meth c T locs cells slots) {R' : Room} (hf : R'.frames ≤ R.frames) (hl : R'.locals ≤ R.locals) (hc : cells + R'.cells ≤ R.cells) (hs : slots + R'.slots ≤ R.slots) :
    Stand p l e R' ((T.setVm s.vm).setFrames (.invoking m args :: below)) m args below meth c T [] 0 0 := by
  have htop : (T.setVm s.vm).topJava?.isSome := X.here.top
  have hF : ((T.setVm s.vm).setFrames (.invoking m args :: below)).frames = .invoking m args :: below := State.frames_setFrames _ (State.cur_lt_of_top htop)
  obtain ⟨g₀, hg0⟩ := Option.isSome_iff_exists.mp htop
  obtain ⟨r, hr⟩ := State.topJava?_eq_some.mp hg0
  have hl9 : e.platform.stackLimits (T.setVm s.vm).me = e.platform.stackLimits s.me := X.limits
  have hb9 : (T.setVm s.vm).me.stackBytes = s.me.stackBytes := X.bytes
  refine ⟨X.admits, X.cas, X.clock, hF, ?_, X.hears, X.method, X.code, X.here, X.tail, X.warmed, ?_, ?_, ?_⟩
  · have h := X.room
    have hU : ((T.setVm s.vm).setFrames (.invoking m args :: below)).localsInUse = s.localsInUse := by
      rw [State.localsInUse_invoking hF (meth := meth) (c := c) X.method X.code, State.localsInUse_invoking X.frames X.method X.code]
    simp only [State.hasRoom, Bool.and_eq_true, decide_eq_true_eq] at h ⊢
    obtain ⟨⟨⟨⟨h1, h2, h3, h4, h5, h6⟩, h7⟩, h8⟩, h9⟩ := h
    rw [X.frames, List.length_cons] at h2 h3
    have q1 := X.heapSize
    have q2 := X.used
    simp only [hF, hU, List.length_cons, State.stackLimits_setFrames, State.stackBytes_setFrames, hl9, hb9]
    refine ⟨⟨⟨⟨by omega, by omega, by omega, by omega, by omega, h6⟩, ?_⟩, ?_⟩, X.book⟩
    · show T.heap.size + R'.cells ≤ e.platform.maxCells
      omega
    · show T.slotsUsed + R'.slots ≤ e.platform.maxSlots
      omega
  · rw [State.stackLimits_setFrames]; rfl
  · rw [State.stackBytes_setFrames]; rfl
  · refine ⟨?_, Nat.le_refl _, Nat.le_refl _, ?_, ?_, fun a c9 h9 => ⟨c9, h9, rfl, rfl, fun _ _ => rfl⟩⟩
    · obtain ⟨t, ht, -⟩ := State.frames_cons hr
      show T.setVm s.vm = { ((T.setVm s.vm).setFrames (.invoking m args :: below)).setFrames (T.setVm s.vm).frames with heap := T.heap, slotsUsed := T.slotsUsed }
      rw [State.setFrames_setFrames, State.setFrames_self ht]
      rfl
    · show T.slotsUsed = T.slotsUsed + ((T.heap.toList.drop T.heap.size).map (·.slots.size)).sum
      rw [List.drop_eq_nil_of_le (Nat.le_of_eq Array.length_toList)]
      rfl
    · show ((T.heap.toList.drop T.heap.size).map (·.slots.size)).sum ≤ 0
      rw [List.drop_eq_nil_of_le (Nat.le_of_eq Array.length_toList)]
      exact Nat.le_refl _
/-- 'throw new E()': new; dup; invokespecial; athrow -/
theorem vx_throw0 {cc : ByteArray} {pc : Nat} (hexec : p.tables.exec = Jvm.exec) (hb : c.code = cc) (hl : l.stackTraces = false) {own cls : String} {names : List String} {ik ic mc ms : Nat} {A : Nat → Prop}
    (hown : s.vm.findClass own = some m.cls) (hcls : Bundle.fit cls = true) (hnames : ∀ n ∈ names, Bundle.fit n = true)
    (hk : (Cond.classLink own ik cls).before args s = true) (hini : (Cond.initialized cls).before args s = true) (hat : ∀ w ∈ vx_at0 own ic cls names, w.before args s = true)
    (hgood : ∀ w ∈ Cond.classLink own ik cls :: Cond.initialized cls :: vx_at0 own ic cls names, vx_ot w = true)
    (hU : vx_Zq Bundle.tN "UNASSIGNED_STACK" Bundle.steD A s s.heap) (hN : vx_Zq Bundle.tN "SUPPRESSED_SENTINEL" Bundle.listD A s s.heap) (hS : va_S A s.heap H locs) (hsize : ls.size = c.maxLocals)
    (d0 : decode cc pc = .ok (.new ik, 3)) (d3 : decode cc (pc + 3) = .ok (.dup, 1)) (d4 : decode cc (pc + 4) = .ok (.invokespecial ic, 3)) (d7 : decode cc (pc + 7) = .ok (.athrow, 1))
    (hout : ∀ x ∈ c.exceptionTable.toList, covers x (pc + 7) = false)
    (hRframes : names.length + 3 < R.frames) (hRlocals : (rest.map fun v => v.category).sum + (13 * (names.length + 1) + 42) ≤ R.locals) (hRcells : cells + 1 ≤ R.cells) (hRslots : slots + 6 ≤ R.slots) (hlocks : meth.locks = false)
    (hx : ∀ t : State, s.vm.Alike t.vm → H.size ≤ t.heap.size → (∀ q : Nat, q < H.size → t.heap[q]? = H[q]?) → XC cls s t)
    (hf : ∀ z ∈ locs, free z.base) (hc : cells + 1 ≤ mc) (hs : slots + 6 ≤ ms) :
    W p l e R s m args below meth c H locs cells slots (vx_MQ below Qc XC args s mc ms free) (F0 m pc ls rest) := by
  intro T hT X
  have htr : e.platform.stackTraces = false := (show e.platform.stackTraces = l.stackTraces by rw [X.admits.platform]).trans hl
  have Y := vx_rebase X (R' := { frames := R.frames, locals := R.locals, cells := 1, slots := 6 }) (Nat.le_refl _) (Nat.le_refl _) hRcells hRslots
  obtain ⟨s', hA⟩ : ∃ z, z = (T.setVm s.vm).setFrames (.invoking m args :: below) := ⟨_, rfl⟩
  rw [← hA] at Y
  have hvm : s'.vm = s.vm := by rw [hA]; rfl
  have hhp : s'.heap = H := by rw [hA]; exact hT
  have hW0 : s.WarmedH s'.vm := by rw [hvm]; exact State.WarmedH.refl s
  have hat' : ∀ w ∈ vx_at0 own ic cls names, w.before args s' = true := fun w hw => vx_ot_at hW0 hvm.symm (hgood w (List.mem_cons_of_mem _ (List.mem_cons_of_mem _ hw))) (hat w hw)
  have hk' : (Cond.classLink own ik cls).before args s' = true := vx_ot_at hW0 hvm.symm (hgood _ List.mem_cons_self) hk
  have hini' : (Cond.initialized cls).before args s' = true := vx_ot_at hW0 hvm.symm (hgood _ (List.mem_cons_of_mem _ List.mem_cons_self)) hini
  have hU' : vx_Zq Bundle.tN "UNASSIGNED_STACK" Bundle.steD A s' s'.heap := by rw [hhp]; exact vx_Zq.moved hW0.alike (hU.kept hS.2.1)
  have hN' : vx_Zq Bundle.tN "SUPPRESSED_SENTINEL" Bundle.listD A s' s'.heap := by rw [hhp]; exact vx_Zq.moved hW0.alike (hN.kept hS.2.1)
  have h : ∀ w ∈ Bundle.ownAtoms0 own ic cls names, w.before args s' = true := vx_own hat' (vx_isRefq hU'.1) (vx_isRefq hN'.1) hU'.2.word hN'.2.word
  have hown' : s'.vm.findClass own = some m.cls := by rw [hvm]; exact hown
  have hins : (Cond.instantiable cls 6).before args s' = true := h _ (by simp [Bundle.ownAtoms0])
  obtain ⟨vm₁, cX, kX, hfX, hkX, -, -, X₁, st1⟩ := Y.newCold hexec (own := own) (C := cls) (index := ik) (n := 6) hown' hk' hins hini'
    (g := F0 m pc ls rest) rfl (by rw [hb]; exact d0) (Nat.le_refl _) (Nat.le_refl _)
  generalize hT1 : (T.setVm vm₁).pushCell { cls := cX, slots := kX.instanceTypes.map defaultValue, vm := .none } = T1 at X₁ st1
  have hcat : (Value.ref T.heap.size).category = 1 := rfl
  have hcellA : T1.heap[T.heap.size]? = some (freshCell cX kX) := by rw [← hT1]; exact State.heap_pushCell_size _ _
  have d3' : decode c.code (pc + 3) = .ok (.dup, 1) := by rw [hb]; exact d3
  obtain ⟨U, hsteps, hrun, hend, hW, hsame, ce, hce, hO⟩ := X₁.ctorThrow0 hexec htr (own := own) (cls := cls) (names := names) (ic := ic) hown' hcls hnames h (fun x hx => nomatch hx) hfX hkX hcellA (by rw [hhp, hT]; exact Nat.le_refl _)
    (g := { method := m, pc := pc + 4, locals := ls, stack := .ref T.heap.size :: .ref T.heap.size :: rest, locked := none }) rfl hsize rfl rfl (rest := rest) rfl
    (by rw [hb]; exact d4) (by rw [hb]; exact d7) hout hRframes (by simp only [List.map_cons, List.sum_cons, hcat]; omega) hlocks
  obtain ⟨f1, f2⟩ := vx_frame hsame
  rw [hhp] at f1 f2
  have hWs : s.WarmedH U.vm := State.WarmedH.trans hW0 hW
  have hcl : s.vm.findClass cls = some ce.cls := by
    have h9 := hO.cls
    rw [hvm] at h9
    exact h9
  have hall : s.sameButNew ({ U with vm := s.vm } : State) locs mc ms := by
    subst hA
    obtain ⟨e1, e2⟩ := hsame
    rw [State.setFrames_setFrames] at e1
    have h2 : (T.setVm s.vm).sameButNew ({ U with vm := s.vm } : State) [] (0 + 1) (0 + 6) := ⟨e1, e2⟩
    have h3 := X.same.trans h2
    rw [List.append_nil] at h3
    exact h3.mono hc hs
  refine ⟨U, ?_, .threw T.heap.size, hrun, hend, Or.inr ⟨T.heap.size, rfl, cls, ce, locs, hx U hWs.alike f1 (fun q hq => f2 q hq (fun z hz => nomatch hz)), hce, hO.vm, hcl, hWs, hall, hf⟩⟩
  refine st1 _ ?_
  show Steps p.tables e below (T1.setTop { method := m, pc := pc + 3, locals := ls, stack := .ref T.heap.size :: rest, locked := none }) _
  jvm_step X₁.here [X₁.here.top, hexec, d3', Value.category]
  exact hsteps
/-- 'throw new E("text")': new; dup; ldc; invokespecial; athrow -/
theorem vx_throwS {cc : ByteArray} {pc : Nat} (hexec : p.tables.exec = Jvm.exec) (hb : c.code = cc) (hl : l.stackTraces = false) {own cls text : String} {names : List String} {ik is ic mc ms sa : Nat} {A : Nat → Prop}
    (hown : s.vm.findClass own = some m.cls) (hcls : Bundle.fit cls = true) (hnames : ∀ n ∈ names, Bundle.fit n = true)
    (hk : (Cond.classLink own ik cls).before args s = true) (hini : (Cond.initialized cls).before args s = true) (hstr : vk_R own is text sa s) (hat : ∀ w ∈ vx_atS own ic cls names, w.before args s = true)
    (hgood : ∀ w ∈ Cond.classLink own ik cls :: Cond.initialized cls :: vx_atS own ic cls names, vx_ot w = true)
    (hU : vx_Zq Bundle.tN "UNASSIGNED_STACK" Bundle.steD A s s.heap) (hN : vx_Zq Bundle.tN "SUPPRESSED_SENTINEL" Bundle.listD A s s.heap) (hS : va_S A s.heap H locs) (hsize : ls.size = c.maxLocals)
    (d0 : decode cc pc = .ok (.new ik, 3)) (d3 : decode cc (pc + 3) = .ok (.dup, 1)) (d4 : decode cc (pc + 4) = .ok (.ldc is, 2)) (d6 : decode cc (pc + 6) = .ok (.invokespecial ic, 3)) (d9 : decode cc (pc + 9) = .ok (.athrow, 1))
    (hout : ∀ x ∈ c.exceptionTable.toList, covers x (pc + 9) = false)
    (hRframes : names.length + 3 < R.frames) (hRlocals : (rest.map fun v => v.category).sum + (13 * (names.length + 1) + 43) ≤ R.locals) (hRcells : cells + 1 ≤ R.cells) (hRslots : slots + 6 ≤ R.slots) (hlocks : meth.locks = false)
    (hx : ∀ t : State, s.vm.Alike t.vm → H.size ≤ t.heap.size → (∀ q : Nat, q < H.size → t.heap[q]? = H[q]?) → XC cls s t)
    (hf : ∀ z ∈ locs, free z.base) (hc : cells + 1 ≤ mc) (hs : slots + 6 ≤ ms) :
    W p l e R s m args below meth c H locs cells slots (vx_MQ below Qc XC args s mc ms free) (F0 m pc ls rest) := by
  intro T hT X
  have htr : e.platform.stackTraces = false := (show e.platform.stackTraces = l.stackTraces by rw [X.admits.platform]).trans hl
  have Y := vx_rebase X (R' := { frames := R.frames, locals := R.locals, cells := 1, slots := 6 }) (Nat.le_refl _) (Nat.le_refl _) hRcells hRslots
  obtain ⟨s', hA⟩ : ∃ z, z = (T.setVm s.vm).setFrames (.invoking m args :: below) := ⟨_, rfl⟩
  rw [← hA] at Y
  have hvm : s'.vm = s.vm := by rw [hA]; rfl
  have hhp : s'.heap = H := by rw [hA]; exact hT
  have hW0 : s.WarmedH s'.vm := by rw [hvm]; exact State.WarmedH.refl s
  have hat' : ∀ w ∈ vx_atS own ic cls names, w.before args s' = true := fun w hw => vx_ot_at hW0 hvm.symm (hgood w (List.mem_cons_of_mem _ (List.mem_cons_of_mem _ hw))) (hat w hw)
  have hk' : (Cond.classLink own ik cls).before args s' = true := vx_ot_at hW0 hvm.symm (hgood _ List.mem_cons_self) hk
  have hini' : (Cond.initialized cls).before args s' = true := vx_ot_at hW0 hvm.symm (hgood _ (List.mem_cons_of_mem _ List.mem_cons_self)) hini
  have hU' : vx_Zq Bundle.tN "UNASSIGNED_STACK" Bundle.steD A s' s'.heap := by rw [hhp]; exact vx_Zq.moved hW0.alike (hU.kept hS.2.1)
  have hN' : vx_Zq Bundle.tN "SUPPRESSED_SENTINEL" Bundle.listD A s' s'.heap := by rw [hhp]; exact vx_Zq.moved hW0.alike (hN.kept hS.2.1)
  have h : ∀ w ∈ Bundle.ownAtoms own ic cls names, w.before args s' = true := vx_own hat' (vx_isRefq hU'.1) (vx_isRefq hN'.1) hU'.2.word hN'.2.word
  have hown' : s'.vm.findClass own = some m.cls := by rw [hvm]; exact hown
  have hins : (Cond.instantiable cls 6).before args s' = true := h _ (by simp [Bundle.ownAtoms])
  obtain ⟨vm₁, cX, kX, hfX, hkX, -, -, X₁, st1⟩ := Y.newCold hexec (own := own) (C := cls) (index := ik) (n := 6) hown' hk' hins hini'
    (g := F0 m pc ls rest) rfl (by rw [hb]; exact d0) (Nat.le_refl _) (Nat.le_refl _)
  generalize hT1 : (T.setVm vm₁).pushCell { cls := cX, slots := kX.instanceTypes.map defaultValue, vm := .none } = T1 at X₁ st1
  have hcat : (Value.ref T.heap.size).category = 1 := rfl
  have hcellA : T1.heap[T.heap.size]? = some (freshCell cX kX) := by rw [← hT1]; exact State.heap_pushCell_size _ _
  have d3' : decode c.code (pc + 3) = .ok (.dup, 1) := by rw [hb]; exact d3
  have d4' : decode c.code (pc + 4) = .ok (.ldc is, 2) := by rw [hb]; exact d4
  have hstr' : vk_R own is text sa s' := vk_R.warm hW0 hstr
  obtain ⟨U, hsteps, hrun, hend, hW, hsame, ce, hce, hO⟩ := X₁.ctorThrowS hexec htr (own := own) (cls := cls) (names := names) (ic := ic) hown' hcls hnames h (fun x hx => nomatch hx) hfX hkX hcellA (by rw [hhp, hT]; exact Nat.le_refl _) (msg := .ref sa) rfl
    (g := { method := m, pc := pc + 6, locals := ls, stack := .ref sa :: .ref T.heap.size :: .ref T.heap.size :: rest, locked := none }) rfl hsize rfl rfl (rest := rest) rfl
    (by rw [hb]; exact d6) (by rw [hb]; exact d9) hout hRframes (by simp only [List.map_cons, List.sum_cons, hcat]; omega) hlocks
  obtain ⟨f1, f2⟩ := vx_frame hsame
  rw [hhp] at f1 f2
  have hWs : s.WarmedH U.vm := State.WarmedH.trans hW0 hW
  have hcl : s.vm.findClass cls = some ce.cls := by
    have h9 := hO.cls
    rw [hvm] at h9
    exact h9
  have hall : s.sameButNew ({ U with vm := s.vm } : State) locs mc ms := by
    subst hA
    obtain ⟨e1, e2⟩ := hsame
    rw [State.setFrames_setFrames] at e1
    have h2 : (T.setVm s.vm).sameButNew ({ U with vm := s.vm } : State) [] (0 + 1) (0 + 6) := ⟨e1, e2⟩
    have h3 := X.same.trans h2
    rw [List.append_nil] at h3
    exact h3.mono hc hs
  refine ⟨U, ?_, .threw T.heap.size, hrun, hend, Or.inr ⟨T.heap.size, rfl, cls, ce, locs, hx U hWs.alike f1 (fun q hq => f2 q hq (fun z hz => nomatch hz)), hce, hO.vm, hcl, hWs, hall, hf⟩⟩
  refine st1 _ ?_
  show Steps p.tables e below (T1.setTop { method := m, pc := pc + 3, locals := ls, stack := .ref T.heap.size :: rest, locked := none }) _
  jvm_step X₁.here [X₁.here.top, hexec, d3', Value.category]
  exact X₁.ldcString hexec (own := own) (text := text) (index := is) (a := sa) hown' hstr'.1 hstr'.2
    (g := { method := m, pc := pc + 4, locals := ls, stack := .ref T.heap.size :: .ref T.heap.size :: rest, locked := none }) rfl d4' _ hsteps
/-- 'throw new E("text")', the text by a wide index -/
theorem vx_throwSW {cc : ByteArray} {pc : Nat} (hexec : p.tables.exec = Jvm.exec) (hb : c.code = cc) (hl : l.stackTraces = false) {own cls text : String} {names : List String} {ik is ic mc ms sa : Nat} {A : Nat → Prop}
    (hown : s.vm.findClass own = some m.cls) (hcls : Bundle.fit cls = true) (hnames : ∀ n ∈ names, Bundle.fit n = true)
    (hk : (Cond.classLink own ik cls).before args s = true) (hini : (Cond.initialized cls).before args s = true) (hstr : vk_R own is text sa s) (hat : ∀ w ∈ vx_atS own ic cls names, w.before args s = true)
    (hgood : ∀ w ∈ Cond.classLink own ik cls :: Cond.initialized cls :: vx_atS own ic cls names, vx_ot w = true)
    (hU : vx_Zq Bundle.tN "UNASSIGNED_STACK" Bundle.steD A s s.heap) (hN : vx_Zq Bundle.tN "SUPPRESSED_SENTINEL" Bundle.listD A s s.heap) (hS : va_S A s.heap H locs) (hsize : ls.size = c.maxLocals)
    (d0 : decode cc pc = .ok (.new ik, 3)) (d3 : decode cc (pc + 3) = .ok (.dup, 1)) (d4 : decode cc (pc + 4) = .ok (.ldc_w is, 3)) (d7 : decode cc (pc + 7) = .ok (.invokespecial ic, 3)) (d10 : decode cc (pc + 10) = .ok (.athrow, 1))
    (hout : ∀ x ∈ c.exceptionTable.toList, covers x (pc + 10) = false)
    (hRframes : names.length + 3 < R.frames) (hRlocals : (rest.map fun v => v.category).sum + (13 * (names.length + 1) + 43) ≤ R.locals) (hRcells : cells + 1 ≤ R.cells) (hRslots : slots + 6 ≤ R.slots) (hlocks : meth.locks = false)
    (hx : ∀ t : State, s.vm.Alike t.vm → H.size ≤ t.heap.size → (∀ q : Nat, q < H.size → t.heap[q]? = H[q]?) → XC cls s t)
    (hf : ∀ z ∈ locs, free z.base) (hc : cells + 1 ≤ mc) (hs : slots + 6 ≤ ms) :
    W p l e R s m args below meth c H locs cells slots (vx_MQ below Qc XC args s mc ms free) (F0 m pc ls rest) := by
  intro T hT X
  have htr : e.platform.stackTraces = false := (show e.platform.stackTraces = l.stackTraces by rw [X.admits.platform]).trans hl
  have Y := vx_rebase X (R' := { frames := R.frames, locals := R.locals, cells := 1, slots := 6 }) (Nat.le_refl _) (Nat.le_refl _) hRcells hRslots
  obtain ⟨s', hA⟩ : ∃ z, z = (T.setVm s.vm).setFrames (.invoking m args :: below) := ⟨_, rfl⟩
  rw [← hA] at Y
  have hvm : s'.vm = s.vm := by rw [hA]; rfl
  have hhp : s'.heap = H := by rw [hA]; exact hT
  have hW0 : s.WarmedH s'.vm := by rw [hvm]; exact State.WarmedH.refl s
  have hat' : ∀ w ∈ vx_atS own ic cls names, w.before args s' = true := fun w hw => vx_ot_at hW0 hvm.symm (hgood w (List.mem_cons_of_mem _ (List.mem_cons_of_mem _ hw))) (hat w hw)
  have hk' : (Cond.classLink own ik cls).before args s' = true := vx_ot_at hW0 hvm.symm (hgood _ List.mem_cons_self) hk
  have hini' : (Cond.initialized cls).before args s' = true := vx_ot_at hW0 hvm.symm (hgood _ (List.mem_cons_of_mem _ List.mem_cons_self)) hini
  have hU' : vx_Zq Bundle.tN "UNASSIGNED_STACK" Bundle.steD A s' s'.heap := by rw [hhp]; exact vx_Zq.moved hW0.alike (hU.kept hS.2.1)
  have hN' : vx_Zq Bundle.tN "SUPPRESSED_SENTINEL" Bundle.listD A s' s'.heap := by rw [hhp]; exact vx_Zq.moved hW0.alike (hN.kept hS.2.1)
  have h : ∀ w ∈ Bundle.ownAtoms own ic cls names, w.before args s' = true := vx_own hat' (vx_isRefq hU'.1) (vx_isRefq hN'.1) hU'.2.word hN'.2.word
  have hown' : s'.vm.findClass own = some m.cls := by rw [hvm]; exact hown
  have hins : (Cond.instantiable cls 6).before args s' = true := h _ (by simp [Bundle.ownAtoms])
  obtain ⟨vm₁, cX, kX, hfX, hkX, -, -, X₁, st1⟩ := Y.newCold hexec (own := own) (C := cls) (index := ik) (n := 6) hown' hk' hins hini'
    (g := F0 m pc ls rest) rfl (by rw [hb]; exact d0) (Nat.le_refl _) (Nat.le_refl _)
  generalize hT1 : (T.setVm vm₁).pushCell { cls := cX, slots := kX.instanceTypes.map defaultValue, vm := .none } = T1 at X₁ st1
  have hcat : (Value.ref T.heap.size).category = 1 := rfl
  have hcellA : T1.heap[T.heap.size]? = some (freshCell cX kX) := by rw [← hT1]; exact State.heap_pushCell_size _ _
  have d3' : decode c.code (pc + 3) = .ok (.dup, 1) := by rw [hb]; exact d3
  have d4' : decode c.code (pc + 4) = .ok (.ldc_w is, 3) := by rw [hb]; exact d4
  have hstr' : vk_R own is text sa s' := vk_R.warm hW0 hstr
  obtain ⟨U, hsteps, hrun, hend, hW, hsame, ce, hce, hO⟩ := X₁.ctorThrowS hexec htr (own := own) (cls := cls) (names := names) (ic := ic) hown' hcls hnames h (fun x hx => nomatch hx) hfX hkX hcellA (by rw [hhp, hT]; exact Nat.le_refl _) (msg := .ref sa) rfl
    (g := { method := m, pc := pc + 7, locals := ls, stack := .ref sa :: .ref T.heap.size :: .ref T.heap.size :: rest, locked := none }) rfl hsize rfl rfl (rest := rest) rfl
    (by rw [hb]; exact d7) (by rw [hb]; exact d10) hout hRframes (by simp only [List.map_cons, List.sum_cons, hcat]; omega) hlocks
  obtain ⟨f1, f2⟩ := vx_frame hsame
  rw [hhp] at f1 f2
  have hWs : s.WarmedH U.vm := State.WarmedH.trans hW0 hW
  have hcl : s.vm.findClass cls = some ce.cls := by
    have h9 := hO.cls
    rw [hvm] at h9
    exact h9
  have hall : s.sameButNew ({ U with vm := s.vm } : State) locs mc ms := by
    subst hA
    obtain ⟨e1, e2⟩ := hsame
    rw [State.setFrames_setFrames] at e1
    have h2 : (T.setVm s.vm).sameButNew ({ U with vm := s.vm } : State) [] (0 + 1) (0 + 6) := ⟨e1, e2⟩
    have h3 := X.same.trans h2
    rw [List.append_nil] at h3
    exact h3.mono hc hs
  refine ⟨U, ?_, .threw T.heap.size, hrun, hend, Or.inr ⟨T.heap.size, rfl, cls, ce, locs, hx U hWs.alike f1 (fun q hq => f2 q hq (fun z hz => nomatch hz)), hce, hO.vm, hcl, hWs, hall, hf⟩⟩
  refine st1 _ ?_
  show Steps p.tables e below (T1.setTop { method := m, pc := pc + 3, locals := ls, stack := .ref T.heap.size :: rest, locked := none }) _
  jvm_step X₁.here [X₁.here.top, hexec, d3', Value.category]
  exact X₁.ldcStringW hexec (own := own) (text := text) (index := is) (a := sa) hown' hstr'.1 hstr'.2
    (g := { method := m, pc := pc + 4, locals := ls, stack := .ref T.heap.size :: .ref T.heap.size :: rest, locked := none }) rfl d4' _ hsteps
end Ends
section Bodies
variable {l : Launch}
theorem vx_ofW {y : MethodName} {ws ws' : List Cond} {rm : Room} {Pc : Array Value → State → Prop} {Qc : Array Value → State → Outcome → State → Prop} {XC : String → State → State → Prop} {mc ms : Nat} {free : Addr → Prop} {cc : ByteArray} {maxL : Nat} {ret : Option FieldType}
    (hy : plainName y.cls = true) (hw : ws = Cond.code y cc maxL ret :: ws')
    (body : ∀ p e s m args below meth c s₁, BodyLoose p l y (headSpec ws rm) cc maxL ret e s m args below meth c s₁ → c.maxLocals = maxL → (∀ x ∈ c.exceptionTable.toList, False) → Pc args s →
      W p l e (headSpec ws rm).room s m args below meth c s.heap [] 0 0 (vx_MQ below Qc XC args s mc ms free) (entryFrame m args maxL)) : vx_Met l y ws rm Pc Qc XC mc ms free := by
  refine MetFree.of_bodyS (code := cc) (maxLocals := maxL) (ret := ret) hy ?_ ?_
  · intro args s m h hn
    obtain ⟨meth, c, h1, h2, h3, h4, h5, h6, -, -⟩ := Cond.code_spec hn (atoms_spec (ws := ws) h _ (by rw [hw]; exact List.mem_cons_self))
    exact ⟨meth, c, h1, h2, h3, h4, h5, h6⟩
  · intro p e s m args below meth c s₁ B hml hP _
    have hh0 : s₁.heap = s.heap := by rw [B.state]; rfl
    have ht : ∀ x ∈ c.exceptionTable.toList, False := by
      obtain ⟨meth9, c9, h1, h2, -, -, -, -, h7, -⟩ := Cond.code_spec B.named (atoms_spec (ws := ws) B.pre _ (by rw [hw]; exact List.mem_cons_self))
      cases Option.some.inj (h1.symm.trans B.method)
      cases Option.some.inj (h2.symm.trans (Stand.of_body B).code)
      intro x hx
      rw [Array.isEmpty_iff.mp h7] at hx
      cases hx
    obtain ⟨t, a1, o, b1, b2, b3⟩ := body p e s m args below meth c s₁ B hml ht hP s₁ hh0 (Stand.of_body B)
    exact ⟨t, o, a1, b1, b2, b3⟩
/-- the table of a body with handlers -/
theorem vx_table {p : Program} {x y : MethodName} {S : Spec} {cc bytes : ByteArray} {maxL maxL' : Nat} {ret ret' : Option FieldType} {e : Env} {s s₁ : State} {m : MethodId} {args : Array Value} {below : List Frame} {meth : Method} {c : Code} {hh : List (Nat × Nat × Nat × Nat)}
    (B : BodyLoose p l y S cc maxL ret e s m args below meth c s₁) (h : (Cond.codeWith y bytes maxL' ret' hh).before args s = true) : c.exceptionTable.toList = tableOf hh := by
  obtain ⟨m9, meth9, c9, hn9, h1, h2, -, -, h6, -⟩ := Cond.codeWith_spec h
  cases Option.some.inj (hn9.symm.trans B.named)
  cases Option.some.inj (h1.symm.trans B.method)
  cases Option.some.inj (h2.symm.trans (Stand.of_body B).code)
  rw [← h6, table_eq]
end Bodies
end VXA
/-! ===== END ===== -/
/-! ===== BEGIN a static call of a method with an exception table ===== -/
section VXS
variable {p : Program} {l : Launch} {e : Env} {R : Room} {s : State} {m : MethodId} {args : Array Value} {below : List Frame} {meth : Method} {c : Code} {T : State} {H : Heap} {locs : List Loc} {cells slots : Nat}
abbrev vx_CSW (R : Room) (s : State) (args : Array Value) (own : String) (index : Nat) (y : MethodName) (bytes : ByteArray) (maxL : Nat) (ret : Option FieldType) (hh : List (Nat × Nat × Nat × Nat)) (ws : List Cond) (rm : Room) (mc ms n : Nat) : Prop :=
  (rm.cells = mc ∧ rm.slots = ms ∧ rm.frames + 1 ≤ R.frames ∧ 8 + (maxL + 11) + rm.locals ≤ R.locals ∧ (∀ w ∈ ws, ∀ (a' : Array Value) (U : State), s.WarmedH U.vm → w.before a' U = true) ∧ Cond.codeWith y bytes maxL ret hh ∈ ws) ∧
  (Cond.codeWith y bytes maxL ret hh).before args s = true ∧ (Cond.initialized y.cls).before args s = true ∧ (y.cls ≠ "java/lang/invoke/MethodHandle" ∧ y.cls ≠ "java/lang/invoke/VarHandle") ∧
  (∀ sig, parseMethodDescriptor y.desc = some sig → n = sig.parameters.length) ∧ (Cond.methodLink own index y).before args s = true ∧ (Cond.static y).before args s = true
theorem vx_cwSW {own : String} {index maxL mc ms : Nat} {y : MethodName} {bytes : ByteArray} {ret : Option FieldType} {hh : List (Nat × Nat × Nat × Nat)} {Ts ws ws' : List Cond} {rm : Room} (n : Nat) (ht : ∀ w ∈ Ts, w.before args s = true) (hT : GoodIn Ts (va_wsS own index y ws)) (hw : ws = Cond.codeWith y bytes maxL ret hh :: ws') (hrc : rm.cells = mc) (hrs : rm.slots = ms)
    (hd : y.cls ≠ "java/lang/invoke/MethodHandle" ∧ y.cls ≠ "java/lang/invoke/VarHandle" ∧ (parseMethodDescriptor y.desc).map (fun d => d.parameters.length) = some n) (hR : rm.frames + 1 ≤ R.frames ∧ 8 + (maxL + 11) + rm.locals ≤ R.locals) :
    vx_CSW R s args own index y bytes maxL ret hh ws rm mc ms n := by
  have ok : ∀ w ∈ va_wsS own index y ws, w.before args s = true := fun w h => ht w (hT w h).1
  have hG : GoodIn Ts ws := fun w h => hT w (by unfold va_wsS; exact List.mem_append_right _ h)
  have hc : Cond.codeWith y bytes maxL ret hh ∈ ws := by rw [hw]; exact List.mem_cons_self
  refine ⟨⟨hrc, hrs, hR.1, hR.2, pay_in ht hG, hc⟩, ht _ (hG _ hc).1, ok _ (by simp [va_wsS]), ⟨hd.1, hd.2.1⟩, fun sig h => ?_, ok _ (by simp [va_wsS]), ok _ (by simp [va_wsS])⟩
  have h2 := hd.2.2
  rw [h] at h2
  exact (Option.some.inj h2).symm
theorem vx_callSW (X : Stand p l e R s m args below meth c T locs cells slots) (hexec : p.tables.exec = Jvm.exec) {own : String} {index : Nat} {y : MethodName} {bytes : ByteArray} {maxL : Nat} {ret : Option FieldType} {hh : List (Nat × Nat × Nat × Nat)}
    (hown : s.vm.findClass own = some m.cls) (hlink : (Cond.methodLink own index y).before args s = true) (hstat : (Cond.static y).before args s = true) (hinit : (Cond.initialized y.cls).before args s = true)
    (hcode : (Cond.codeWith y bytes maxL ret hh).before args s = true) (hy : y.cls ≠ "java/lang/invoke/MethodHandle" ∧ y.cls ≠ "java/lang/invoke/VarHandle")
    {W9 : Nat} {Pre : Pt → Array Value → Prop} {Post : Pt → Array Value → Option Value → Pt → Prop} (hK : Back l R p e below s args y 3 W9 Pre Post)
    {g : JFrame} (hg : g.method = m) (hsize : g.locals.size = c.maxLocals) {argsL rest : List Value} (hlen : ∀ sig, parseMethodDescriptor y.desc = some sig → argsL.length = sig.parameters.length)
    (hstack : g.stack = argsL.reverse ++ rest) (hW : 2 * g.monitorRoom + (rest.map fun v => v.category).sum ≤ W9) (hdg : decode c.code g.pc = .ok (.invokestatic index, 3))
    (hpre : ∀ vm₁, s.WarmedH vm₁ → Pre ⟨T.setVm vm₁, locs, cells, slots⟩ argsL.toArray) :
    ∃ (v : Option Value) (vm₁ : Vm) (B : Pt), s.WarmedH vm₁ ∧ Stand p l e R s m args below meth c B.U B.locs B.cells B.slots ∧ Post ⟨T.setVm vm₁, locs, cells, slots⟩ argsL.toArray v B ∧
      ∀ target, Steps p.tables e below (B.U.setTop { g with pc := g.pc + 3, stack := v.toList ++ rest }) target → Steps p.tables e below (T.setTop g) target := by
  obtain ⟨mk, methM, cM, hnamed, hmethM, -, -, -, -, -, -, hsigM⟩ := Cond.codeWith_spec hcode
  have hstatic : methM.isStatic = true := Cond.static_spec hnamed hmethM hstat
  obtain ⟨kP, hkP, -⟩ := className_of_methodNamed hnamed
  have hinitP : kP.init = .initialized := Cond.initialized_spec (findClass_of_methodNamed hnamed) hkP hinit
  obtain ⟨vm₁, X₁, hstep₁⟩ := X.invokestatic hexec hown hlink hnamed hmethM hstatic hkP hinitP hy (g := g) hg (argsL := argsL) (rest := rest) (hlen _ hsigM) hstack hdg
  obtain ⟨v, B, X', hpost, hsteps⟩ := hK m meth c ⟨T.setVm vm₁, locs, cells, slots⟩ { g with stack := rest } (.invokestatic index) mk argsL.toArray X₁ hg hsize hdg hW (X₁.named hnamed) (hpre vm₁ X₁.warmed)
  exact ⟨v, vm₁, B, X₁.warmed, X', hpost, fun target h => hstep₁ _ fun acts => by rw [doInvoke_state]; exact hsteps.trans h⟩
theorem vx_runSW {y : MethodName} {bytes cc : ByteArray} {maxL nL mc ms n index : Nat} {ret : Option FieldType} {hh : List (Nat × Nat × Nat × Nat)} {ws : List Cond} {rm : Room} {Pc : Array Value → State → Prop} {Qc : Array Value → State → Outcome → State → Prop} {free : Addr → Prop} {Ts : List Cond} {own : String} {As rest : List Value} {g : JFrame}
    (S : CallFix p m c cc nL s args Ts own) (hM : Met l y ws rm Pc Qc mc ms free) (cw : vx_CSW R s args own index y bytes maxL ret hh ws rm mc ms n) (hp : PreS s H Pc As)
    (hg : g.method = m) (hn : As.length = n) (hsize : g.locals.size = nL) (hstack : g.stack = As.reverse ++ rest) (hW : 2 * g.monitorRoom + (rest.map fun v => v.category).sum ≤ 8) (hdg : decode cc g.pc = .ok (.invokestatic index, 3)) (hf : cells + mc ≤ R.cells ∧ slots + ms ≤ R.slots) :
    va_Run p l e R s m args below meth c H locs cells slots mc ms g rest (Qc As.toArray) (free) := by
  obtain ⟨⟨hrc, hrs, hfr, hlo, hws, hcw⟩, hcode, hini, hy, hlen, hl, hstt⟩ := cw
  have hK : Back l R p e below s args y 3 8 (PreOf R mc ms Pc) (PostOf Qc mc ms free) := va_backW (hh := hh) (bytes := bytes) (maxL := maxL) (ret := ret) hM hp.1 hrc hrs hfr hlo hws hcw (fun a' U hW => word_at hW (Or.inl (by first | rfl | simp [Cond.onTables, Cond.keeps, Cond.steady])) hini)
  obtain ⟨hx, hb, hml, ho, -⟩ := S
  intro T hT X
  obtain ⟨v, vm₁, ⟨U', l2, c2, s2⟩, hW₁, X', ⟨g', mk, t, L, e1, e2, hq, h1, hL, h2, h3⟩, st⟩ := vx_callSW X hx (hh := hh) (bytes := bytes) (maxL := maxL) (ret := ret) ho hl hstt hini hcode hy hK hg (hsize.trans hml.symm) (argsL := As) (rest := rest) (fun sig h => hn.trans (hlen sig h)) hstack hW (by rw [hb]; exact hdg)
    (fun vm₁ hW₁ => ⟨hf.1, hf.2, hp.2 (T.setVm vm₁) hT hW₁⟩)
  dsimp only [Pt.U, Pt.locs, Pt.cells, Pt.slots] at X' e1 e2 h1 h2 h3 st
  subst h1; subst h2; subst h3
  exact ⟨v, (T.setVm vm₁).calling g' mk As.toArray, t, U', L, hT, X', hL, e1, e2, hq, st⟩
/-- not caught here, past rows that name other classes: it goes on to the caller -/
theorem vx_outP {p : Program} {l : Launch} {e : Env} {R : Room} {s : State} {m : MethodId} {args : Array Value} {below : List Frame} {meth : Method} {c : Code} {H : Heap} {locs : List Loc} {cells slots : Nat} {free : Addr → Prop} {ls : Array Slot} {rest : List Value} {Qc : Array Value → State → Outcome → State → Prop} {XC : String → State → State → Prop}
    {pc : Nat} {own E : String} {ce : Cell} {q : Addr} {mc ms : Nat} (hown : s.vm.findClass own = some m.cls) (hlocks : meth.locks = false)
    (hpass : ∀ z ∈ c.exceptionTable.toList, covers z pc = false ∨ (z.catchType ≠ 0 ∧ ∃ nm : String, (Cond.classLink own z.catchType nm).before args s = true ∧ va_Nc E nm s)) (hcell : H[q]? = some ce) (hv : ce.vm = .none) (hcl : s.vm.findClass E = some ce.cls)
    (hx : ∀ t : State, t.heap = H → s.vm.Alike t.vm → XC E s t) (hf : ∀ z ∈ locs, free z.base) (hc : cells ≤ mc) (hs : slots ≤ ms) :
    vx_W p l e R s m args below meth c H locs cells slots (vx_MQ below Qc XC args s mc ms free) (F0 m pc ls rest) q := by
  intro T hT X
  have hpl : e.platform.magicAccessors = ({} : Platform).magicAccessors := by rw [X.admits.platform]
  obtain ⟨vm', hW', X', st⟩ := X.outThrough hlocks q (g := F0 m pc ls rest) rfl rfl rfl (cell := ce) (by rw [hT]; exact hcell) (by rw [hv]; rfl)
    (by obtain ⟨k9, h9, -⟩ := Vm.findClass_spec hcl; exact ⟨k9, h9⟩) (fun z hz => by
      rcases hpass z hz with h | ⟨hz0, nm, hl1, hn1⟩
      · exact Or.inl h
      · obtain ⟨c6, hc6, hcl6⟩ := Cond.classLink_spec hown hl1 e.platform hpl
        obtain ⟨a8, b8, h1, h2, h3⟩ := hn1
        cases Option.some.inj (h1.symm.trans hcl)
        cases Option.some.inj (h2.symm.trans hc6)
        exact Or.inr ⟨hz0, _, hcl6, h3⟩)
  obtain ⟨g₀, hfr⟩ := X'.frames_eq
  have hcell9 : ((T.setVm vm').setFrames (.throwing q :: below)).heap[q]? = some ce := by
    show T.heap[q]? = some ce
    rw [hT]; exact hcell
  have hend : Ended ((T.setVm vm').setFrames (.throwing q :: below)) below (.threw q) := State.frames_setFrames _ (State.cur_lt_of_frames hfr)
  refine ⟨(T.setVm vm').setFrames (.throwing q :: below), ?_, .threw q, X'.here.running, hend, Or.inr ⟨q, rfl, E, ce, locs, hx _ hT (X'.ends _).1.alike, hcell9, hv, hcl, (X'.ends _).1, (X'.ends _).2.mono hc hs, hf⟩⟩
  rw [X.pushThrowing_eq]
  exact st
/-- a thing of a world lies in the heap -/
theorem vx_lt {D : va_G} {cl : List vw_C} {ws : va_W} {H1 : Heap} (h : va_P D cl ws H1) {k : Nat} {q : Nat × va_E} (hk : ws[k]? = some q) : q.1 < H1.size := (h k q hk).lt
end VXS
/-! ===== END ===== -/
/-! ===== BEGIN methods with a table of their own: called by a name, returning or throwing ===== -/
section VXH
/-! vx_backW, vx_callVX, vx_callSX, vx_callVW, vx_runVW, vx_runVX, vx_runSX, vx_ofWH follow the same proofs as their sisters above (Free/Laws.lean, Shelf42/LK1.lean); vx_outP calls Shelf42/NT130.lean (outThrough). -/
section
variable {l : Launch} {R : Room} {p : Program} {e : Env} {below : List Frame} {s : State} {sargs : Array Value} {y : MethodName} {len W9 : Nat}
theorem vx_backW {ws : List Cond} {rm : Room} {Pc : Array Value → State → Prop} {Qc : Array Value → State → Outcome → State → Prop} {XC : String → State → State → Prop} {mc ms : Nat} {free : Addr → Prop} {bytes : ByteArray} {maxL : Nat} {ret : Option FieldType} {hh : List (Nat × Nat × Nat × Nat)}
    (hM : vx_Met l y ws rm Pc Qc XC mc ms free) (hblind : FrameBlind Pc) (hrc : rm.cells = mc) (hrs : rm.slots = ms)
    (hframes : rm.frames + 1 ≤ R.frames) (hlocals : W9 + (maxL + 11) + rm.locals ≤ R.locals)
    (hws : ∀ w ∈ ws, ∀ a' U, s.WarmedH U.vm → w.before a' U = true) (hcode : Cond.codeWith y bytes maxL ret hh ∈ ws) (hinit : ∀ a' U, s.WarmedH U.vm → (Cond.initialized y.cls).before a' U = true) :
    vx_Back l R p e below s sargs y len W9 (PreOf R mc ms Pc) (PostOf Qc mc ms free) (vx_Post XC mc ms free) := by
  intro m meth c A g ig mk a X hg hsize hdg hW hn hp
  have h1 : (headSpec ws rm).pre.before a A.U = true := atoms_intro fun w hw => hws w hw _ _ X.warmed
  have h2 : (Cond.codeWith y bytes maxL ret hh).before a A.U = true := hws _ hcode _ _ X.warmed
  have h3 : (Cond.initialized y.cls).before a A.U = true := hinit _ _ X.warmed
  have h4 : A.cells + (headSpec ws rm).room.cells ≤ R.cells := by rw [show (headSpec ws rm).room.cells = mc from hrc]; exact hp.1
  have h5 : A.slots + (headSpec ws rm).room.slots ≤ R.slots := by rw [show (headSpec ws rm).room.slots = ms from hrs]; exact hp.2.1
  have hPc : Pc a (A.U.calling g mk a) := hblind _ _ _ _ hp.2.2
  obtain ⟨U, Ls, c0, s0⟩ := A
  dsimp only [Pt.U, Pt.locs, Pt.cells, Pt.slots] at h1 h2 h3 h4 h5 X hn hPc ⊢
  obtain ⟨m9, methY, cY, hn9, hmY, hcY, -, hlY, -⟩ := Cond.codeWith_spec h2
  cases Option.some.inj (hn9.symm.trans hn)
  obtain ⟨kY, hkY, -⟩ := className_of_methodNamed hn
  have hinitY : kY.init = .initialized := Cond.initialized_spec (findClass_of_methodNamed hn) hkY h3
  have h : At U g.method c below := by rw [hg]; exact X.here
  have hlocals9 : W9 + (maxL + 11) + (headSpec ws rm).room.locals ≤ R.locals := hlocals
  have happ : (headSpec ws rm).appliesLoose y e.platform (U.calling g mk a) = true :=
    Spec.appliesLoose_calling (g := g) h hdg hn hkY hinitY
      (X.room_calling (g := g) (R' := (headSpec ws rm).room) hsize hmY hcY hframes (by rw [hlY]; omega) h4 h5) h1
  obtain ⟨mid, hmid⟩ := h.above
  have hfr : (U.setTop g).frames = (.java g :: mid) ++ below := by rw [State.frames_setTop' g h.top, hmid]; rfl
  obtain ⟨o, s₂, hsteps, -, hend, hq⟩ := Steps.callFree hM p X.admits X.cas X.clock (acts := []) hfr happ hPc trivial
  have hq' : vx_Q Qc XC mc ms free a (U.calling g mk a) o s₂ := hq
  rw [State.frames_setTop' g h.top] at hend
  obtain ⟨g₀, hg0⟩ := Option.isSome_iff_exists.mp h.top
  obtain ⟨r, hr⟩ := State.topJava?_eq_some.mp hg0
  have hr' : (({ U with heap := s₂.heap, slotsUsed := s₂.slotsUsed } : State).setVm s₂.vm).frames = .java g₀ :: r := hr
  rcases hq' with ⟨hqc, L, hfe, hL⟩ | ⟨q, rfl, E, ce, L, hx, hce, hcv, hcl, hW₂, hsm, hL⟩
  · obtain ⟨⟨v, rfl⟩, hW₂, e2, q2, q3, q4, q5, q6⟩ := id hfe
    have e3 : s₂ = ({ (U.calling g mk a).setFrames s₂.frames with heap := s₂.heap, slotsUsed := s₂.slotsUsed } : State).setVm s₂.vm := by
      have : s₂ = ({ s₂ with vm := (U.calling g mk a).vm } : State).setVm s₂.vm := rfl
      rw [e2] at this
      exact this
    obtain ⟨c₂, i₂, len₂, hc₂, hd₂, hf₂⟩ := hend
    have hW' : U.WarmedH s₂.vm := hW₂
    have hcc : c₂ = c := by
      have h1 : s₂.code? g.method = U.code? g.method := by
        rw [State.code?_eq, State.code?_eq, hW'.alike.method?]
      exact Option.some.inj (hc₂.symm.trans (h1.trans h.code))
    subst hcc
    have hlen : len₂ = len := by rw [hdg] at hd₂; cases hd₂; rfl
    subst hlen
    have hs₂ : s₂ = (({ U with heap := s₂.heap, slotsUsed := s₂.slotsUsed } : State).setVm s₂.vm).setTop { g with pc := g.pc + len₂, stack := v.toList ++ g.stack } := by
      refine e3.trans ?_
      rw [hf₂, State.calling_eq h.top, State.setFrames_setFrames, State.setTop_of_frames _ hr', hr]
      rfl
    have hsame : U.sameButNew ({ U with heap := s₂.heap, slotsUsed := s₂.slotsUsed } : State) L mc ms := by
      refine ⟨?_, q2, q3, q4, q5, q6⟩
      obtain ⟨t, ht, -⟩ := State.frames_cons hr
      show ({ U with heap := s₂.heap, slotsUsed := s₂.slotsUsed } : State) = { U.setFrames U.frames with heap := s₂.heap, slotsUsed := s₂.slotsUsed }
      rw [State.setFrames_self ht]
    subst hg
    refine Or.inl ⟨v, ⟨(({ U with heap := s₂.heap, slotsUsed := s₂.slotsUsed } : State).setVm s₂.vm), Ls ++ L, c0 + mc, s0 + ms⟩,
      ⟨X.admits, X.cas, X.clock, X.frames, X.room, X.hears, X.method, X.code, (X.here.setHeapUsed s₂.heap s₂.slotsUsed).setVm hW'.alike, X.tail, State.WarmedH.trans X.warmed hW', X.limits, X.bytes, X.same.trans (hsame.setVm s.vm)⟩,
      ⟨g, mk, s₂, L, rfl, rfl, hqc, rfl, hL, rfl, rfl⟩, ?_⟩
    show Steps p.tables e below _ ((({ U with heap := s₂.heap, slotsUsed := s₂.slotsUsed } : State).setVm s₂.vm).setTop { g with pc := g.pc + len₂, stack := v.toList ++ g.stack })
    rw [← hs₂]
    exact hsteps
  · obtain ⟨e2, q2, q3, q4, q5, q6⟩ := id hsm
    have e3 : s₂ = ({ (U.calling g mk a).setFrames s₂.frames with heap := s₂.heap, slotsUsed := s₂.slotsUsed } : State).setVm s₂.vm := by
      have : s₂ = ({ s₂ with vm := (U.calling g mk a).vm } : State).setVm s₂.vm := rfl
      rw [e2] at this
      exact this
    have hf₂ : s₂.frames = .throwing q :: .java g :: U.frames.tail := hend
    have hW' : U.WarmedH s₂.vm := hW₂
    have hs₂ : s₂ = ((({ U with heap := s₂.heap, slotsUsed := s₂.slotsUsed } : State).setVm s₂.vm).setTop g).pushFrame (.throwing q) := by
      refine e3.trans ?_
      rw [hf₂, State.calling_eq h.top, State.setFrames_setFrames, State.pushFrame, State.frames_setTop _ hr', State.setTop_of_frames _ hr', State.setFrames_setFrames, hr]
      rfl
    have hsame : U.sameButNew ({ U with heap := s₂.heap, slotsUsed := s₂.slotsUsed } : State) L mc ms := by
      refine ⟨?_, q2, q3, q4, q5, q6⟩
      obtain ⟨t, ht, -⟩ := State.frames_cons hr
      show ({ U with heap := s₂.heap, slotsUsed := s₂.slotsUsed } : State) = { U.setFrames U.frames with heap := s₂.heap, slotsUsed := s₂.slotsUsed }
      rw [State.setFrames_self ht]
    subst hg
    refine Or.inr ⟨q, ⟨(({ U with heap := s₂.heap, slotsUsed := s₂.slotsUsed } : State).setVm s₂.vm), Ls ++ L, c0 + mc, s0 + ms⟩,
      ⟨X.admits, X.cas, X.clock, X.frames, X.room, X.hears, X.method, X.code, (X.here.setHeapUsed s₂.heap s₂.slotsUsed).setVm hW'.alike, X.tail, State.WarmedH.trans X.warmed hW', X.limits, X.bytes, X.same.trans (hsame.setVm s.vm)⟩,
      ⟨g, mk, s₂, L, E, ce, rfl, rfl, hx, hce, hcv, hcl, rfl, hL, rfl, rfl⟩, ?_⟩
    show Steps p.tables e below _ (((({ U with heap := s₂.heap, slotsUsed := s₂.slotsUsed } : State).setVm s₂.vm).setTop g).pushFrame (.throwing q))
    rw [← hs₂]
    exact hsteps
end
variable {p : Program} {l : Launch} {e : Env} {R : Room} {s : State} {m : MethodId} {args : Array Value} {below : List Frame} {meth : Method} {c : Code} {T : State} {H : Heap} {locs : List Loc} {cells slots : Nat}
theorem vx_callVX (X : Stand p l e R s m args below meth c T locs cells slots) (hexec : p.tables.exec = Jvm.exec) {own C : String} {index : Nat} {y : MethodName} {bytes : ByteArray} {maxL : Nat} {ret : Option FieldType} {hh : List (Nat × Nat × Nat × Nat)}
    (hown : s.vm.findClass own = some m.cls) (hlink : (Cond.methodLink own index y).before args s = true) (hinst : (Cond.instanceMethod y).before args s = true) (hsel : (Cond.selects C y y).before args s = true)
    (hcode : (Cond.codeWith y bytes maxL ret hh).before args s = true) (hy : y.cls ≠ "java/lang/invoke/MethodHandle" ∧ y.cls ≠ "java/lang/invoke/VarHandle")
    {W9 : Nat} {Pre : Pt → Array Value → Prop} {Post : Pt → Array Value → Option Value → Pt → Prop} {PostX : Pt → Array Value → Addr → Pt → Prop} (hK : vx_Back l R p e below s args y 3 W9 Pre Post PostX)
    {b : Addr} {cellB : Cell} (hcell : T.heap[b]? = some cellB) (hobj : cellB.vm.isStatics = false) (hcls : s.vm.findClass C = some cellB.cls)
    {g : JFrame} (hg : g.method = m) (hsize : g.locals.size = c.maxLocals) {argsL rest : List Value} (hlen : ∀ sig, parseMethodDescriptor y.desc = some sig → argsL.length = sig.parameters.length)
    (hstack : g.stack = argsL.reverse ++ .ref b :: rest) (hW : 2 * g.monitorRoom + (rest.map fun v => v.category).sum ≤ W9) (hdg : decode c.code g.pc = .ok (.invokevirtual index, 3))
    (hpre : ∀ vm₁, s.WarmedH vm₁ → Pre ⟨T.setVm vm₁, locs, cells, slots⟩ (Value.ref b :: argsL).toArray) :
    (∃ (v : Option Value) (vm₁ : Vm) (B : Pt), s.WarmedH vm₁ ∧ Stand p l e R s m args below meth c B.U B.locs B.cells B.slots ∧ Post ⟨T.setVm vm₁, locs, cells, slots⟩ (Value.ref b :: argsL).toArray v B ∧
      ∀ target, Steps p.tables e below (B.U.setTop { g with pc := g.pc + 3, stack := v.toList ++ rest }) target → Steps p.tables e below (T.setTop g) target) ∨
    (∃ (q : Addr) (vm₁ : Vm) (B : Pt), s.WarmedH vm₁ ∧ Stand p l e R s m args below meth c B.U B.locs B.cells B.slots ∧ PostX ⟨T.setVm vm₁, locs, cells, slots⟩ (Value.ref b :: argsL).toArray q B ∧
      Steps p.tables e below (T.setTop g) ((B.U.setTop { g with stack := rest }).pushFrame (.throwing q))) := by
  obtain ⟨mk, methM, hnamed, hmethM, hstM, habM⟩ := Cond.instanceMethod_spec hinst
  obtain ⟨m8, methM', cM, hn8, hmethM', -, -, -, -, -, -, hsigM⟩ := Cond.codeWith_spec hcode
  cases Option.some.inj (hn8.symm.trans hnamed)
  cases hmethM.symm.trans hmethM'
  obtain ⟨c2, r2, m2, q1, q2, q3, q4, kP, hkP, hkPi⟩ := Cond.selects_spec hsel
  cases hcls.symm.trans q1
  cases (State.methodFound?_of_named hnamed hy).symm.trans q2
  cases hnamed.symm.trans q3
  have hselP : selectMethod e.platform s.vm cellB.cls mk = .method mk := by rw [Launch.admits_selectMethod X.admits]; exact q4
  obtain ⟨vm₁, X₁, hstep₁⟩ := X.invokevirtual hexec hown hlink hnamed hmethM hstM hkP hkPi hy (a := b) (cell := cellB) hcell
    (fun z h => by rw [h] at hobj; cases hobj) hselP hmethM habM hkP hkPi (g := g) hg (argsL := argsL) (rest := rest) (hlen _ hsigM) hstack hdg
  rcases hK m meth c ⟨T.setVm vm₁, locs, cells, slots⟩ { g with stack := rest } (.invokevirtual index) mk (Value.ref b :: argsL).toArray X₁ hg hsize hdg hW (X₁.named hnamed) (hpre vm₁ X₁.warmed) with ⟨v, B, X', hpost, hsteps⟩ | ⟨q, B, X', hpost, hsteps⟩
  · exact Or.inl ⟨v, vm₁, B, X₁.warmed, X', hpost, fun target h => hstep₁ _ fun acts => by rw [doInvoke_state]; exact hsteps.trans h⟩
  · exact Or.inr ⟨q, vm₁, B, X₁.warmed, X', hpost, hstep₁ _ fun acts => by rw [doInvoke_state]; exact hsteps⟩
theorem vx_callSX (X : Stand p l e R s m args below meth c T locs cells slots) (hexec : p.tables.exec = Jvm.exec) {own : String} {index : Nat} {y : MethodName} {bytes : ByteArray} {maxL : Nat} {ret : Option FieldType} {hh : List (Nat × Nat × Nat × Nat)}
    (hown : s.vm.findClass own = some m.cls) (hlink : (Cond.methodLink own index y).before args s = true) (hstat : (Cond.static y).before args s = true) (hinit : (Cond.initialized y.cls).before args s = true)
    (hcode : (Cond.codeWith y bytes maxL ret hh).before args s = true) (hy : y.cls ≠ "java/lang/invoke/MethodHandle" ∧ y.cls ≠ "java/lang/invoke/VarHandle")
    {W9 : Nat} {Pre : Pt → Array Value → Prop} {Post : Pt → Array Value → Option Value → Pt → Prop} {PostX : Pt → Array Value → Addr → Pt → Prop} (hK : vx_Back l R p e below s args y 3 W9 Pre Post PostX)
    {g : JFrame} (hg : g.method = m) (hsize : g.locals.size = c.maxLocals) {argsL rest : List Value} (hlen : ∀ sig, parseMethodDescriptor y.desc = some sig → argsL.length = sig.parameters.length)
    (hstack : g.stack = argsL.reverse ++ rest) (hW : 2 * g.monitorRoom + (rest.map fun v => v.category).sum ≤ W9) (hdg : decode c.code g.pc = .ok (.invokestatic index, 3))
    (hpre : ∀ vm₁, s.WarmedH vm₁ → Pre ⟨T.setVm vm₁, locs, cells, slots⟩ argsL.toArray) :
    (∃ (v : Option Value) (vm₁ : Vm) (B : Pt), s.WarmedH vm₁ ∧ Stand p l e R s m args below meth c B.U B.locs B.cells B.slots ∧ Post ⟨T.setVm vm₁, locs, cells, slots⟩ argsL.toArray v B ∧
      ∀ target, Steps p.tables e below (B.U.setTop { g with pc := g.pc + 3, stack := v.toList ++ rest }) target → Steps p.tables e below (T.setTop g) target) ∨
    (∃ (q : Addr) (vm₁ : Vm) (B : Pt), s.WarmedH vm₁ ∧ Stand p l e R s m args below meth c B.U B.locs B.cells B.slots ∧ PostX ⟨T.setVm vm₁, locs, cells, slots⟩ argsL.toArray q B ∧
      Steps p.tables e below (T.setTop g) ((B.U.setTop { g with stack := rest }).pushFrame (.throwing q))) := by
  obtain ⟨mk, methM, cM, hnamed, hmethM, -, -, -, -, -, -, hsigM⟩ := Cond.codeWith_spec hcode
  have hstatic : methM.isStatic = true := Cond.static_spec hnamed hmethM hstat
  obtain ⟨kP, hkP, -⟩ := className_of_methodNamed hnamed
  have hinitP : kP.init = .initialized := Cond.initialized_spec (findClass_of_methodNamed hnamed) hkP hinit
  obtain ⟨vm₁, X₁, hstep₁⟩ := X.invokestatic hexec hown hlink hnamed hmethM hstatic hkP hinitP hy (g := g) hg (argsL := argsL) (rest := rest) (hlen _ hsigM) hstack hdg
  rcases hK m meth c ⟨T.setVm vm₁, locs, cells, slots⟩ { g with stack := rest } (.invokestatic index) mk argsL.toArray X₁ hg hsize hdg hW (X₁.named hnamed) (hpre vm₁ X₁.warmed) with ⟨v, B, X', hpost, hsteps⟩ | ⟨q, B, X', hpost, hsteps⟩
  · exact Or.inl ⟨v, vm₁, B, X₁.warmed, X', hpost, fun target h => hstep₁ _ fun acts => by rw [doInvoke_state]; exact hsteps.trans h⟩
  · exact Or.inr ⟨q, vm₁, B, X₁.warmed, X', hpost, hstep₁ _ fun acts => by rw [doInvoke_state]; exact hsteps⟩
theorem vx_callVW (X : Stand p l e R s m args below meth c T locs cells slots) (hexec : p.tables.exec = Jvm.exec) {own C : String} {index : Nat} {y : MethodName} {bytes : ByteArray} {maxL : Nat} {ret : Option FieldType} {hh : List (Nat × Nat × Nat × Nat)}
    (hown : s.vm.findClass own = some m.cls) (hlink : (Cond.methodLink own index y).before args s = true) (hinst : (Cond.instanceMethod y).before args s = true) (hsel : (Cond.selects C y y).before args s = true)
    (hcode : (Cond.codeWith y bytes maxL ret hh).before args s = true) (hy : y.cls ≠ "java/lang/invoke/MethodHandle" ∧ y.cls ≠ "java/lang/invoke/VarHandle")
    {W9 : Nat} {Pre : Pt → Array Value → Prop} {Post : Pt → Array Value → Option Value → Pt → Prop} (hK : Back l R p e below s args y 3 W9 Pre Post)
    {b : Addr} {cellB : Cell} (hcell : T.heap[b]? = some cellB) (hobj : cellB.vm.isStatics = false) (hcls : s.vm.findClass C = some cellB.cls)
    {g : JFrame} (hg : g.method = m) (hsize : g.locals.size = c.maxLocals) {argsL rest : List Value} (hlen : ∀ sig, parseMethodDescriptor y.desc = some sig → argsL.length = sig.parameters.length)
    (hstack : g.stack = argsL.reverse ++ .ref b :: rest) (hW : 2 * g.monitorRoom + (rest.map fun v => v.category).sum ≤ W9) (hdg : decode c.code g.pc = .ok (.invokevirtual index, 3))
    (hpre : ∀ vm₁, s.WarmedH vm₁ → Pre ⟨T.setVm vm₁, locs, cells, slots⟩ (Value.ref b :: argsL).toArray) :
    ∃ (v : Option Value) (vm₁ : Vm) (B : Pt), s.WarmedH vm₁ ∧ Stand p l e R s m args below meth c B.U B.locs B.cells B.slots ∧ Post ⟨T.setVm vm₁, locs, cells, slots⟩ (Value.ref b :: argsL).toArray v B ∧
      ∀ target, Steps p.tables e below (B.U.setTop { g with pc := g.pc + 3, stack := v.toList ++ rest }) target → Steps p.tables e below (T.setTop g) target := by
  obtain ⟨mk, methM, hnamed, hmethM, hstM, habM⟩ := Cond.instanceMethod_spec hinst
  obtain ⟨m8, methM', cM, hn8, hmethM', -, -, -, -, -, -, hsigM⟩ := Cond.codeWith_spec hcode
  cases Option.some.inj (hn8.symm.trans hnamed)
  cases hmethM.symm.trans hmethM'
  obtain ⟨c2, r2, m2, q1, q2, q3, q4, kP, hkP, hkPi⟩ := Cond.selects_spec hsel
  cases hcls.symm.trans q1
  cases (State.methodFound?_of_named hnamed hy).symm.trans q2
  cases hnamed.symm.trans q3
  have hselP : selectMethod e.platform s.vm cellB.cls mk = .method mk := by rw [Launch.admits_selectMethod X.admits]; exact q4
  obtain ⟨vm₁, X₁, hstep₁⟩ := X.invokevirtual hexec hown hlink hnamed hmethM hstM hkP hkPi hy (a := b) (cell := cellB) hcell
    (fun z h => by rw [h] at hobj; cases hobj) hselP hmethM habM hkP hkPi (g := g) hg (argsL := argsL) (rest := rest) (hlen _ hsigM) hstack hdg
  obtain ⟨v, B, X', hpost, hsteps⟩ := hK m meth c ⟨T.setVm vm₁, locs, cells, slots⟩ { g with stack := rest } (.invokevirtual index) mk (Value.ref b :: argsL).toArray X₁ hg hsize hdg hW (X₁.named hnamed) (hpre vm₁ X₁.warmed)
  exact ⟨v, vm₁, B, X₁.warmed, X', hpost, fun target h => hstep₁ _ fun acts => by rw [doInvoke_state]; exact hsteps.trans h⟩
abbrev vx_CVW (R : Room) (s : State) (args : Array Value) (own C : String) (index : Nat) (y : MethodName) (bytes : ByteArray) (maxL : Nat) (ret : Option FieldType) (hh : List (Nat × Nat × Nat × Nat)) (ws : List Cond) (rm : Room) (mc ms n : Nat) : Prop :=
  (rm.cells = mc ∧ rm.slots = ms ∧ rm.frames + 1 ≤ R.frames ∧ 8 + (maxL + 11) + rm.locals ≤ R.locals ∧ (∀ w ∈ ws, ∀ (a' : Array Value) (U : State), s.WarmedH U.vm → w.before a' U = true) ∧ Cond.codeWith y bytes maxL ret hh ∈ ws) ∧
  (Cond.codeWith y bytes maxL ret hh).before args s = true ∧ (Cond.initialized y.cls).before args s = true ∧ (y.cls ≠ "java/lang/invoke/MethodHandle" ∧ y.cls ≠ "java/lang/invoke/VarHandle") ∧
  (∀ sig, parseMethodDescriptor y.desc = some sig → n = sig.parameters.length) ∧ (Cond.methodLink own index y).before args s = true ∧ (Cond.instanceMethod y).before args s = true ∧ (Cond.selects C y y).before args s = true
theorem vx_cwVW {own C : String} {index maxL mc ms : Nat} {y : MethodName} {bytes : ByteArray} {ret : Option FieldType} {hh : List (Nat × Nat × Nat × Nat)} {Ts ws ws' : List Cond} {rm : Room} (n : Nat) (ht : ∀ w ∈ Ts, w.before args s = true) (hT : GoodIn Ts (wsV own index C y ws)) (hw : ws = Cond.codeWith y bytes maxL ret hh :: ws') (hrc : rm.cells = mc) (hrs : rm.slots = ms)
    (hd : y.cls = C ∧ y.cls ≠ "java/lang/invoke/MethodHandle" ∧ y.cls ≠ "java/lang/invoke/VarHandle" ∧ (parseMethodDescriptor y.desc).map (fun d => d.parameters.length) = some n) (hR : rm.frames + 1 ≤ R.frames ∧ 8 + (maxL + 11) + rm.locals ≤ R.locals) :
    vx_CVW R s args own C index y bytes maxL ret hh ws rm mc ms n := by
  obtain ⟨hC, hd⟩ := hd
  subst hC
  have ok : ∀ w ∈ wsV own index y.cls y ws, w.before args s = true := fun w h => ht w (hT w h).1
  have hG : GoodIn Ts ws := fun w h => hT w (by unfold wsV; exact List.mem_append_right _ h)
  have hc : Cond.codeWith y bytes maxL ret hh ∈ ws := by rw [hw]; exact List.mem_cons_self
  refine ⟨⟨hrc, hrs, hR.1, hR.2, pay_in ht hG, hc⟩, ht _ (hG _ hc).1, ok _ (by simp [wsV]), ⟨hd.1, hd.2.1⟩, fun sig h => ?_, ok _ (by simp [wsV]), ok _ (by simp [wsV]), ok _ (by simp [wsV])⟩
  have h2 := hd.2.2
  rw [h] at h2
  exact (Option.some.inj h2).symm
theorem vx_runVW {y : MethodName} {bytes cc : ByteArray} {maxL nL mc ms n index : Nat} {ret : Option FieldType} {hh : List (Nat × Nat × Nat × Nat)} {ws : List Cond} {rm : Room} {Pc : Array Value → State → Prop} {Qc : Array Value → State → Outcome → State → Prop} {free : Addr → Prop} {Ts : List Cond} {own C : String} {b : Addr} {As rest : List Value} {g : JFrame}
    (S : CallFix p m c cc nL s args Ts own) (hM : Met l y ws rm Pc Qc mc ms free) (cw : vx_CVW R s args own C index y bytes maxL ret hh ws rm mc ms n) (hp : PreV s H C b Pc As)
    (hg : g.method = m) (hn : As.length = n) (hsize : g.locals.size = nL) (hstack : g.stack = As.reverse ++ .ref b :: rest) (hW : 2 * g.monitorRoom + (rest.map fun v => v.category).sum ≤ 8) (hdg : decode cc g.pc = .ok (.invokevirtual index, 3)) (hf : cells + mc ≤ R.cells ∧ slots + ms ≤ R.slots) :
    va_Run p l e R s m args below meth c H locs cells slots mc ms g rest (Qc (Value.ref b :: As).toArray) free := by
  obtain ⟨⟨hrc, hrs, hfr, hlo, hws, hcw⟩, hcode, hini, hy, hlen, hl, hin, hse⟩ := cw
  have hK : Back l R p e below s args y 3 8 (PreOf R mc ms Pc) (PostOf Qc mc ms free) := va_backW (hh := hh) (bytes := bytes) (maxL := maxL) (ret := ret) hM hp.1 hrc hrs hfr hlo hws hcw (fun a' U hW => word_at hW (Or.inl (by first | rfl | simp [Cond.onTables, Cond.keeps, Cond.steady])) hini)
  obtain ⟨hx, hb, hml, ho, -⟩ := S
  obtain ⟨-, ⟨cellB, hcB, hoB, hclB⟩, hPc⟩ := hp
  intro T hT X
  obtain ⟨v, vm₁, ⟨U', l2, c2, s2⟩, hW₁, X', ⟨g', mk, t, L, e1, e2, hq, h1, hL, h2, h3⟩, st⟩ := vx_callVW X hx (C := C) (hh := hh) (bytes := bytes) (maxL := maxL) (ret := ret) ho hl hin hse hcode hy hK (by rw [hT]; exact hcB) hoB hclB hg (hsize.trans hml.symm) (argsL := As) (rest := rest) (fun sig h => hn.trans (hlen sig h)) hstack hW (by rw [hb]; exact hdg)
    (fun vm₁ hW₁ => ⟨hf.1, hf.2, hPc (T.setVm vm₁) hT hW₁⟩)
  dsimp only [Pt.U, Pt.locs, Pt.cells, Pt.slots] at X' e1 e2 h1 h2 h3 st
  subst h1; subst h2; subst h3
  exact ⟨v, (T.setVm vm₁).calling g' mk (Value.ref b :: As).toArray, t, U', L, hT, X', hL, e1, e2, hq, st⟩
section
variable {y : MethodName} {bytes cc : ByteArray} {maxL nL mc ms n index : Nat} {ret : Option FieldType} {ws : List Cond} {rm : Room} {Pc : Array Value → State → Prop} {Qc : Array Value → State → Outcome → State → Prop} {XC : String → State → State → Prop} {free : Addr → Prop} {Ts : List Cond} {own C : String} {b : Addr} {As rest : List Value} {g : JFrame}
theorem vx_runVX {hh : List (Nat × Nat × Nat × Nat)} (S : CallFix p m c cc nL s args Ts own) (hM : vx_Met l y ws rm Pc Qc XC mc ms free) (cw : vx_CVW R s args own C index y bytes maxL ret hh ws rm mc ms n) (hp : PreV s H C b Pc As)
    (hg : g.method = m) (hn : As.length = n) (hsize : g.locals.size = nL) (hstack : g.stack = As.reverse ++ .ref b :: rest) (hW : 2 * g.monitorRoom + (rest.map fun v => v.category).sum ≤ 8) (hdg : decode cc g.pc = .ok (.invokevirtual index, 3)) (hf : cells + mc ≤ R.cells ∧ slots + ms ≤ R.slots) :
    vx_Run p l e R s m args below meth c H locs cells slots mc ms g rest (Qc (Value.ref b :: As).toArray) XC free := by
  obtain ⟨⟨hrc, hrs, hfr, hlo, hws, hcw⟩, hcode, hini, hy, hlen, hl, hin, hse⟩ := cw
  have hK : vx_Back l R p e below s args y 3 8 (PreOf R mc ms Pc) (PostOf Qc mc ms free) (vx_Post XC mc ms free) := vx_backW (hh := hh) (bytes := bytes) (maxL := maxL) (ret := ret) hM hp.1 hrc hrs hfr hlo hws hcw (fun a' U hW => word_at hW (Or.inl (by first | rfl | simp [Cond.onTables, Cond.keeps, Cond.steady])) hini)
  obtain ⟨hx, hb, hml, ho, -⟩ := S
  obtain ⟨-, ⟨cellB, hcB, hoB, hclB⟩, hPc⟩ := hp
  intro T hT X
  rcases vx_callVX X hx (C := C) (hh := hh) (bytes := bytes) (maxL := maxL) (ret := ret) ho hl hin hse hcode hy hK (by rw [hT]; exact hcB) hoB hclB hg (hsize.trans hml.symm) (argsL := As) (rest := rest) (fun sig h => hn.trans (hlen sig h)) hstack hW (by rw [hb]; exact hdg)
    (fun vm₁ hW₁ => ⟨hf.1, hf.2, hPc (T.setVm vm₁) hT hW₁⟩) with ⟨v, vm₁, ⟨U', l2, c2, s2⟩, hW₁, X', ⟨g', mk, t, L, e1, e2, hq, h1, hL, h2, h3⟩, st⟩ | ⟨q, vm₁, ⟨U', l2, c2, s2⟩, hW₁, X', ⟨g', mk, t, L, E, ce, e1, e2, hq, hce, hcv, hcl, h1, hL, h2, h3⟩, st⟩
  · dsimp only [Pt.U, Pt.locs, Pt.cells, Pt.slots] at X' e1 e2 h1 h2 h3 st
    subst h1; subst h2; subst h3
    exact Or.inl ⟨v, (T.setVm vm₁).calling g' mk (Value.ref b :: As).toArray, t, U', L, hT, X', hL, e1, e2, hq, st⟩
  · dsimp only [Pt.U, Pt.locs, Pt.cells, Pt.slots] at X' e1 e2 h1 h2 h3 st hcl
    subst h1; subst h2; subst h3
    exact Or.inr ⟨q, (T.setVm vm₁).calling g' mk (Value.ref b :: As).toArray, t, U', L, E, ce, hT, X', hL, e1, e2, hq, hce, hcv, vx_cls hW₁ hcl, st⟩
theorem vx_runSX {hh : List (Nat × Nat × Nat × Nat)} (S : CallFix p m c cc nL s args Ts own) (hM : vx_Met l y ws rm Pc Qc XC mc ms free) (cw : vx_CSW R s args own index y bytes maxL ret hh ws rm mc ms n) (hp : PreS s H Pc As)
    (hg : g.method = m) (hn : As.length = n) (hsize : g.locals.size = nL) (hstack : g.stack = As.reverse ++ rest) (hW : 2 * g.monitorRoom + (rest.map fun v => v.category).sum ≤ 8) (hdg : decode cc g.pc = .ok (.invokestatic index, 3)) (hf : cells + mc ≤ R.cells ∧ slots + ms ≤ R.slots) :
    vx_Run p l e R s m args below meth c H locs cells slots mc ms g rest (Qc As.toArray) XC free := by
  obtain ⟨⟨hrc, hrs, hfr, hlo, hws, hcw⟩, hcode, hini, hy, hlen, hl, hstt⟩ := cw
  have hK : vx_Back l R p e below s args y 3 8 (PreOf R mc ms Pc) (PostOf Qc mc ms free) (vx_Post XC mc ms free) := vx_backW (hh := hh) (bytes := bytes) (maxL := maxL) (ret := ret) hM hp.1 hrc hrs hfr hlo hws hcw (fun a' U hW => word_at hW (Or.inl (by first | rfl | simp [Cond.onTables, Cond.keeps, Cond.steady])) hini)
  obtain ⟨hx, hb, hml, ho, -⟩ := S
  intro T hT X
  rcases vx_callSX X hx (hh := hh) (bytes := bytes) (maxL := maxL) (ret := ret) ho hl hstt hini hcode hy hK hg (hsize.trans hml.symm) (argsL := As) (rest := rest) (fun sig h => hn.trans (hlen sig h)) hstack hW (by rw [hb]; exact hdg)
    (fun vm₁ hW₁ => ⟨hf.1, hf.2, hp.2 (T.setVm vm₁) hT hW₁⟩) with ⟨v, vm₁, ⟨U', l2, c2, s2⟩, hW₁, X', ⟨g', mk, t, L, e1, e2, hq, h1, hL, h2, h3⟩, st⟩ | ⟨q, vm₁, ⟨U', l2, c2, s2⟩, hW₁, X', ⟨g', mk, t, L, E, ce, e1, e2, hq, hce, hcv, hcl, h1, hL, h2, h3⟩, st⟩
  · dsimp only [Pt.U, Pt.locs, Pt.cells, Pt.slots] at X' e1 e2 h1 h2 h3 st
    subst h1; subst h2; subst h3
    exact Or.inl ⟨v, (T.setVm vm₁).calling g' mk As.toArray, t, U', L, hT, X', hL, e1, e2, hq, st⟩
  · dsimp only [Pt.U, Pt.locs, Pt.cells, Pt.slots] at X' e1 e2 h1 h2 h3 st hcl
    subst h1; subst h2; subst h3
    exact Or.inr ⟨q, (T.setVm vm₁).calling g' mk As.toArray, t, U', L, E, ce, hT, X', hL, e1, e2, hq, hce, hcv, vx_cls hW₁ hcl, st⟩
end
end VXH
theorem vx_ofWH {l : Launch} {y : MethodName} {ws ws' : List Cond} {rm : Room} {Pc : Array Value → State → Prop} {Qc : Array Value → State → Outcome → State → Prop} {XC : String → State → State → Prop} {mc ms : Nat} {free : Addr → Prop} {cc : ByteArray} {maxL : Nat} {ret : Option FieldType} {hh : List (Nat × Nat × Nat × Nat)}
    (hy : plainName y.cls = true) (hw : ws = Cond.codeWith y cc maxL ret hh :: ws')
    (body : ∀ p e s m args below meth c s₁, BodyLoose p l y (headSpec ws rm) cc maxL ret e s m args below meth c s₁ → c.maxLocals = maxL → Pc args s →
      W p l e (headSpec ws rm).room s m args below meth c s.heap [] 0 0 (vx_MQ below Qc XC args s mc ms free) (entryFrame m args maxL)) : vx_Met l y ws rm Pc Qc XC mc ms free := by
  refine MetFree.of_bodyS (code := cc) (maxLocals := maxL) (ret := ret) hy ?_ ?_
  · intro args s m h hn
    obtain ⟨m9, meth, c, hn9, h1, h2, h3, h4, -, h5, h6, -⟩ := Cond.codeWith_spec (atoms_spec (ws := ws) h _ (by rw [hw]; exact List.mem_cons_self))
    cases hn.symm.trans hn9
    exact ⟨meth, c, h1, h2, h3, h4, h5, h6⟩
  · intro p e s m args below meth c s₁ B hml hP _
    have hh0 : s₁.heap = s.heap := by rw [B.state]; rfl
    obtain ⟨t, a1, o, b1, b2, b3⟩ := body p e s m args below meth c s₁ B hml hP s₁ hh0 (Stand.of_body B)
    exact ⟨t, o, a1, b1, b2, b3⟩
/-! ===== END ===== -/

/-! ===== BEGIN what the machine throws by itself, no traces kept ===== -/
section VXM
set_option maxHeartbeats 1000000 in
/-- the machine throws cls with the message text, no traces kept: from its note over the frame g to 'throwing' over the same frame (follows the proofs of Stand.vmThrowsMessage, Shelf/KitTracedVmS.lean, and Stand.throwsMessageColdBareV, StandMessageColdV.lean, without the step out of the frame) -/
theorem vx_vmAt {p : Program} {l : Launch} {e : Env} {R : Room} {s : State} {m₀ : MethodId} {args : Array Value} {below : List Frame} {meth : Method} {c : Code} {W : State} {locs : List Loc} {cells slots : Nat}
    (X : Stand p l e R s m₀ args below meth c W locs cells slots) (hexec : p.tables.exec = Jvm.exec) (htr : e.platform.stackTraces = false) {cls : String} {names : List String} {text : String}
    (hcls : Bundle.fit cls = true) (hnames : ∀ n ∈ names, Bundle.fit n = true) (hsoe : (cls == "java/lang/StackOverflowError") = false) (hoom : (cls == "java/lang/OutOfMemoryError") = false)
    (h : ∀ a ∈ Bundle.messageArmAtoms cls names, a.before args s = true)
    (hlocs : ∀ x ∈ locs, ∀ cell, s.heap[x.base]? = some cell → cell.vm.isStatics = false)
    (htext : (text == notModelled) = false) (hlimit : ¬ (stringBytes (stringToUtf16 text)).size > e.platform.arrayLengthLimit) (hheap : ¬ (stringBytes (stringToUtf16 text)).size * componentBytes .byte > e.platform.maxHeapBytes)
    {g : JFrame} (hg : g.method = m₀) (hsize : g.locals.size = c.maxLocals)
    (hRframes : names.length + 4 < R.frames) (hRlocals : 2 * g.monitorRoom + (g.stack.map fun v => v.category).sum + 10240 ≤ R.locals) (hshort : 13 * names.length + 55 ≤ 10240)
    (hRcells : cells + 3 ≤ R.cells) (hRslots : slots + ((stringBytes (stringToUtf16 text)).size + 4 + 6) ≤ R.slots) (hlocks : meth.locks = false) :
    ∃ (S : State) (q : Addr) (ce : Cell), (∀ target, Steps p.tables e below ((S.setTop g).pushFrame (.throwing q)) target → Steps p.tables e below ((W.setTop g).pushFrame (.throwNew cls (some text) none)) target) ∧
      Stand p l e R s m₀ args below meth c S locs (cells + 3) (slots + ((stringBytes (stringToUtf16 text)).size + 4 + 6)) ∧ S.heap[q]? = some ce ∧ s.vm.findClass cls = some ce.cls ∧ ce.vm = .none := by
  have howns : e.platform.frameOwnsMonitors = true := by rw [X.admits.platform]
  have hfin : e.platform.finalization = false := by rw [X.admits.platform]
  have hpl : e.platform.magicAccessors = ({} : Platform).magicAccessors := by rw [X.admits.platform]
  have a : ∀ x, x ∈ Bundle.messageArmAtoms cls names → x.holds args s none s [] = true := fun x hx => h x hx
  obtain ⟨T, Z0, L, -, Y⟩ := ThrowableC.of_atoms (args := args) howns hfin hpl (fun x hx => h x (by simp [Bundle.messageArmAtoms, hx]))
  obtain ⟨Z, M, LZ, LM, hnZ⟩ := Init0T.ofS_atoms (args := args) hpl L Y (fun x hx => h x (by simp [Bundle.messageArmAtoms, hx]))
  obtain ⟨P1, Ps, hlen, L1, hL, hP1m, hlink1, hlink⟩ := Bundle.chainS (args := args) hpl hnZ names cls hcls hnames (fun x hx => h x (by simp [Bundle.messageArmAtoms, hx]))
  obtain ⟨Zs, LZs, hn4, hfitv, hfitc⟩ := StringT.of_atoms (args := args) (fun x hx => h x (by simp [Bundle.messageArmAtoms, hx]))
  have hfound : s.vm.findClass cls = some P1.m.cls := findClass_of_methodNamed hP1m
  obtain ⟨c1, kX, hc1, hk, hord, -, -, hn6⟩ := Cond.instantiable_spec (a (.instantiable cls 6) (by simp [Bundle.messageArmAtoms]))
  cases Option.some.inj (hc1.symm.trans hfound)
  have hinit := Cond.initialized_spec hfound hk (a (.initialized cls) (by simp [Bundle.messageArmAtoms]))
  have hctor : kX.findMethod "<init>" "(Ljava/lang/String;)V" = some P1.m.idx := findMethod_of_methodNamed hP1m hk
  have hsel0 : selectMethod e.platform s.vm P1.m.cls T.fill0 = .method T.fill0 := by
    obtain ⟨c2, r2, m2, q1, q2, q3, q4, -⟩ := Cond.selects_spec (a (.selects cls Bundle.tFill0 Bundle.tFill0) (by simp [Bundle.messageArmAtoms]))
    cases Option.some.inj (q1.symm.trans hfound)
    cases Option.some.inj (q2.symm.trans (State.methodFound?_of_named Y.fill0 (by decide)))
    cases Option.some.inj (q3.symm.trans Y.fill0)
    rw [Launch.admits_selectMethod X.admits]; exact q4
  have hselF : selectMethod e.platform s.vm P1.m.cls T.fill = .method T.fill := by
    obtain ⟨c2, r2, m2, q1, q2, q3, q4, -⟩ := Cond.selects_spec (a (.selects cls Bundle.tFill Bundle.tFill) (by simp [Bundle.messageArmAtoms]))
    cases Option.some.inj (q1.symm.trans hfound)
    cases Option.some.inj (q2.symm.trans (State.methodFound?_of_named Y.fill (by decide)))
    cases Option.some.inj (q3.symm.trans Y.fill)
    rw [Launch.admits_selectMethod X.admits]; exact q4
  obtain ⟨cellS0, hcS0, hiss⟩ := Y.statics
  obtain ⟨u0, hu0⟩ := Cond.staticRefV Y.unassigned L.unassignedStatic L.statics hcS0 hiss (a (.isRef (.static Bundle.tN "UNASSIGNED_STACK" Bundle.steD)) (by simp [Bundle.messageArmAtoms]))
  obtain ⟨sen, hsen⟩ := Cond.staticRefV Y.sentinel L.sentinelStatic L.statics hcS0 hiss (a (.isRef (.static Bundle.tN "SUPPRESSED_SENTINEL" Bundle.listD)) (by simp [Bundle.messageArmAtoms]))
  obtain ⟨ci198, i198, fB, hk198, hg198, ha198, hsB, -, hnB, htB, hffB⟩ := Cond.ownField (t := .object "java/lang/Object") Y.found L.cls (by decide +kernel) (a (.fieldLink Bundle.tN 198 Bundle.tN "backtrace" "Ljava/lang/Object;") (by simp [Bundle.messageArmAtoms])) (a (.lays Bundle.tN Bundle.tN "backtrace" "Ljava/lang/Object;") (by simp [Bundle.messageArmAtoms])) e.platform hpl
  obtain ⟨cellS, hcS', heS, -, hkeep⟩ := X.same.2.2.2.2.2 T.aS cellS0 hcS0
  have hcellS : W.heap[T.aS]? = some cellS := hcS'
  have hout' : ∀ i, (⟨T.aS, i⟩ : Loc) ∉ locs := fun i hmem => by
    have := hlocs _ hmem cellS0 hcS0
    rw [hiss] at this; cases this
  have hknownS : cellS.vm ≠ .unknown := by
    rw [heS]; intro hu
    rw [show cellS0.vm = .unknown from hu] at hiss
    cases hiss
  have hvU : cellS.slots[T.fUnassigned.slot]? = some u0.v := by rw [hkeep _ (hout' _)]; exact hu0
  have hvSen : cellS.slots[T.fSentinel.slot]? = some sen.v := by rw [hkeep _ (hout' _)]; exact hsen
  obtain ⟨iM, hffM⟩ := Y.msg
  obtain ⟨tyC, dC, hdC, hdnC⟩ := Cond.laysAt hfound hk Y.cause (a (.lays cls Bundle.tN "cause" "Ljava/lang/Throwable;") (by simp [Bundle.messageArmAtoms]))
  obtain ⟨tyS, dS, hdS, hdnS⟩ := Cond.laysAt hfound hk Y.stack (a (.lays cls Bundle.tN "stackTrace" Bundle.steD) (by simp [Bundle.messageArmAtoms]))
  obtain ⟨tyP, dP, hdP, hdnP⟩ := Cond.laysAt hfound hk Y.supp (a (.lays cls Bundle.tN "suppressedExceptions" Bundle.listD) (by simp [Bundle.messageArmAtoms]))
  obtain ⟨tyM, dM, hdM, hdnM⟩ := Cond.laysAt hfound hk hffM (a (.lays cls Bundle.tN "detailMessage" "Ljava/lang/String;") (by simp [Bundle.messageArmAtoms]))
  obtain ⟨tyB, dB, hdB, hdnB⟩ := Cond.laysAt hfound hk hffB (a (.lays cls Bundle.tN "backtrace" "Ljava/lang/Object;") (by simp [Bundle.messageArmAtoms]))
  have bC := Cond.laysApart hdB hdC hdnB hdnC (by rw [hnB, Y.causeName]; decide)
  have bS := Cond.laysApart hdB hdS hdnB hdnS (by rw [hnB, Y.stackName]; decide)
  have bP := Cond.laysApart hdB hdP hdnB hdnP (by rw [hnB, Y.suppName]; decide)
  have hbk : ((preparedCellV T.toThrowableT (freshCell P1.m.cls kX) (W.heap.size + 2) u0 sen).withEntry W.cur).slots[fB.slot]? = some .null := by
    have := fresh_default (c := P1.m.cls) tyB
    rw [htB] at this
    simpa [preparedCellV, Cell.setSlot, Cell.withEntry, Array.getElem?_setIfInBounds, bC, bS, bP, bC.symm, bS.symm, bP.symm, defaultValue] using this
  have tkC := Takes.of_laid (v := .ref (W.heap.size + 2)) hk hord tyC (by rw [Y.causeType]; rfl)
  have tkS := Takes.of_laid (v := u0.v) hk hord tyS (by rw [Y.stackType]; exact fits_refV_array _ u0)
  have tkP := Takes.of_laid (v := sen.v) hk hord tyP (by rw [Y.suppType]; exact fits_refV_object _ sen)
  have tkM := Takes.of_laid (v := .ref (W.heap.size + 1)) hk hord tyM (by rw [Y.msgType]; rfl)
  have hskip : SkipFacts T e.platform s (fun u => u) u0 ((preparedCellV T.toThrowableT (freshCell P1.m.cls kX) (W.heap.size + 2) u0 sen).withEntry W.cur) := ⟨{ ci198 := ci198, i198 := i198, fBack := fB }, ⟨hk198, hg198, ha198, hsB⟩, hbk, fun _ _ => rfl⟩
  have h0 : At W g.method c below := by rw [hg]; exact X.here
  obtain ⟨hbeyond, hfreeW⟩ := X.vmMayThrow hsize (.throwNew cls (some text) none) (fun f hf => by cases hf) rfl hRlocals
  have hfr' : W.frames.length + Ps.length + 4 < (e.platform.stackLimits W.me).1 := by have := X.framesAbove hRframes; omega
  have hwd' : (stackUse (.java g :: W.frames.tail)).2 + 13 * Ps.length + 55 ≤ (e.platform.stackLimits W.me).2 := by have := X.stackAbove hsize (K := 13 * Ps.length + 55) (by omega); omega
  have hslots : W.slotsUsed + (stringBytes (stringToUtf16 text)).size + Zs.kS.instanceTypes.size + kX.instanceTypes.size ≤ e.platform.maxSlots := by
    have := X.slotsAbove hRslots
    rw [hn4, hn6]
    omega
  obtain ⟨vm', hW', st⟩ := Steps.vmThrowsMessageColdByV p (s₀ := s) (S := W) (g := g) h0 hexec T L Z LZ M LM X.warmed (t := W.cur) rfl Zs LZs P1 L1 Ps hL hlink1 hlink hsoe hoom hfound hk hinit hord hctor
    (Launch.admits_hotImplicitExceptions X.admits) hbeyond hfreeW htext hlimit hheap (X.cellsAbove hRcells) hslots (hfitv _) (hfitc _)
    (Nn := fun u => u) heapOnly_id (fun _ _ => rfl) (fun _ => rfl) (fun u x y => setCell_twice _ _ _ _) (fun _ => Nat.le_refl _) (cN := ((preparedCellV T.toThrowableT (freshCell P1.m.cls kX) (W.heap.size + 2) u0 sen).withEntry W.cur))
    hsel0 hcellS hknownS hvU tkS (fun _ hu => hu) (fun _ hu => hu) rfl rfl rfl (by simp [preparedCellV, Cell.setSlot, Cell.withEntry]) hskip (fun _ _ hA hW _ hroom _ hrest => L.nativeOff p htr hA hW hroom hrest) hselF hvSen tkC tkP tkM Y.objLocals rfl hfr' hwd'
  rw [plainBareV_eq T.toThrowableT (W.heap.size + 2) u0 sen (.ref (W.heap.size + 1)) W.cur rfl rfl] at st
  obtain ⟨-, -, w3, w4, -, -, -⟩ := withThrown_facts e.platform W Zs text P1.m.cls kX
  have X3 := ((X.pushed (bytesOf Zs.cB (stringToUtf16 text))).pushed (stringAt Zs.cS Zs.kS Zs.fv Zs.fc (stringToUtf16 text) W.heap.size)).pushed (freshCell P1.m.cls kX)
  rw [← withString_eq] at X3
  have X4 := X3.noted hW'
  have ha : (W.heap.size + 2) < ((withThrown W Zs text P1.m.cls kX).setVm vm').heap.size := by show _ < (withThrown W Zs text P1.m.cls kX).heap.size; rw [w3]; omega
  have hcell : ((withThrown W Zs text P1.m.cls kX).setVm vm').heap[(W.heap.size + 2)]? = some (freshCell P1.m.cls kX) := w4
  have X5 := ((((X4.stored hcell T.fCause.slot (.ref (W.heap.size + 2))).storedAgain ha T.fStack.slot u0.v).storedAgain ha T.fSupp.slot sen.v).storedAgain ha T.fStack.slot u0.v).storedAgain ha T.fMsg.slot (.ref (W.heap.size + 1))
  obtain ⟨g₁, hfrM⟩ := X5.frames_eq
  have hU : ((((withThrown W Zs text P1.m.cls kX).setVm vm').setCell (W.heap.size + 2) (plainBareV T.toThrowableT (freshCell P1.m.cls kX) (W.heap.size + 2) u0 sen (.ref (W.heap.size + 1)))).setTop g).pushFrame (.throwing (W.heap.size + 2)) = (((withThrown W Zs text P1.m.cls kX).setVm vm').setCell (W.heap.size + 2) (plainBareV T.toThrowableT (freshCell P1.m.cls kX) (W.heap.size + 2) u0 sen (.ref (W.heap.size + 1)))).setFrames (.throwing (W.heap.size + 2) :: .java g :: below) := by
    rw [State.pushFrame, State.frames_setTop _ hfrM, State.setTop_of_frames _ hfrM, State.setFrames_setFrames]
  have b1 : (bytesOf Zs.cB (stringToUtf16 text)).slots.size = (stringBytes (stringToUtf16 text)).size := by
    rw [(Cell.writeAll_facts _ _).2.2]; simp [bytes0]
  have b2 : (stringAt Zs.cS Zs.kS Zs.fv Zs.fc (stringToUtf16 text) W.heap.size).slots.size = 4 := by simp [string0, Cell.setSlot, hn4]
  have b3 : (freshCell P1.m.cls kX).slots.size = 6 := by simp [hn6]
  rw [b1, b2, b3] at X5
  have e9 : slots + (stringBytes (stringToUtf16 text)).size + 4 + 6 = slots + ((stringBytes (stringToUtf16 text)).size + 4 + 6) := by omega
  rw [e9] at X5
  simp only [List.append_assoc, List.cons_append, List.nil_append] at X5
  refine ⟨((withThrown W Zs text P1.m.cls kX).setVm vm').setCell (W.heap.size + 2) (plainBareV T.toThrowableT (freshCell P1.m.cls kX) (W.heap.size + 2) u0 sen (.ref (W.heap.size + 1))), W.heap.size + 2, _, fun target ht => st _ (by rw [X.tail, ← hU]; exact ht),
    X5.forget (fun y hy => ?_), heapAt_setCell_self _ ha, hfound, rfl⟩
  simp only [List.mem_cons, List.not_mem_nil, or_false] at hy
  have hge : s.heap.size ≤ W.heap.size := X.same.2.1
  rcases hy with rfl | rfl | rfl | rfl | rfl <;> exact Nat.le_trans hge (Nat.le_add_right _ 2)
set_option maxHeartbeats 1000000 in
/-- the machine throws NullPointerException, no traces kept: from its note over the frame g to 'throwing' over the same frame (follows the proof of Stand.vmThrowsNpe, Shelf42/KT2.lean; throwsNpeColdBareVAt, Shelf42/NT91.lean, called) -/
theorem vx_npeAt {p : Program} {l : Launch} {e : Env} {R : Room} {s : State} {m₀ : MethodId} {args : Array Value} {below : List Frame} {meth : Method} {c : Code} {W : State} {locs : List Loc} {cells slots : Nat}
    (X : Stand p l e R s m₀ args below meth c W locs cells slots) (hexec : p.tables.exec = Jvm.exec) (htr : e.platform.stackTraces = false) {n : Nat}
    (h : ∀ a ∈ Bundle.npeArmAtoms n, a.before args s = true)
    (hlocs : ∀ x ∈ locs, ∀ cell, s.heap[x.base]? = some cell → cell.vm.isStatics = false)
    {g : JFrame} (hg : g.method = m₀) (hsize : g.locals.size = c.maxLocals)
    (hRframes : 7 < R.frames) (hRlocals : 2 * g.monitorRoom + (g.stack.map fun v => v.category).sum + 10240 ≤ R.locals)
    (hRcells : cells + 1 ≤ R.cells) (hRslots : slots + n ≤ R.slots) (hlocks : meth.locks = false) :
    ∃ (S : State) (q : Addr) (ce : Cell), (∀ target, Steps p.tables e below ((S.setTop g).pushFrame (.throwing q)) target → Steps p.tables e below ((W.setTop g).pushFrame (.throwNew "java/lang/NullPointerException" none none)) target) ∧
      Stand p l e R s m₀ args below meth c S locs (cells + 1) (slots + n) ∧ S.heap[q]? = some ce ∧ s.vm.findClass "java/lang/NullPointerException" = some ce.cls ∧ ce.vm = .none := by
  have howns : e.platform.frameOwnsMonitors = true := by rw [X.admits.platform]
  have hfin : e.platform.finalization = false := by rw [X.admits.platform]
  have hpl : e.platform.magicAccessors = ({} : Platform).magicAccessors := by rw [X.admits.platform]
  have hpl2 : e.platform.arrayCloneIsPublic = true := by rw [X.admits.platform]
  have a' : ∀ x, x ∈ Bundle.npeArmAtoms n → x.holds args s none s [] = true := fun x hx => h x hx
  obtain ⟨T, Z, L, LZ, Y⟩ := ThrowableC.of_atoms (args := args) howns hfin hpl (fun x hx => h x (by simp [Bundle.npeArmAtoms, hx]))
  obtain ⟨N, LN, hcN, hnNF, hordN, hffS⟩ := NpeC.of_atoms (args := args) hpl hpl2 L Y (fun x hx => h x (by simp [Bundle.npeArmAtoms, hx]))
  obtain ⟨P1, L1, hP1m, hP1s⟩ := PassC.of_atoms (args := args) (s := s) hpl (X := Bundle.nN) (Y := Bundle.rN) (by decide) (by decide) LibCode.NullPointerException.Init0.at_0 LibCode.NullPointerException.Init0.at_1 LibCode.NullPointerException.Init0.at_4 (fun x hx => h x (by simp [Bundle.npeArmAtoms, hx]))
  obtain ⟨PR, LR, hPRm, hPRs⟩ := PassC.of_atoms (args := args) (s := s) hpl (X := Bundle.rN) (Y := Bundle.eN) (by decide) (by decide) LibCode.RuntimeException.Init0.at_0 LibCode.RuntimeException.Init0.at_1 LibCode.RuntimeException.Init0.at_4 (fun x hx => h x (by simp [Bundle.npeArmAtoms, hx]))
  obtain ⟨PE, LEx, hPEm, hPEs⟩ := PassC.of_atoms (args := args) (s := s) hpl (X := Bundle.eN) (Y := Bundle.tN) (by decide) (by decide) LibCode.Exception.Init0.at_0 LibCode.Exception.Init0.at_1 LibCode.Exception.Init0.at_4 (fun x hx => h x (by simp [Bundle.npeArmAtoms, hx]))
  have hfound : s.vm.findClass Bundle.nN = some P1.m.cls := findClass_of_methodNamed hP1m
  have ecls : N.cN = P1.m.cls := Option.some.inj (hcN.symm.trans hfound)
  have hk : s.vm.classes[P1.m.cls]? = some N.kN := by rw [← ecls]; exact LN.cls
  have hinit := Cond.initialized_spec hfound hk (a' (.initialized Bundle.nN) (by simp [Bundle.npeArmAtoms]))
  have hctor : N.kN.findMethod "<init>" "()V" = some P1.m.idx := findMethod_of_methodNamed hP1m hk
  obtain ⟨c1, k1, hc1, hk1, -, -, -, hn⟩ := Cond.instantiable_spec (a' (.instantiable Bundle.nN n) (by simp [Bundle.npeArmAtoms]))
  cases Option.some.inj (hc1.symm.trans hfound)
  cases Option.some.inj (hk1.symm.trans hk)
  have hfsz : (freshCell P1.m.cls N.kN).slots.size = n := by simp [hn]
  have hlink1 : P1.sup = PR.m := Option.some.inj (hP1s.symm.trans hPRm)
  have hlinkR : PR.sup = PE.m := Option.some.inj (hPRs.symm.trans hPEm)
  have hlinkE : PE.sup = Z.m T.toThrowableT := Option.some.inj (hPEs.symm.trans Y.init0)
  have hLs : ∀ P, P ∈ [PR, PE] → P.Links0 e.platform s := fun P hP => by
    simp only [List.mem_cons, List.not_mem_nil, or_false] at hP
    rcases hP with rfl | rfl
    · exact LR
    · exact LEx
  have hsel0 : selectMethod e.platform s.vm P1.m.cls T.fill0 = .method T.fill0 := by
    obtain ⟨c2, r2, m2, q1, q2, q3, q4, -⟩ := Cond.selects_spec (a' (.selects Bundle.nN Bundle.tFill0 Bundle.tFill0) (by simp [Bundle.npeArmAtoms]))
    cases Option.some.inj (q1.symm.trans hfound)
    cases Option.some.inj (q2.symm.trans (State.methodFound?_of_named Y.fill0 (by decide)))
    cases Option.some.inj (q3.symm.trans Y.fill0)
    rw [Launch.admits_selectMethod X.admits]; exact q4
  have hselF : selectMethod e.platform s.vm P1.m.cls T.fill = .method N.fill := by
    obtain ⟨c2, r2, m2, q1, q2, q3, q4, -⟩ := Cond.selects_spec (a' (.selects Bundle.nN Bundle.tFill Bundle.nFill) (by simp [Bundle.npeArmAtoms]))
    cases Option.some.inj (q1.symm.trans hfound)
    cases Option.some.inj (q2.symm.trans (State.methodFound?_of_named Y.fill (by decide)))
    cases Option.some.inj (q3.symm.trans hnNF)
    rw [Launch.admits_selectMethod X.admits]; exact q4
  obtain ⟨cellS0, hcS0, hiss⟩ := Y.statics
  obtain ⟨u0, hu0⟩ := Cond.staticRefV Y.unassigned L.unassignedStatic L.statics hcS0 hiss (a' (.isRef (.static Bundle.tN "UNASSIGNED_STACK" Bundle.steD)) (by simp [Bundle.npeArmAtoms]))
  obtain ⟨sen, hsen⟩ := Cond.staticRefV Y.sentinel L.sentinelStatic L.statics hcS0 hiss (a' (.isRef (.static Bundle.tN "SUPPRESSED_SENTINEL" Bundle.listD)) (by simp [Bundle.npeArmAtoms]))
  obtain ⟨ci198, i198, fB, hk198, hg198, ha198, hsB, -, hnB, htB, hffB⟩ := Cond.ownField (t := .object "java/lang/Object") Y.found L.cls (by decide +kernel) (a' (.fieldLink Bundle.tN 198 Bundle.tN "backtrace" Bundle.objD) (by simp [Bundle.npeArmAtoms])) (a' (.lays Bundle.tN Bundle.tN "backtrace" Bundle.objD) (by simp [Bundle.npeArmAtoms])) e.platform hpl
  obtain ⟨cellS, hcS', heS, -, hkeep⟩ := X.same.2.2.2.2.2 T.aS cellS0 hcS0
  have hcellS : W.heap[T.aS]? = some cellS := hcS'
  have hout' : ∀ i, (⟨T.aS, i⟩ : Loc) ∉ locs := fun i hmem => by
    have := hlocs _ hmem cellS0 hcS0
    rw [hiss] at this; cases this
  have hknownS : cellS.vm ≠ .unknown := by
    rw [heS]; intro hu
    rw [show cellS0.vm = .unknown from hu] at hiss
    cases hiss
  have hvU : cellS.slots[T.fUnassigned.slot]? = some u0.v := by rw [hkeep _ (hout' _)]; exact hu0
  have hvSen : cellS.slots[T.fSentinel.slot]? = some sen.v := by rw [hkeep _ (hout' _)]; exact hsen
  obtain ⟨tyC, dC, hdC, hdnC⟩ := Cond.laysAt hfound hk Y.cause (a' (.lays Bundle.nN Bundle.tN "cause" "Ljava/lang/Throwable;") (by simp [Bundle.npeArmAtoms]))
  obtain ⟨tyS, dS, hdS, hdnS⟩ := Cond.laysAt hfound hk Y.stack (a' (.lays Bundle.nN Bundle.tN "stackTrace" Bundle.steD) (by simp [Bundle.npeArmAtoms]))
  obtain ⟨tyP, dP, hdP, hdnP⟩ := Cond.laysAt hfound hk Y.supp (a' (.lays Bundle.nN Bundle.tN "suppressedExceptions" Bundle.listD) (by simp [Bundle.npeArmAtoms]))
  obtain ⟨tyX, dX, hdX, hdnX⟩ := Cond.laysAt hfound hk hffS (a' (.lays Bundle.nN Bundle.nN "extendedMessageState" "I") (by simp [Bundle.npeArmAtoms, Bundle.npeAtoms]))
  obtain ⟨hnX, htX⟩ := State.fieldFound?_type hffS (t := .int) (by decide +kernel)
  have xC := Cond.laysApart hdC hdX hdnC hdnX (by rw [hnX, Y.causeName]; decide)
  have xS := Cond.laysApart hdS hdX hdnS hdnX (by rw [hnX, Y.stackName]; decide)
  have xP := Cond.laysApart hdP hdX hdnP hdnX (by rw [hnX, Y.suppName]; decide)
  have hv0 : (freshCell P1.m.cls N.kN).slots[N.fState.slot]? = some (.int 0) := by
    have := fresh_default (c := P1.m.cls) tyX
    rw [htX] at this; exact this
  obtain ⟨tyB, dB, hdB, hdnB⟩ := Cond.laysAt hfound hk hffB (a' (.lays Bundle.nN Bundle.tN "backtrace" Bundle.objD) (by simp [Bundle.npeArmAtoms]))
  have bC := Cond.laysApart hdB hdC hdnB hdnC (by rw [hnB, Y.causeName]; decide)
  have bS := Cond.laysApart hdB hdS hdnB hdnS (by rw [hnB, Y.stackName]; decide)
  have bP := Cond.laysApart hdB hdP hdnB hdnP (by rw [hnB, Y.suppName]; decide)
  have bX := Cond.laysApart hdB hdX hdnB hdnX (by rw [hnB, hnX]; decide)
  have hbk : ((npeCell N.toNpeT (preparedCellV T.toThrowableT (freshCell P1.m.cls N.kN) W.heap.size u0 sen) W.cur).withEntry W.cur).slots[fB.slot]? = some .null := by
    have := fresh_default (c := P1.m.cls) tyB
    rw [htB] at this
    simpa [npeCell, preparedCellV, Cell.setSlot, Cell.withEntry, Array.getElem?_setIfInBounds, bC, bS, bP, bX, bC.symm, bS.symm, bP.symm, bX.symm, defaultValue] using this
  have tkC := Takes.of_laid (v := .ref W.heap.size) hk hordN tyC (by rw [Y.causeType]; rfl)
  have tkS := Takes.of_laid (v := u0.v) hk hordN tyS (by rw [Y.stackType]; exact fits_refV_array _ u0)
  have tkP := Takes.of_laid (v := sen.v) hk hordN tyP (by rw [Y.suppType]; exact fits_refV_object _ sen)
  have tkX := Takes.of_laid (v := .int 1) hk hordN tyX (by rw [htX]; rfl)
  have hskip : SkipFacts T e.platform s (fun u => u) u0 ((npeCell N.toNpeT (preparedCellV T.toThrowableT (freshCell P1.m.cls N.kN) W.heap.size u0 sen) W.cur).withEntry W.cur) := ⟨{ ci198 := ci198, i198 := i198, fBack := fB }, ⟨hk198, hg198, ha198, hsB⟩, hbk, fun _ _ => rfl⟩
  obtain ⟨vm', X3, st, -⟩ := X.throwsNpeColdBareVAt hexec hg hsize T L Z LZ N LN P1 L1 [PR, PE] hLs hlink1 ⟨hlinkR, hlinkE, trivial⟩ hfound hk hinit hordN hctor hsel0 hselF hcellS hknownS hvU hvSen
    hv0 xC xS xP tkC tkS tkP tkX Y.objLocals hskip (fun _ _ hA hW _ hroom _ hrest => L.nativeOff p htr hA hW hroom hrest) (by simpa using hRframes) hRlocals (by simp) hRcells (by rw [hn]; exact hRslots)
  have hlt : W.heap.size < ((W.pushCell (freshCell P1.m.cls N.kN)).setVm vm').heap.size := by
    show W.heap.size < (W.pushCell (freshCell P1.m.cls N.kN)).heap.size
    rw [State.heap_size_pushCell]; omega
  rw [hfsz] at X3
  obtain ⟨g₁, hfrM⟩ := X3.frames_eq
  have hU : ((((W.pushCell (freshCell P1.m.cls N.kN)).setVm vm').setCell W.heap.size (npeBareV T.toThrowableT N.toNpeT (freshCell P1.m.cls N.kN) W.heap.size u0 sen)).setTop g).pushFrame (.throwing W.heap.size) = (((W.pushCell (freshCell P1.m.cls N.kN)).setVm vm').setCell W.heap.size (npeBareV T.toThrowableT N.toNpeT (freshCell P1.m.cls N.kN) W.heap.size u0 sen)).setFrames (.throwing W.heap.size :: .java g :: below) := by
    rw [State.pushFrame, State.frames_setTop _ hfrM, State.setTop_of_frames _ hfrM, State.setFrames_setFrames]
  refine ⟨_, W.heap.size, _, fun target ht => st.trans (by rw [← hU]; exact ht), X3.forget (fun y hy => ?_), heapAt_setCell_self _ hlt, hfound, rfl⟩
  simp only [List.mem_cons, List.not_mem_nil, or_false] at hy
  have hge : s.heap.size ≤ W.heap.size := X.same.2.1
  rcases hy with rfl | rfl | rfl | rfl | rfl <;> exact hge
/-- the words of a machine's NullPointerException, but the four that speak of the heap -/
def vx_atN (n : Nat) : List Cond := (Bundle.npeArmAtoms n).filter vx_no
/-- the words of a machine's throw with a message, but the four that speak of the heap -/
def vx_atM (X : String) (names : List String) : List Cond := (Bundle.messageArmAtoms X names).filter vx_no
section
variable {p : Program} {l : Launch} {e : Env} {R : Room} {s : State} {m : MethodId} {args : Array Value} {below : List Frame} {meth : Method} {c : Code} {H : Heap} {locs : List Loc} {cells slots : Nat}
/-- a frame seen from a rebased start, seen from the first start again -/
theorem vx_back9 {T S : State} {R' : Room} {k n : Nat} (X : Stand p l e R s m args below meth c T locs cells slots) (Y : Stand p l e R' ((T.setVm s.vm).setFrames (.invoking m args :: below)) m args below meth c T [] 0 0) (Z : Stand p l e R' ((T.setVm s.vm).setFrames (.invoking m args :: below)) m args below meth c S [] k n) :
    Stand p l e R s m args below meth c S locs (cells + k) (slots + n) := by
  have hW0 : s.WarmedH ((T.setVm s.vm).setFrames (.invoking m args :: below)).vm := State.WarmedH.refl s
  refine { admits := X.admits, cas := X.cas, clock := X.clock, frames := X.frames, room := X.room, hears := X.hears, method := X.method, code := X.code, here := Z.here, tail := Z.tail, warmed := State.WarmedH.trans hW0 Z.warmed, limits := Z.limits.trans (Y.limits.symm.trans X.limits), bytes := Z.bytes.trans (Y.bytes.symm.trans X.bytes), same := ?_ }
  obtain ⟨e1, e2⟩ := Z.same
  rw [State.setFrames_setFrames] at e1
  have h2 : (T.setVm s.vm).sameButNew (S.setVm s.vm) [] k n := ⟨e1, e2⟩
  have h3 := X.same.trans h2
  rw [List.append_nil] at h3
  exact h3
/-- from the machine's note that E is thrown here with this text -/
def vx_Note (p : Program) (l : Launch) (e : Env) (R : Room) (s : State) (m : MethodId) (args : Array Value) (below : List Frame) (meth : Method) (c : Code) (H : Heap) (locs : List Loc) (cells slots : Nat) (Q : State → Prop) (g : JFrame) (E text : String) : Prop :=
  ∀ T : State, T.heap = H → Stand p l e R s m args below meth c T locs cells slots → ∃ t, Steps p.tables e below ((T.setTop g).pushFrame (.throwNew E (some text) none)) t ∧ Q t
theorem vx_vm {pc : Nat} {ls : Array Slot} {rest : List Value} {Q : State → Prop} (hexec : p.tables.exec = Jvm.exec) (hl : l.stackTraces = false) {cls text : String} {names : List String} {nb : Nat} {A : Nat → Prop}
    (hcls : Bundle.fit cls = true) (hnames : ∀ n ∈ names, Bundle.fit n = true) (hsoe : (cls == "java/lang/StackOverflowError") = false) (hoom : (cls == "java/lang/OutOfMemoryError") = false)
    (hat : ∀ w ∈ vx_atM cls names, w.before args s = true) (hgood : ∀ w ∈ vx_atM cls names, vx_ot w = true)
    (hU : vx_Zq Bundle.tN "UNASSIGNED_STACK" Bundle.steD A s s.heap) (hN : vx_Zq Bundle.tN "SUPPRESSED_SENTINEL" Bundle.listD A s s.heap) (hS : va_S A s.heap H locs) (hsize : ls.size = c.maxLocals)
    (htext : (text == notModelled) = false) (hnb : (stringBytes (stringToUtf16 text)).size ≤ nb) (hnb1 : nb ≤ 1000)
    (hRframes : names.length + 4 < R.frames) (hRlocals : (rest.map fun v => v.category).sum + 10240 ≤ R.locals) (hshort : 13 * names.length + 55 ≤ 10240) (hRcells : cells + 3 ≤ R.cells) (hRslots : slots + (nb + 10) ≤ R.slots) (hlocks : meth.locks = false)
    (k : ∀ (H1 : Heap) (q9 : Addr) (ce : Cell), H.size ≤ H1.size → (∀ q : Nat, q < H.size → H1[q]? = H[q]?) → va_S A s.heap H1 locs → H1[q9]? = some ce → ce.vm = .none → s.vm.findClass cls = some ce.cls → vx_W p l e R s m args below meth c H1 locs (cells + 3) (slots + (nb + 10)) Q (F0 m pc ls rest) q9) :
    vx_Note p l e R s m args below meth c H locs cells slots Q (F0 m pc ls rest) cls text := by
  intro T hT X
  have htr : e.platform.stackTraces = false := (show e.platform.stackTraces = l.stackTraces by rw [X.admits.platform]).trans hl
  have Y := vx_rebase X (R' := { frames := R.frames, locals := R.locals, cells := 3, slots := nb + 10 }) (Nat.le_refl _) (Nat.le_refl _) hRcells hRslots
  have hhp : ((T.setVm s.vm).setFrames (.invoking m args :: below)).heap = H := hT
  have hW0 : s.WarmedH ((T.setVm s.vm).setFrames (.invoking m args :: below)).vm := State.WarmedH.refl s
  have hat' : ∀ w ∈ vx_atM cls names, w.before args ((T.setVm s.vm).setFrames (.invoking m args :: below)) = true := fun w hw => vx_ot_at hW0 rfl (hgood w hw) (hat w hw)
  have hU' : vx_Zq Bundle.tN "UNASSIGNED_STACK" Bundle.steD A ((T.setVm s.vm).setFrames (.invoking m args :: below)) ((T.setVm s.vm).setFrames (.invoking m args :: below)).heap := by rw [hhp]; exact vx_Zq.moved hW0.alike (hU.kept hS.2.1)
  have hN' : vx_Zq Bundle.tN "SUPPRESSED_SENTINEL" Bundle.listD A ((T.setVm s.vm).setFrames (.invoking m args :: below)) ((T.setVm s.vm).setFrames (.invoking m args :: below)).heap := by rw [hhp]; exact vx_Zq.moved hW0.alike (hN.kept hS.2.1)
  obtain ⟨S, q, ce, st, Z, hce, hcl', hv⟩ := vx_vmAt Y hexec htr (cls := cls) (names := names) (text := text) hcls hnames hsoe hoom (vx_own hat' (vx_isRefq hU'.1) (vx_isRefq hN'.1) hU'.2.word hN'.2.word) (fun x hx => nomatch hx) htext
    (by rw [Launch.admits_arrayLengthLimit X.admits]; omega) (by rw [Launch.admits_maxHeapBytes X.admits]; simp only [componentBytes]; omega)
    (g := F0 m pc ls rest) rfl hsize hRframes (by show 2 * 0 + (rest.map fun v => v.category).sum + 10240 ≤ R.locals; omega) hshort (by show 0 + 3 ≤ 3; omega) (by show 0 + (_ + 4 + 6) ≤ nb + 10; omega) hlocks
  obtain ⟨f1, f2⟩ := vx_frame Z.same
  have f1' : H.size ≤ S.heap.size := by rw [← hT]; exact f1
  have f2' : ∀ q : Nat, q < H.size → S.heap[q]? = H[q]? := fun q hq => by
    rw [← hT]
    exact f2 q (by rw [← hT] at hq; exact hq) (fun z hz => nomatch hz)
  have X5 := vx_back9 X Y Z
  have X6 : Stand p l e R s m args below meth c S locs (cells + 3) (slots + (nb + 10)) := { X5 with same := X5.same.mono (by omega) (by omega) }
  obtain ⟨t, a1, b1⟩ := k S.heap q ce f1' f2' ⟨Nat.le_trans hS.1 f1', fun q h1 h2 => (f2' q (Nat.lt_of_lt_of_le h1 hS.1)).trans (hS.2.1 q h1 h2), hS.2.2⟩ hce hv hcl' S rfl X6
  exact ⟨t, st t a1, b1⟩
/-- from the machine's note that NullPointerException is thrown here -/
def vx_NoteN (p : Program) (l : Launch) (e : Env) (R : Room) (s : State) (m : MethodId) (args : Array Value) (below : List Frame) (meth : Method) (c : Code) (H : Heap) (locs : List Loc) (cells slots : Nat) (Q : State → Prop) (g : JFrame) : Prop :=
  ∀ T : State, T.heap = H → Stand p l e R s m args below meth c T locs cells slots → ∃ t, Steps p.tables e below ((T.setTop g).pushFrame (.throwNew "java/lang/NullPointerException" none none)) t ∧ Q t
theorem vx_npe {pc : Nat} {ls : Array Slot} {rest : List Value} {Q : State → Prop} (hexec : p.tables.exec = Jvm.exec) (hl : l.stackTraces = false) {nb : Nat} {A : Nat → Prop}
    (hat : ∀ w ∈ vx_atN nb, w.before args s = true) (hgood : ∀ w ∈ vx_atN nb, vx_ot w = true)
    (hU : vx_Zq Bundle.tN "UNASSIGNED_STACK" Bundle.steD A s s.heap) (hN : vx_Zq Bundle.tN "SUPPRESSED_SENTINEL" Bundle.listD A s s.heap) (hS : va_S A s.heap H locs) (hsize : ls.size = c.maxLocals)
    (hRframes : 7 < R.frames) (hRlocals : (rest.map fun v => v.category).sum + 10240 ≤ R.locals) (hRcells : cells + 1 ≤ R.cells) (hRslots : slots + nb ≤ R.slots) (hlocks : meth.locks = false)
    (k : ∀ (H1 : Heap) (q9 : Addr) (ce : Cell), H.size ≤ H1.size → (∀ q : Nat, q < H.size → H1[q]? = H[q]?) → va_S A s.heap H1 locs → H1[q9]? = some ce → ce.vm = .none → s.vm.findClass "java/lang/NullPointerException" = some ce.cls → vx_W p l e R s m args below meth c H1 locs (cells + 1) (slots + nb) Q (F0 m pc ls rest) q9) :
    vx_NoteN p l e R s m args below meth c H locs cells slots Q (F0 m pc ls rest) := by
  intro T hT X
  have htr : e.platform.stackTraces = false := (show e.platform.stackTraces = l.stackTraces by rw [X.admits.platform]).trans hl
  have Y := vx_rebase X (R' := { frames := R.frames, locals := R.locals, cells := 1, slots := nb }) (Nat.le_refl _) (Nat.le_refl _) hRcells hRslots
  have hhp : ((T.setVm s.vm).setFrames (.invoking m args :: below)).heap = H := hT
  have hW0 : s.WarmedH ((T.setVm s.vm).setFrames (.invoking m args :: below)).vm := State.WarmedH.refl s
  have hat' : ∀ w ∈ vx_atN nb, w.before args ((T.setVm s.vm).setFrames (.invoking m args :: below)) = true := fun w hw => vx_ot_at hW0 rfl (hgood w hw) (hat w hw)
  have hU' : vx_Zq Bundle.tN "UNASSIGNED_STACK" Bundle.steD A ((T.setVm s.vm).setFrames (.invoking m args :: below)) ((T.setVm s.vm).setFrames (.invoking m args :: below)).heap := by rw [hhp]; exact vx_Zq.moved hW0.alike (hU.kept hS.2.1)
  have hN' : vx_Zq Bundle.tN "SUPPRESSED_SENTINEL" Bundle.listD A ((T.setVm s.vm).setFrames (.invoking m args :: below)) ((T.setVm s.vm).setFrames (.invoking m args :: below)).heap := by rw [hhp]; exact vx_Zq.moved hW0.alike (hN.kept hS.2.1)
  obtain ⟨S, q, ce, st, Z, hce, hcl', hv⟩ := vx_npeAt Y hexec htr (n := nb) (vx_own hat' (vx_isRefq hU'.1) (vx_isRefq hN'.1) hU'.2.word hN'.2.word) (fun x hx => nomatch hx)
    (g := F0 m pc ls rest) rfl hsize hRframes (by show 2 * 0 + (rest.map fun v => v.category).sum + 10240 ≤ R.locals; omega) (by show 0 + 1 ≤ 1; omega) (by show 0 + nb ≤ nb; omega) hlocks
  obtain ⟨f1, f2⟩ := vx_frame Z.same
  have f1' : H.size ≤ S.heap.size := by rw [← hT]; exact f1
  have f2' : ∀ q : Nat, q < H.size → S.heap[q]? = H[q]? := fun q hq => by
    rw [← hT]
    exact f2 q (by rw [← hT] at hq; exact hq) (fun z hz => nomatch hz)
  have X5 := vx_back9 X Y Z
  have X6 : Stand p l e R s m args below meth c S locs (cells + 1) (slots + nb) := { X5 with same := X5.same.mono (by omega) (by omega) }
  obtain ⟨t, a1, b1⟩ := k S.heap q ce f1' f2' ⟨Nat.le_trans hS.1 f1', fun q h1 h2 => (f2' q (Nat.lt_of_lt_of_le h1 hS.1)).trans (hS.2.1 q h1 h2), hS.2.2⟩ hce hv hcl' S rfl X6
  exact ⟨t, st t a1, b1⟩
variable {Q : State → Prop} {cc : ByteArray} {pc : Nat} {ls : Array Slot} {rest : List Value}
theorem vx_idivZ (hexec : p.tables.exec = Jvm.exec) (hb : c.code = cc) {a b : Int32} (h0 : b = 0) (d : decode cc pc = .ok (.idiv, 1)) (k : vx_Note p l e R s m args below meth c H locs cells slots Q (F0 m pc ls rest) "java/lang/ArithmeticException" "/ by zero") :
    W p l e R s m args below meth c H locs cells slots Q (F0 m pc ls (.int b :: .int a :: rest)) := by
  intro T hT X
  obtain ⟨t, st, q⟩ := k T hT X
  exact ⟨t, X.idivZero hexec (g := F0 m pc ls (.int b :: .int a :: rest)) rfl (a := a) (rest := rest) (by rw [h0]) (by rw [hb]; exact d) t st, q⟩
theorem vx_iremZ (hexec : p.tables.exec = Jvm.exec) (hb : c.code = cc) {a b : Int32} (h0 : b = 0) (d : decode cc pc = .ok (.irem, 1)) (k : vx_Note p l e R s m args below meth c H locs cells slots Q (F0 m pc ls rest) "java/lang/ArithmeticException" "/ by zero") :
    W p l e R s m args below meth c H locs cells slots Q (F0 m pc ls (.int b :: .int a :: rest)) := by
  intro T hT X
  obtain ⟨t, st, q⟩ := k T hT X
  exact ⟨t, X.iremZero hexec (g := F0 m pc ls (.int b :: .int a :: rest)) rfl (a := a) (rest := rest) (by rw [h0]) (by rw [hb]; exact d) t st, q⟩
theorem vx_ldivZ (hexec : p.tables.exec = Jvm.exec) (hb : c.code = cc) {a b : Int64} (h0 : b = 0) (d : decode cc pc = .ok (.ldiv, 1)) (k : vx_Note p l e R s m args below meth c H locs cells slots Q (F0 m pc ls rest) "java/lang/ArithmeticException" "/ by zero") :
    W p l e R s m args below meth c H locs cells slots Q (F0 m pc ls (.long b :: .long a :: rest)) := by
  intro T hT X
  obtain ⟨t, st, q⟩ := k T hT X
  exact ⟨t, X.ldivZero hexec (g := F0 m pc ls (.long b :: .long a :: rest)) rfl (a := a) (rest := rest) (by rw [h0]) (by rw [hb]; exact d) t st, q⟩
theorem vx_lremZ (hexec : p.tables.exec = Jvm.exec) (hb : c.code = cc) {a b : Int64} (h0 : b = 0) (d : decode cc pc = .ok (.lrem, 1)) (k : vx_Note p l e R s m args below meth c H locs cells slots Q (F0 m pc ls rest) "java/lang/ArithmeticException" "/ by zero") :
    W p l e R s m args below meth c H locs cells slots Q (F0 m pc ls (.long b :: .long a :: rest)) := by
  intro T hT X
  obtain ⟨t, st, q⟩ := k T hT X
  exact ⟨t, X.lremZero hexec (g := F0 m pc ls (.long b :: .long a :: rest)) rfl (a := a) (rest := rest) (by rw [h0]) (by rw [hb]; exact d) t st, q⟩
theorem vx_ialdZ {D : va_G} {cl : List vw_C} {ws : va_W} {tys : List (ClassId × FieldType)} {a : Nat} (hexec : p.tables.exec = Jvm.exec) (hb : c.code = cc) (hK : va_K D cl tys s) (hP : va_P D cl ws H) (q0 t0 : Nat) {cA : ClassId} {n : Nat} {f : Nat → Int32} (ha : ws[q0]? = some (a, .inl (cA, n, .inl f))) (ht : tys[t0]? = some (cA, .int)) {i : Int32} (hout : ¬ vp_in i n) (hdg : decode cc pc = .ok (.iaload, 1))
    (k : ∀ tx : String, tx = (toString "Index " ++ toString i ++ toString " out of bounds for length " ++ toString n : String) → vx_Note p l e R s m args below meth c H locs cells slots Q (F0 m pc ls rest) "java/lang/ArrayIndexOutOfBoundsException" tx) : W p l e R s m args below meth c H locs cells slots Q (F0 m pc ls (.int i :: .ref a :: rest)) := by
  intro T hT X
  obtain ⟨t, st, q⟩ := k _ rfl T hT X
  refine ⟨t, ?_, q⟩
  have h1 := X.ialoadOut hexec (by rw [hT]; exact hP q0 _ ha) ((hK.2 t0 _ ht).1 n (fun j => .int (f j))) (j := i) (by show (i < 0 ∨ (arrV _ _ _).slots.size ≤ _); rw [arrV_size]; exact Classical.byContradiction hout) (g := F0 m pc ls (.int i :: .ref a :: rest)) rfl (rest := rest) rfl (by rw [hb]; exact hdg) t
  simp only [arrV_size] at h1
  exact h1 st
theorem vx_iastZ {D : va_G} {cl : List vw_C} {ws : va_W} {tys : List (ClassId × FieldType)} {a : Nat} (hexec : p.tables.exec = Jvm.exec) (hb : c.code = cc) (hK : va_K D cl tys s) (hP : va_P D cl ws H) (q0 t0 : Nat) {cA : ClassId} {n : Nat} {f : Nat → Int32} (ha : ws[q0]? = some (a, .inl (cA, n, .inl f))) (ht : tys[t0]? = some (cA, .int)) {i : Int32} {x : Int32} (hout : ¬ vp_in i n) (hdg : decode cc pc = .ok (.iastore, 1))
    (k : ∀ tx : String, tx = (toString "Index " ++ toString i ++ toString " out of bounds for length " ++ toString n : String) → vx_Note p l e R s m args below meth c H locs cells slots Q (F0 m pc ls rest) "java/lang/ArrayIndexOutOfBoundsException" tx) : W p l e R s m args below meth c H locs cells slots Q (F0 m pc ls (.int x :: .int i :: .ref a :: rest)) := by
  intro T hT X
  obtain ⟨t, st, q⟩ := k _ rfl T hT X
  refine ⟨t, ?_, q⟩
  have h1 := X.iastoreOut hexec (by rw [hT]; exact hP q0 _ ha) ((hK.2 t0 _ ht).1 n (fun j => .int (f j))) (j := i) (by show (i < 0 ∨ (arrV _ _ _).slots.size ≤ _); rw [arrV_size]; exact Classical.byContradiction hout) (g := F0 m pc ls (.int x :: .int i :: .ref a :: rest)) rfl (rest := rest) rfl (by rw [hb]; exact hdg) t
  simp only [arrV_size] at h1
  exact h1 st
theorem vx_baldZ {D : va_G} {cl : List vw_C} {ws : va_W} {tys : List (ClassId × FieldType)} {a : Nat} (hexec : p.tables.exec = Jvm.exec) (hb : c.code = cc) (hK : va_K D cl tys s) (hP : va_P D cl ws H) (q0 t0 : Nat) {cA : ClassId} {n : Nat} {f : Nat → Int32} (ha : ws[q0]? = some (a, .inl (cA, n, .inl f))) (ht : tys[t0]? = some (cA, .byte)) {i : Int32} (hout : ¬ vp_in i n) (hdg : decode cc pc = .ok (.baload, 1))
    (k : ∀ tx : String, tx = (toString "Index " ++ toString i ++ toString " out of bounds for length " ++ toString n : String) → vx_Note p l e R s m args below meth c H locs cells slots Q (F0 m pc ls rest) "java/lang/ArrayIndexOutOfBoundsException" tx) : W p l e R s m args below meth c H locs cells slots Q (F0 m pc ls (.int i :: .ref a :: rest)) := by
  intro T hT X
  obtain ⟨t, st, q⟩ := k _ rfl T hT X
  refine ⟨t, ?_, q⟩
  have h1 := X.baloadOut hexec (by rw [hT]; exact hP q0 _ ha) ((hK.2 t0 _ ht).1 n (fun j => .int (f j))) (j := i) (by show (i < 0 ∨ (arrV _ _ _).slots.size ≤ _); rw [arrV_size]; exact Classical.byContradiction hout) (g := F0 m pc ls (.int i :: .ref a :: rest)) rfl (rest := rest) rfl (by rw [hb]; exact hdg) t
  simp only [arrV_size] at h1
  exact h1 st
theorem vx_bastZ {D : va_G} {cl : List vw_C} {ws : va_W} {tys : List (ClassId × FieldType)} {a : Nat} (hexec : p.tables.exec = Jvm.exec) (hb : c.code = cc) (hK : va_K D cl tys s) (hP : va_P D cl ws H) (q0 t0 : Nat) {cA : ClassId} {n : Nat} {f : Nat → Int32} (ha : ws[q0]? = some (a, .inl (cA, n, .inl f))) (ht : tys[t0]? = some (cA, .byte)) {i : Int32} {x : Int32} (hout : ¬ vp_in i n) (hdg : decode cc pc = .ok (.bastore, 1))
    (k : ∀ tx : String, tx = (toString "Index " ++ toString i ++ toString " out of bounds for length " ++ toString n : String) → vx_Note p l e R s m args below meth c H locs cells slots Q (F0 m pc ls rest) "java/lang/ArrayIndexOutOfBoundsException" tx) : W p l e R s m args below meth c H locs cells slots Q (F0 m pc ls (.int x :: .int i :: .ref a :: rest)) := by
  intro T hT X
  obtain ⟨t, st, q⟩ := k _ rfl T hT X
  refine ⟨t, ?_, q⟩
  have h1 := X.bastoreOut hexec (by rw [hT]; exact hP q0 _ ha) ((hK.2 t0 _ ht).1 n (fun j => .int (f j))) (j := i) (by show (i < 0 ∨ (arrV _ _ _).slots.size ≤ _); rw [arrV_size]; exact Classical.byContradiction hout) (g := F0 m pc ls (.int x :: .int i :: .ref a :: rest)) rfl (rest := rest) rfl (by rw [hb]; exact hdg) t
  simp only [arrV_size] at h1
  exact h1 st
theorem vx_zaldZ {D : va_G} {cl : List vw_C} {ws : va_W} {tys : List (ClassId × FieldType)} {a : Nat} (hexec : p.tables.exec = Jvm.exec) (hb : c.code = cc) (hK : va_K D cl tys s) (hP : va_P D cl ws H) (q0 t0 : Nat) {cA : ClassId} {n : Nat} {f : Nat → Int32} (ha : ws[q0]? = some (a, .inl (cA, n, .inl f))) (ht : tys[t0]? = some (cA, .boolean)) {i : Int32} (hout : ¬ vp_in i n) (hdg : decode cc pc = .ok (.baload, 1))
    (k : ∀ tx : String, tx = (toString "Index " ++ toString i ++ toString " out of bounds for length " ++ toString n : String) → vx_Note p l e R s m args below meth c H locs cells slots Q (F0 m pc ls rest) "java/lang/ArrayIndexOutOfBoundsException" tx) : W p l e R s m args below meth c H locs cells slots Q (F0 m pc ls (.int i :: .ref a :: rest)) := by
  intro T hT X
  obtain ⟨t, st, q⟩ := k _ rfl T hT X
  refine ⟨t, ?_, q⟩
  have h1 := X.baloadOut hexec (by rw [hT]; exact hP q0 _ ha) ((hK.2 t0 _ ht).1 n (fun j => .int (f j))) (j := i) (by show (i < 0 ∨ (arrV _ _ _).slots.size ≤ _); rw [arrV_size]; exact Classical.byContradiction hout) (g := F0 m pc ls (.int i :: .ref a :: rest)) rfl (rest := rest) rfl (by rw [hb]; exact hdg) t
  simp only [arrV_size] at h1
  exact h1 st
theorem vx_zastZ {D : va_G} {cl : List vw_C} {ws : va_W} {tys : List (ClassId × FieldType)} {a : Nat} (hexec : p.tables.exec = Jvm.exec) (hb : c.code = cc) (hK : va_K D cl tys s) (hP : va_P D cl ws H) (q0 t0 : Nat) {cA : ClassId} {n : Nat} {f : Nat → Int32} (ha : ws[q0]? = some (a, .inl (cA, n, .inl f))) (ht : tys[t0]? = some (cA, .boolean)) {i : Int32} {x : Int32} (hout : ¬ vp_in i n) (hdg : decode cc pc = .ok (.bastore, 1))
    (k : ∀ tx : String, tx = (toString "Index " ++ toString i ++ toString " out of bounds for length " ++ toString n : String) → vx_Note p l e R s m args below meth c H locs cells slots Q (F0 m pc ls rest) "java/lang/ArrayIndexOutOfBoundsException" tx) : W p l e R s m args below meth c H locs cells slots Q (F0 m pc ls (.int x :: .int i :: .ref a :: rest)) := by
  intro T hT X
  obtain ⟨t, st, q⟩ := k _ rfl T hT X
  refine ⟨t, ?_, q⟩
  have h1 := X.bastoreOut hexec (by rw [hT]; exact hP q0 _ ha) ((hK.2 t0 _ ht).1 n (fun j => .int (f j))) (j := i) (by show (i < 0 ∨ (arrV _ _ _).slots.size ≤ _); rw [arrV_size]; exact Classical.byContradiction hout) (g := F0 m pc ls (.int x :: .int i :: .ref a :: rest)) rfl (rest := rest) rfl (by rw [hb]; exact hdg) t
  simp only [arrV_size] at h1
  exact h1 st
theorem vx_caldZ {D : va_G} {cl : List vw_C} {ws : va_W} {tys : List (ClassId × FieldType)} {a : Nat} (hexec : p.tables.exec = Jvm.exec) (hb : c.code = cc) (hK : va_K D cl tys s) (hP : va_P D cl ws H) (q0 t0 : Nat) {cA : ClassId} {n : Nat} {f : Nat → Int32} (ha : ws[q0]? = some (a, .inl (cA, n, .inl f))) (ht : tys[t0]? = some (cA, .char)) {i : Int32} (hout : ¬ vp_in i n) (hdg : decode cc pc = .ok (.caload, 1))
    (k : ∀ tx : String, tx = (toString "Index " ++ toString i ++ toString " out of bounds for length " ++ toString n : String) → vx_Note p l e R s m args below meth c H locs cells slots Q (F0 m pc ls rest) "java/lang/ArrayIndexOutOfBoundsException" tx) : W p l e R s m args below meth c H locs cells slots Q (F0 m pc ls (.int i :: .ref a :: rest)) := by
  intro T hT X
  obtain ⟨t, st, q⟩ := k _ rfl T hT X
  refine ⟨t, ?_, q⟩
  have h1 := X.caloadOut hexec (by rw [hT]; exact hP q0 _ ha) ((hK.2 t0 _ ht).1 n (fun j => .int (f j))) (j := i) (by show (i < 0 ∨ (arrV _ _ _).slots.size ≤ _); rw [arrV_size]; exact Classical.byContradiction hout) (g := F0 m pc ls (.int i :: .ref a :: rest)) rfl (rest := rest) rfl (by rw [hb]; exact hdg) t
  simp only [arrV_size] at h1
  exact h1 st
theorem vx_castZ {D : va_G} {cl : List vw_C} {ws : va_W} {tys : List (ClassId × FieldType)} {a : Nat} (hexec : p.tables.exec = Jvm.exec) (hb : c.code = cc) (hK : va_K D cl tys s) (hP : va_P D cl ws H) (q0 t0 : Nat) {cA : ClassId} {n : Nat} {f : Nat → Int32} (ha : ws[q0]? = some (a, .inl (cA, n, .inl f))) (ht : tys[t0]? = some (cA, .char)) {i : Int32} {x : Int32} (hout : ¬ vp_in i n) (hdg : decode cc pc = .ok (.castore, 1))
    (k : ∀ tx : String, tx = (toString "Index " ++ toString i ++ toString " out of bounds for length " ++ toString n : String) → vx_Note p l e R s m args below meth c H locs cells slots Q (F0 m pc ls rest) "java/lang/ArrayIndexOutOfBoundsException" tx) : W p l e R s m args below meth c H locs cells slots Q (F0 m pc ls (.int x :: .int i :: .ref a :: rest)) := by
  intro T hT X
  obtain ⟨t, st, q⟩ := k _ rfl T hT X
  refine ⟨t, ?_, q⟩
  have h1 := X.castoreOut hexec (by rw [hT]; exact hP q0 _ ha) ((hK.2 t0 _ ht).1 n (fun j => .int (f j))) (j := i) (by show (i < 0 ∨ (arrV _ _ _).slots.size ≤ _); rw [arrV_size]; exact Classical.byContradiction hout) (g := F0 m pc ls (.int x :: .int i :: .ref a :: rest)) rfl (rest := rest) rfl (by rw [hb]; exact hdg) t
  simp only [arrV_size] at h1
  exact h1 st
theorem vx_saldZ {D : va_G} {cl : List vw_C} {ws : va_W} {tys : List (ClassId × FieldType)} {a : Nat} (hexec : p.tables.exec = Jvm.exec) (hb : c.code = cc) (hK : va_K D cl tys s) (hP : va_P D cl ws H) (q0 t0 : Nat) {cA : ClassId} {n : Nat} {f : Nat → Int32} (ha : ws[q0]? = some (a, .inl (cA, n, .inl f))) (ht : tys[t0]? = some (cA, .short)) {i : Int32} (hout : ¬ vp_in i n) (hdg : decode cc pc = .ok (.saload, 1))
    (k : ∀ tx : String, tx = (toString "Index " ++ toString i ++ toString " out of bounds for length " ++ toString n : String) → vx_Note p l e R s m args below meth c H locs cells slots Q (F0 m pc ls rest) "java/lang/ArrayIndexOutOfBoundsException" tx) : W p l e R s m args below meth c H locs cells slots Q (F0 m pc ls (.int i :: .ref a :: rest)) := by
  intro T hT X
  obtain ⟨t, st, q⟩ := k _ rfl T hT X
  refine ⟨t, ?_, q⟩
  have h1 := X.saloadOut hexec (by rw [hT]; exact hP q0 _ ha) ((hK.2 t0 _ ht).1 n (fun j => .int (f j))) (j := i) (by show (i < 0 ∨ (arrV _ _ _).slots.size ≤ _); rw [arrV_size]; exact Classical.byContradiction hout) (g := F0 m pc ls (.int i :: .ref a :: rest)) rfl (rest := rest) rfl (by rw [hb]; exact hdg) t
  simp only [arrV_size] at h1
  exact h1 st
theorem vx_sastZ {D : va_G} {cl : List vw_C} {ws : va_W} {tys : List (ClassId × FieldType)} {a : Nat} (hexec : p.tables.exec = Jvm.exec) (hb : c.code = cc) (hK : va_K D cl tys s) (hP : va_P D cl ws H) (q0 t0 : Nat) {cA : ClassId} {n : Nat} {f : Nat → Int32} (ha : ws[q0]? = some (a, .inl (cA, n, .inl f))) (ht : tys[t0]? = some (cA, .short)) {i : Int32} {x : Int32} (hout : ¬ vp_in i n) (hdg : decode cc pc = .ok (.sastore, 1))
    (k : ∀ tx : String, tx = (toString "Index " ++ toString i ++ toString " out of bounds for length " ++ toString n : String) → vx_Note p l e R s m args below meth c H locs cells slots Q (F0 m pc ls rest) "java/lang/ArrayIndexOutOfBoundsException" tx) : W p l e R s m args below meth c H locs cells slots Q (F0 m pc ls (.int x :: .int i :: .ref a :: rest)) := by
  intro T hT X
  obtain ⟨t, st, q⟩ := k _ rfl T hT X
  refine ⟨t, ?_, q⟩
  have h1 := X.sastoreOut hexec (by rw [hT]; exact hP q0 _ ha) ((hK.2 t0 _ ht).1 n (fun j => .int (f j))) (j := i) (by show (i < 0 ∨ (arrV _ _ _).slots.size ≤ _); rw [arrV_size]; exact Classical.byContradiction hout) (g := F0 m pc ls (.int x :: .int i :: .ref a :: rest)) rfl (rest := rest) rfl (by rw [hb]; exact hdg) t
  simp only [arrV_size] at h1
  exact h1 st
theorem vx_laldZ {D : va_G} {cl : List vw_C} {ws : va_W} {tys : List (ClassId × FieldType)} {a : Nat} (hexec : p.tables.exec = Jvm.exec) (hb : c.code = cc) (hK : va_K D cl tys s) (hP : va_P D cl ws H) (q0 t0 : Nat) {cA : ClassId} {n : Nat} {f : Nat → Int64} (ha : ws[q0]? = some (a, .inl (cA, n, .inr (.inl f)))) (ht : tys[t0]? = some (cA, .long)) {i : Int32} (hout : ¬ vp_in i n) (hdg : decode cc pc = .ok (.laload, 1))
    (k : ∀ tx : String, tx = (toString "Index " ++ toString i ++ toString " out of bounds for length " ++ toString n : String) → vx_Note p l e R s m args below meth c H locs cells slots Q (F0 m pc ls rest) "java/lang/ArrayIndexOutOfBoundsException" tx) : W p l e R s m args below meth c H locs cells slots Q (F0 m pc ls (.int i :: .ref a :: rest)) := by
  intro T hT X
  obtain ⟨t, st, q⟩ := k _ rfl T hT X
  refine ⟨t, ?_, q⟩
  have h1 := X.laloadOut hexec (by rw [hT]; exact hP q0 _ ha) ((hK.2 t0 _ ht).1 n (fun j => .long (f j))) (j := i) (by show (i < 0 ∨ (arrV _ _ _).slots.size ≤ _); rw [arrV_size]; exact Classical.byContradiction hout) (g := F0 m pc ls (.int i :: .ref a :: rest)) rfl (rest := rest) rfl (by rw [hb]; exact hdg) t
  simp only [arrV_size] at h1
  exact h1 st
theorem vx_lastZ {D : va_G} {cl : List vw_C} {ws : va_W} {tys : List (ClassId × FieldType)} {a : Nat} (hexec : p.tables.exec = Jvm.exec) (hb : c.code = cc) (hK : va_K D cl tys s) (hP : va_P D cl ws H) (q0 t0 : Nat) {cA : ClassId} {n : Nat} {f : Nat → Int64} (ha : ws[q0]? = some (a, .inl (cA, n, .inr (.inl f)))) (ht : tys[t0]? = some (cA, .long)) {i : Int32} {x : Int64} (hout : ¬ vp_in i n) (hdg : decode cc pc = .ok (.lastore, 1))
    (k : ∀ tx : String, tx = (toString "Index " ++ toString i ++ toString " out of bounds for length " ++ toString n : String) → vx_Note p l e R s m args below meth c H locs cells slots Q (F0 m pc ls rest) "java/lang/ArrayIndexOutOfBoundsException" tx) : W p l e R s m args below meth c H locs cells slots Q (F0 m pc ls (.long x :: .int i :: .ref a :: rest)) := by
  intro T hT X
  obtain ⟨t, st, q⟩ := k _ rfl T hT X
  refine ⟨t, ?_, q⟩
  have h1 := X.lastoreOut hexec (by rw [hT]; exact hP q0 _ ha) ((hK.2 t0 _ ht).1 n (fun j => .long (f j))) (j := i) (by show (i < 0 ∨ (arrV _ _ _).slots.size ≤ _); rw [arrV_size]; exact Classical.byContradiction hout) (g := F0 m pc ls (.long x :: .int i :: .ref a :: rest)) rfl (rest := rest) rfl (by rw [hb]; exact hdg) t
  simp only [arrV_size] at h1
  exact h1 st
theorem vx_faldZ {D : va_G} {cl : List vw_C} {ws : va_W} {tys : List (ClassId × FieldType)} {a : Nat} (hexec : p.tables.exec = Jvm.exec) (hb : c.code = cc) (hK : va_K D cl tys s) (hP : va_P D cl ws H) (q0 t0 : Nat) {cA : ClassId} {n : Nat} {f : Nat → UInt32} (ha : ws[q0]? = some (a, .inl (cA, n, .inr (.inr (.inl f))))) (ht : tys[t0]? = some (cA, .float)) {i : Int32} (hout : ¬ vp_in i n) (hdg : decode cc pc = .ok (.faload, 1))
    (k : ∀ tx : String, tx = (toString "Index " ++ toString i ++ toString " out of bounds for length " ++ toString n : String) → vx_Note p l e R s m args below meth c H locs cells slots Q (F0 m pc ls rest) "java/lang/ArrayIndexOutOfBoundsException" tx) : W p l e R s m args below meth c H locs cells slots Q (F0 m pc ls (.int i :: .ref a :: rest)) := by
  intro T hT X
  obtain ⟨t, st, q⟩ := k _ rfl T hT X
  refine ⟨t, ?_, q⟩
  have h1 := X.faloadOut hexec (by rw [hT]; exact hP q0 _ ha) ((hK.2 t0 _ ht).1 n (fun j => .float (f j))) (j := i) (by show (i < 0 ∨ (arrV _ _ _).slots.size ≤ _); rw [arrV_size]; exact Classical.byContradiction hout) (g := F0 m pc ls (.int i :: .ref a :: rest)) rfl (rest := rest) rfl (by rw [hb]; exact hdg) t
  simp only [arrV_size] at h1
  exact h1 st
theorem vx_fastZ {D : va_G} {cl : List vw_C} {ws : va_W} {tys : List (ClassId × FieldType)} {a : Nat} (hexec : p.tables.exec = Jvm.exec) (hb : c.code = cc) (hK : va_K D cl tys s) (hP : va_P D cl ws H) (q0 t0 : Nat) {cA : ClassId} {n : Nat} {f : Nat → UInt32} (ha : ws[q0]? = some (a, .inl (cA, n, .inr (.inr (.inl f))))) (ht : tys[t0]? = some (cA, .float)) {i : Int32} {x : UInt32} (hout : ¬ vp_in i n) (hdg : decode cc pc = .ok (.fastore, 1))
    (k : ∀ tx : String, tx = (toString "Index " ++ toString i ++ toString " out of bounds for length " ++ toString n : String) → vx_Note p l e R s m args below meth c H locs cells slots Q (F0 m pc ls rest) "java/lang/ArrayIndexOutOfBoundsException" tx) : W p l e R s m args below meth c H locs cells slots Q (F0 m pc ls (.float x :: .int i :: .ref a :: rest)) := by
  intro T hT X
  obtain ⟨t, st, q⟩ := k _ rfl T hT X
  refine ⟨t, ?_, q⟩
  have h1 := X.fastoreOut hexec (by rw [hT]; exact hP q0 _ ha) ((hK.2 t0 _ ht).1 n (fun j => .float (f j))) (j := i) (by show (i < 0 ∨ (arrV _ _ _).slots.size ≤ _); rw [arrV_size]; exact Classical.byContradiction hout) (g := F0 m pc ls (.float x :: .int i :: .ref a :: rest)) rfl (rest := rest) rfl (by rw [hb]; exact hdg) t
  simp only [arrV_size] at h1
  exact h1 st
theorem vx_daldZ {D : va_G} {cl : List vw_C} {ws : va_W} {tys : List (ClassId × FieldType)} {a : Nat} (hexec : p.tables.exec = Jvm.exec) (hb : c.code = cc) (hK : va_K D cl tys s) (hP : va_P D cl ws H) (q0 t0 : Nat) {cA : ClassId} {n : Nat} {f : Nat → UInt64} (ha : ws[q0]? = some (a, .inl (cA, n, .inr (.inr (.inr (.inl f)))))) (ht : tys[t0]? = some (cA, .double)) {i : Int32} (hout : ¬ vp_in i n) (hdg : decode cc pc = .ok (.daload, 1))
    (k : ∀ tx : String, tx = (toString "Index " ++ toString i ++ toString " out of bounds for length " ++ toString n : String) → vx_Note p l e R s m args below meth c H locs cells slots Q (F0 m pc ls rest) "java/lang/ArrayIndexOutOfBoundsException" tx) : W p l e R s m args below meth c H locs cells slots Q (F0 m pc ls (.int i :: .ref a :: rest)) := by
  intro T hT X
  obtain ⟨t, st, q⟩ := k _ rfl T hT X
  refine ⟨t, ?_, q⟩
  have h1 := X.daloadOut hexec (by rw [hT]; exact hP q0 _ ha) ((hK.2 t0 _ ht).1 n (fun j => .double (f j))) (j := i) (by show (i < 0 ∨ (arrV _ _ _).slots.size ≤ _); rw [arrV_size]; exact Classical.byContradiction hout) (g := F0 m pc ls (.int i :: .ref a :: rest)) rfl (rest := rest) rfl (by rw [hb]; exact hdg) t
  simp only [arrV_size] at h1
  exact h1 st
theorem vx_dastZ {D : va_G} {cl : List vw_C} {ws : va_W} {tys : List (ClassId × FieldType)} {a : Nat} (hexec : p.tables.exec = Jvm.exec) (hb : c.code = cc) (hK : va_K D cl tys s) (hP : va_P D cl ws H) (q0 t0 : Nat) {cA : ClassId} {n : Nat} {f : Nat → UInt64} (ha : ws[q0]? = some (a, .inl (cA, n, .inr (.inr (.inr (.inl f)))))) (ht : tys[t0]? = some (cA, .double)) {i : Int32} {x : UInt64} (hout : ¬ vp_in i n) (hdg : decode cc pc = .ok (.dastore, 1))
    (k : ∀ tx : String, tx = (toString "Index " ++ toString i ++ toString " out of bounds for length " ++ toString n : String) → vx_Note p l e R s m args below meth c H locs cells slots Q (F0 m pc ls rest) "java/lang/ArrayIndexOutOfBoundsException" tx) : W p l e R s m args below meth c H locs cells slots Q (F0 m pc ls (.double x :: .int i :: .ref a :: rest)) := by
  intro T hT X
  obtain ⟨t, st, q⟩ := k _ rfl T hT X
  refine ⟨t, ?_, q⟩
  have h1 := X.dastoreOut hexec (by rw [hT]; exact hP q0 _ ha) ((hK.2 t0 _ ht).1 n (fun j => .double (f j))) (j := i) (by show (i < 0 ∨ (arrV _ _ _).slots.size ≤ _); rw [arrV_size]; exact Classical.byContradiction hout) (g := F0 m pc ls (.double x :: .int i :: .ref a :: rest)) rfl (rest := rest) rfl (by rw [hb]; exact hdg) t
  simp only [arrV_size] at h1
  exact h1 st
theorem vx_arraylengthN (hexec : p.tables.exec = Jvm.exec) (hb : c.code = cc) (hdg : decode cc pc = .ok (.arraylength, 1)) (k : vx_NoteN p l e R s m args below meth c H locs cells slots Q (F0 m pc ls rest)) : W p l e R s m args below meth c H locs cells slots Q (F0 m pc ls (.null :: rest)) := by
  intro T hT X
  obtain ⟨t, st, q⟩ := k T hT X
  exact ⟨t, X.arraylengthNull hexec (g := F0 m pc ls (.null :: rest)) rfl (rest := rest) rfl (by rw [hb]; exact hdg) t st, q⟩
theorem vx_ialoadN (hexec : p.tables.exec = Jvm.exec) (hb : c.code = cc) {i : Int32} (hdg : decode cc pc = .ok (.iaload, 1)) (k : vx_NoteN p l e R s m args below meth c H locs cells slots Q (F0 m pc ls rest)) : W p l e R s m args below meth c H locs cells slots Q (F0 m pc ls (.int i :: .null :: rest)) := by
  intro T hT X
  obtain ⟨t, st, q⟩ := k T hT X
  exact ⟨t, X.ialoadNull hexec (g := F0 m pc ls (.int i :: .null :: rest)) rfl (rest := rest) rfl (by rw [hb]; exact hdg) t st, q⟩
theorem vx_laloadN (hexec : p.tables.exec = Jvm.exec) (hb : c.code = cc) {i : Int32} (hdg : decode cc pc = .ok (.laload, 1)) (k : vx_NoteN p l e R s m args below meth c H locs cells slots Q (F0 m pc ls rest)) : W p l e R s m args below meth c H locs cells slots Q (F0 m pc ls (.int i :: .null :: rest)) := by
  intro T hT X
  obtain ⟨t, st, q⟩ := k T hT X
  exact ⟨t, X.laloadNull hexec (g := F0 m pc ls (.int i :: .null :: rest)) rfl (rest := rest) rfl (by rw [hb]; exact hdg) t st, q⟩
theorem vx_faloadN (hexec : p.tables.exec = Jvm.exec) (hb : c.code = cc) {i : Int32} (hdg : decode cc pc = .ok (.faload, 1)) (k : vx_NoteN p l e R s m args below meth c H locs cells slots Q (F0 m pc ls rest)) : W p l e R s m args below meth c H locs cells slots Q (F0 m pc ls (.int i :: .null :: rest)) := by
  intro T hT X
  obtain ⟨t, st, q⟩ := k T hT X
  exact ⟨t, X.faloadNull hexec (g := F0 m pc ls (.int i :: .null :: rest)) rfl (rest := rest) rfl (by rw [hb]; exact hdg) t st, q⟩
theorem vx_daloadN (hexec : p.tables.exec = Jvm.exec) (hb : c.code = cc) {i : Int32} (hdg : decode cc pc = .ok (.daload, 1)) (k : vx_NoteN p l e R s m args below meth c H locs cells slots Q (F0 m pc ls rest)) : W p l e R s m args below meth c H locs cells slots Q (F0 m pc ls (.int i :: .null :: rest)) := by
  intro T hT X
  obtain ⟨t, st, q⟩ := k T hT X
  exact ⟨t, X.daloadNull hexec (g := F0 m pc ls (.int i :: .null :: rest)) rfl (rest := rest) rfl (by rw [hb]; exact hdg) t st, q⟩
theorem vx_aaloadN (hexec : p.tables.exec = Jvm.exec) (hb : c.code = cc) {i : Int32} (hdg : decode cc pc = .ok (.aaload, 1)) (k : vx_NoteN p l e R s m args below meth c H locs cells slots Q (F0 m pc ls rest)) : W p l e R s m args below meth c H locs cells slots Q (F0 m pc ls (.int i :: .null :: rest)) := by
  intro T hT X
  obtain ⟨t, st, q⟩ := k T hT X
  exact ⟨t, X.aaloadNull hexec (g := F0 m pc ls (.int i :: .null :: rest)) rfl (rest := rest) rfl (by rw [hb]; exact hdg) t st, q⟩
theorem vx_baloadN (hexec : p.tables.exec = Jvm.exec) (hb : c.code = cc) {i : Int32} (hdg : decode cc pc = .ok (.baload, 1)) (k : vx_NoteN p l e R s m args below meth c H locs cells slots Q (F0 m pc ls rest)) : W p l e R s m args below meth c H locs cells slots Q (F0 m pc ls (.int i :: .null :: rest)) := by
  intro T hT X
  obtain ⟨t, st, q⟩ := k T hT X
  exact ⟨t, X.baloadNull hexec (g := F0 m pc ls (.int i :: .null :: rest)) rfl (rest := rest) rfl (by rw [hb]; exact hdg) t st, q⟩
theorem vx_caloadN (hexec : p.tables.exec = Jvm.exec) (hb : c.code = cc) {i : Int32} (hdg : decode cc pc = .ok (.caload, 1)) (k : vx_NoteN p l e R s m args below meth c H locs cells slots Q (F0 m pc ls rest)) : W p l e R s m args below meth c H locs cells slots Q (F0 m pc ls (.int i :: .null :: rest)) := by
  intro T hT X
  obtain ⟨t, st, q⟩ := k T hT X
  exact ⟨t, X.caloadNull hexec (g := F0 m pc ls (.int i :: .null :: rest)) rfl (rest := rest) rfl (by rw [hb]; exact hdg) t st, q⟩
theorem vx_saloadN (hexec : p.tables.exec = Jvm.exec) (hb : c.code = cc) {i : Int32} (hdg : decode cc pc = .ok (.saload, 1)) (k : vx_NoteN p l e R s m args below meth c H locs cells slots Q (F0 m pc ls rest)) : W p l e R s m args below meth c H locs cells slots Q (F0 m pc ls (.int i :: .null :: rest)) := by
  intro T hT X
  obtain ⟨t, st, q⟩ := k T hT X
  exact ⟨t, X.saloadNull hexec (g := F0 m pc ls (.int i :: .null :: rest)) rfl (rest := rest) rfl (by rw [hb]; exact hdg) t st, q⟩
theorem vx_iastoreN (hexec : p.tables.exec = Jvm.exec) (hb : c.code = cc) {x : Int32} {i : Int32} (hdg : decode cc pc = .ok (.iastore, 1)) (k : vx_NoteN p l e R s m args below meth c H locs cells slots Q (F0 m pc ls rest)) : W p l e R s m args below meth c H locs cells slots Q (F0 m pc ls (.int x :: .int i :: .null :: rest)) := by
  intro T hT X
  obtain ⟨t, st, q⟩ := k T hT X
  exact ⟨t, X.iastoreNull hexec (g := F0 m pc ls (.int x :: .int i :: .null :: rest)) rfl (rest := rest) rfl (by rw [hb]; exact hdg) t st, q⟩
theorem vx_lastoreN (hexec : p.tables.exec = Jvm.exec) (hb : c.code = cc) {x : Int64} {i : Int32} (hdg : decode cc pc = .ok (.lastore, 1)) (k : vx_NoteN p l e R s m args below meth c H locs cells slots Q (F0 m pc ls rest)) : W p l e R s m args below meth c H locs cells slots Q (F0 m pc ls (.long x :: .int i :: .null :: rest)) := by
  intro T hT X
  obtain ⟨t, st, q⟩ := k T hT X
  exact ⟨t, X.lastoreNull hexec (g := F0 m pc ls (.long x :: .int i :: .null :: rest)) rfl (rest := rest) rfl (by rw [hb]; exact hdg) t st, q⟩
theorem vx_fastoreN (hexec : p.tables.exec = Jvm.exec) (hb : c.code = cc) {x : UInt32} {i : Int32} (hdg : decode cc pc = .ok (.fastore, 1)) (k : vx_NoteN p l e R s m args below meth c H locs cells slots Q (F0 m pc ls rest)) : W p l e R s m args below meth c H locs cells slots Q (F0 m pc ls (.float x :: .int i :: .null :: rest)) := by
  intro T hT X
  obtain ⟨t, st, q⟩ := k T hT X
  exact ⟨t, X.fastoreNull hexec (g := F0 m pc ls (.float x :: .int i :: .null :: rest)) rfl (rest := rest) rfl (by rw [hb]; exact hdg) t st, q⟩
theorem vx_dastoreN (hexec : p.tables.exec = Jvm.exec) (hb : c.code = cc) {x : UInt64} {i : Int32} (hdg : decode cc pc = .ok (.dastore, 1)) (k : vx_NoteN p l e R s m args below meth c H locs cells slots Q (F0 m pc ls rest)) : W p l e R s m args below meth c H locs cells slots Q (F0 m pc ls (.double x :: .int i :: .null :: rest)) := by
  intro T hT X
  obtain ⟨t, st, q⟩ := k T hT X
  exact ⟨t, X.dastoreNull hexec (g := F0 m pc ls (.double x :: .int i :: .null :: rest)) rfl (rest := rest) rfl (by rw [hb]; exact hdg) t st, q⟩
theorem vx_bastoreN (hexec : p.tables.exec = Jvm.exec) (hb : c.code = cc) {x : Int32} {i : Int32} (hdg : decode cc pc = .ok (.bastore, 1)) (k : vx_NoteN p l e R s m args below meth c H locs cells slots Q (F0 m pc ls rest)) : W p l e R s m args below meth c H locs cells slots Q (F0 m pc ls (.int x :: .int i :: .null :: rest)) := by
  intro T hT X
  obtain ⟨t, st, q⟩ := k T hT X
  exact ⟨t, X.bastoreNull hexec (g := F0 m pc ls (.int x :: .int i :: .null :: rest)) rfl (rest := rest) rfl (by rw [hb]; exact hdg) t st, q⟩
theorem vx_castoreN (hexec : p.tables.exec = Jvm.exec) (hb : c.code = cc) {x : Int32} {i : Int32} (hdg : decode cc pc = .ok (.castore, 1)) (k : vx_NoteN p l e R s m args below meth c H locs cells slots Q (F0 m pc ls rest)) : W p l e R s m args below meth c H locs cells slots Q (F0 m pc ls (.int x :: .int i :: .null :: rest)) := by
  intro T hT X
  obtain ⟨t, st, q⟩ := k T hT X
  exact ⟨t, X.castoreNull hexec (g := F0 m pc ls (.int x :: .int i :: .null :: rest)) rfl (rest := rest) rfl (by rw [hb]; exact hdg) t st, q⟩
theorem vx_sastoreN (hexec : p.tables.exec = Jvm.exec) (hb : c.code = cc) {x : Int32} {i : Int32} (hdg : decode cc pc = .ok (.sastore, 1)) (k : vx_NoteN p l e R s m args below meth c H locs cells slots Q (F0 m pc ls rest)) : W p l e R s m args below meth c H locs cells slots Q (F0 m pc ls (.int x :: .int i :: .null :: rest)) := by
  intro T hT X
  obtain ⟨t, st, q⟩ := k T hT X
  exact ⟨t, X.sastoreNull hexec (g := F0 m pc ls (.int x :: .int i :: .null :: rest)) rfl (rest := rest) rfl (by rw [hb]; exact hdg) t st, q⟩
theorem vx_invokeN {own C : String} {index maxL : Nat} {y : MethodName} {bytes : ByteArray} {ret : Option FieldType} (hexec : p.tables.exec = Jvm.exec) (hb : c.code = cc) (hown : s.vm.findClass own = some m.cls) (hlink : (Cond.methodLink own index y).before args s = true) (hinst : (Cond.instanceMethod y).before args s = true) (hcode : (Cond.code y bytes maxL ret).before args s = true) (hsel : (Cond.selects C y y).before args s = true)
    (hx : y.cls ≠ "java/lang/invoke/MethodHandle" ∧ y.cls ≠ "java/lang/invoke/VarHandle") {As : List Value} (hlen : (parseMethodDescriptor y.desc).map (fun d => d.parameters.length) = some As.length) (hdg : decode cc pc = .ok (.invokevirtual index, 3))
    (k : vx_NoteN p l e R s m args below meth c H locs cells slots Q (F0 m pc ls rest)) {st0 : List Value} (hst : st0 = As.reverse ++ .null :: rest) : W p l e R s m args below meth c H locs cells slots Q (F0 m pc ls st0) := by
  intro T hT X
  obtain ⟨r0, r, hn, hrm, hstR, hsigR⟩ := va_Decl.of hinst hcode
  obtain ⟨c2, r2, m2, q1, q2, q3, q4, kP, hkP, hkPi⟩ := Cond.selects_spec hsel
  cases hn.symm.trans q3
  have hl9 : As.length = r.sig.parameters.length := by
    rw [hsigR] at hlen
    exact (Option.some.inj hlen).symm
  obtain ⟨vm', X1, st1⟩ := X.invokevirtualNull hexec hown hlink hn hrm hstR hkP hkPi hx (g := F0 m pc ls st0) rfl (argsL := As) (rest := rest) hl9 hst (by rw [hb]; exact hdg)
  obtain ⟨t, st, q⟩ := k (T.setVm vm') hT X1
  exact ⟨t, st1 t st, q⟩
theorem vx_newarrayZ {atype : ArrayType} (hexec : p.tables.exec = Jvm.exec) (hb : c.code = cc) {n : Int32} (h0 : n < 0) (hdg : decode cc pc = .ok (.newarray atype, 2)) (k : ∀ tx : String, tx = toString n → vx_Note p l e R s m args below meth c H locs cells slots Q (F0 m pc ls rest) "java/lang/NegativeArraySizeException" tx) : W p l e R s m args below meth c H locs cells slots Q (F0 m pc ls (.int n :: rest)) := by
  intro T hT X
  obtain ⟨t, st, q⟩ := k _ rfl T hT X
  exact ⟨t, X.newarrayNegative hexec (g := F0 m pc ls (.int n :: rest)) rfl h0 (rest := rest) rfl (by rw [hb]; exact hdg) t st, q⟩
end
end VXM
/-! ===== BEGIN printed: names, fields, word lists, decode rows ===== -/
def RX0 : String := "BargeRiver$Barge"
def TX0 : u_T := fun k => match k with
  | 0 => ("BargeRiver$Barge", "number", "I", true)
  | 1 => ("BargeRiver$Barge", "length", "I", true)
  | 2 => ("BargeRiver$Barge", "emptyDraught", "I", true)
  | 3 => ("BargeRiver$Barge", "tonsPerDecimetre", "I", true)
  | 4 => ("BargeRiver$Barge", "reach", "I", false)
  | 5 => ("BargeRiver$Barge", "cargo", "I", false)
  | 6 => ("BargeRiver$Barge", "ahead", "LBargeRiver$Barge;", false)
  | _ => ("BargeRiver$Barge", "behind", "LBargeRiver$Barge;", false)
def tyX0 : Nat → FieldType := fun k => match k with
  | 0 => .int
  | 1 => .int
  | 2 => .int
  | 3 => .int
  | 4 => .int
  | 5 => .int
  | 6 => .object "BargeRiver$Barge"
  | _ => .object "BargeRiver$Barge"
abbrev wsX00 : List Cond := u_ws RX0 TX0 8
theorem nmX0 : ∀ a, a < 8 → ∀ b, b < 8 → a ≠ b → (TX0 a).2.1 ≠ (TX0 b).2.1 := by decide +kernel
theorem tyX0_ok : ∀ k, k < 8 → parseFieldDescriptor (TX0 k).2.2.1 = some (tyX0 k) := by decide +kernel
abbrev cX0_init : ByteArray := prog_2_method_1_code
def yX0_init : MethodName := ⟨RX0, "<init>", "(IIIII)V"⟩
abbrev cX0_draught : ByteArray := prog_2_method_2_code
def yX0_draught : MethodName := ⟨RX0, "draught", "()I"⟩
abbrev cX0_draughtWith : ByteArray := prog_2_method_3_code
def yX0_draughtWith : MethodName := ⟨RX0, "draughtWith", "(I)I"⟩
abbrev cX0_greatestCargo : ByteArray := prog_2_method_4_code
def yX0_greatestCargo : MethodName := ⟨RX0, "greatestCargo", "(I)I"⟩
abbrev cX0_first : ByteArray := prog_2_method_5_code
def yX0_first : MethodName := ⟨RX0, "first", "()LBargeRiver$Barge;"⟩
abbrev cX0_last : ByteArray := prog_2_method_6_code
def yX0_last : MethodName := ⟨RX0, "last", "()LBargeRiver$Barge;"⟩
abbrev cX0_chainSize : ByteArray := prog_2_method_7_code
def yX0_chainSize : MethodName := ⟨RX0, "chainSize", "()I"⟩
abbrev cX0_greatestLength : ByteArray := prog_2_method_8_code
def yX0_greatestLength : MethodName := ⟨RX0, "greatestLength", "()I"⟩
abbrev cX0_greatestDraught : ByteArray := prog_2_method_9_code
def yX0_greatestDraught : MethodName := ⟨RX0, "greatestDraught", "(LBargeRiver$Barge;)I"⟩
abbrev cX0_nextPart : ByteArray := prog_2_method_10_code
def yX0_nextPart : MethodName := ⟨RX0, "nextPart", "(I)LBargeRiver$Barge;"⟩
abbrev cX0_parts : ByteArray := prog_2_method_11_code
def yX0_parts : MethodName := ⟨RX0, "parts", "(I)I"⟩
def RX1 : String := "BargeRiver$Movements"
def TX1 : u_T := fun k => match k with
  | 0 => ("BargeRiver$Movements", "froms", "[I", false)
  | 1 => ("BargeRiver$Movements", "tos", "[I", false)
  | 2 => ("BargeRiver$Movements", "volumes", "[I", false)
  | _ => ("BargeRiver$Movements", "count", "I", false)
def tyX1 : Nat → FieldType := fun k => match k with
  | 0 => .array .int
  | 1 => .array .int
  | 2 => .array .int
  | _ => .int
abbrev wsX10 : List Cond := u_ws RX1 TX1 4
theorem nmX1 : ∀ a, a < 4 → ∀ b, b < 4 → a ≠ b → (TX1 a).2.1 ≠ (TX1 b).2.1 := by decide +kernel
theorem tyX1_ok : ∀ k, k < 4 → parseFieldDescriptor (TX1 k).2.2.1 = some (tyX1 k) := by decide +kernel
abbrev cX1_init : ByteArray := prog_3_method_1_code
def yX1_init : MethodName := ⟨RX1, "<init>", "()V"⟩
abbrev cX1_add : ByteArray := prog_3_method_2_code
def yX1_add : MethodName := ⟨RX1, "add", "(III)V"⟩
abbrev cX1_balanceOf : ByteArray := prog_3_method_3_code
def yX1_balanceOf : MethodName := ⟨RX1, "balanceOf", "(I)I"⟩
def RX2 : String := "BargeRiver$Water"
def TX2 : u_T := fun k => match k with
  | 0 => ("BargeRiver$Water", "areas", "[I", true)
  | 1 => ("BargeRiver$Water", "lockfuls", "[I", true)
  | 2 => ("BargeRiver$Water", "amounts", "[I", true)
  | 3 => ("BargeRiver$Water", "through", "[I", true)
  | 4 => ("BargeRiver$Water", "savedAmounts", "[I", true)
  | 5 => ("BargeRiver$Water", "savedThrough", "[I", true)
  | 6 => ("BargeRiver$Water", "movements", "LBargeRiver$Movements;", true)
  | 7 => ("BargeRiver$Water", "savedMovements", "I", false)
  | _ => ("BargeRiver$Water", "reaches", "I", false)
def tyX2 : Nat → FieldType := fun k => match k with
  | 0 => .array .int
  | 1 => .array .int
  | 2 => .array .int
  | 3 => .array .int
  | 4 => .array .int
  | 5 => .array .int
  | 6 => .object "BargeRiver$Movements"
  | 7 => .int
  | _ => .int
abbrev wsX20 : List Cond := u_ws RX2 TX2 9
theorem nmX2 : ∀ a, a < 9 → ∀ b, b < 9 → a ≠ b → (TX2 a).2.1 ≠ (TX2 b).2.1 := by decide +kernel
theorem tyX2_ok : ∀ k, k < 9 → parseFieldDescriptor (TX2 k).2.2.1 = some (tyX2 k) := by decide +kernel
abbrev cX2_init : ByteArray := prog_4_method_1_code
def yX2_init : MethodName := ⟨RX2, "<init>", "()V"⟩
abbrev cX2_addBed : ByteArray := prog_4_method_2_code
def yX2_addBed : MethodName := ⟨RX2, "addBed", "(I)I"⟩
abbrev cX2_at : ByteArray := prog_4_method_3_code
def yX2_at : MethodName := ⟨RX2, "at", "(I)I"⟩
abbrev cX2_level : ByteArray := prog_4_method_4_code
def yX2_level : MethodName := ⟨RX2, "level", "(I)I"⟩
abbrev cX2_hasFullChamber : ByteArray := prog_4_method_5_code
def yX2_hasFullChamber : MethodName := ⟨RX2, "hasFullChamber", "(I)Z"⟩
abbrev cX2_canFill : ByteArray := prog_4_method_6_code
def yX2_canFill : MethodName := ⟨RX2, "canFill", "(I)Z"⟩
abbrev cX2_fill : ByteArray := prog_4_method_7_code
def yX2_fill : MethodName := ⟨RX2, "fill", "(I)V"⟩
abbrev cX2_empty : ByteArray := prog_4_method_8_code
def yX2_empty : MethodName := ⟨RX2, "empty", "(I)V"⟩
abbrev cX2_send : ByteArray := prog_4_method_9_code
def yX2_send : MethodName := ⟨RX2, "send", "(III)V"⟩
abbrev cX2_excess : ByteArray := prog_4_method_10_code
def yX2_excess : MethodName := ⟨RX2, "excess", "(I)I"⟩
abbrev cX2_throughTotal : ByteArray := prog_4_method_11_code
def yX2_throughTotal : MethodName := ⟨RX2, "throughTotal", "()I"⟩
abbrev cX2_save : ByteArray := prog_4_method_12_code
def yX2_save : MethodName := ⟨RX2, "save", "()V"⟩
abbrev cX2_restore : ByteArray := prog_4_method_13_code
def yX2_restore : MethodName := ⟨RX2, "restore", "()V"⟩
def RX3 : String := "BargeRiver"
def TX3 : u_T := fun k => match k with
  | 0 => ("BargeRiver", "water", "LBargeRiver$Water;", true)
  | 1 => ("BargeRiver", "lengths", "[I", true)
  | 2 => ("BargeRiver", "sills", "[I", true)
  | 3 => ("BargeRiver", "prices", "[I", true)
  | 4 => ("BargeRiver", "weekLevels", "[I", true)
  | 5 => ("BargeRiver", "barges", "[LBargeRiver$Barge;", true)
  | 6 => ("BargeRiver", "line", "Ljava/lang/StringBuilder;", true)
  | 7 => ("BargeRiver", "bargesMade", "I", false)
  | 8 => ("BargeRiver", "weeks", "I", false)
  | 9 => ("BargeRiver", "purse", "J", false)
  | 10 => ("BargeRiver", "triedReason", "I", false)
  | 11 => ("BargeRiver", "triedLock", "I", false)
  | 12 => ("BargeRiver", "lastReason", "I", false)
  | _ => ("BargeRiver", "lastLock", "I", false)
def tyX3 : Nat → FieldType := fun k => match k with
  | 0 => .object "BargeRiver$Water"
  | 1 => .array .int
  | 2 => .array .int
  | 3 => .array .int
  | 4 => .array .int
  | 5 => .array (.object "BargeRiver$Barge")
  | 6 => .object "java/lang/StringBuilder"
  | 7 => .int
  | 8 => .int
  | 9 => .long
  | 10 => .int
  | 11 => .int
  | 12 => .int
  | _ => .int
abbrev wsX30 : List Cond := u_ws RX3 TX3 14
theorem nmX3 : ∀ a, a < 14 → ∀ b, b < 14 → a ≠ b → (TX3 a).2.1 ≠ (TX3 b).2.1 := by decide +kernel
theorem tyX3_ok : ∀ k, k < 14 → parseFieldDescriptor (TX3 k).2.2.1 = some (tyX3 k) := by decide +kernel
abbrev cX3_init : ByteArray := prog_1_method_1_code
def yX3_init : MethodName := ⟨RX3, "<init>", "()V"⟩
abbrev cX3_addReach : ByteArray := prog_1_method_2_code
def yX3_addReach : MethodName := ⟨RX3, "addReach", "(IIIII)I"⟩
abbrev cX3_reachCount : ByteArray := prog_1_method_3_code
def yX3_reachCount : MethodName := ⟨RX3, "reachCount", "()I"⟩
abbrev cX3_areaOf : ByteArray := prog_1_method_4_code
def yX3_areaOf : MethodName := ⟨RX3, "areaOf", "(I)I"⟩
abbrev cX3_volumeOf : ByteArray := prog_1_method_5_code
def yX3_volumeOf : MethodName := ⟨RX3, "volumeOf", "(I)I"⟩
abbrev cX3_volumeBySteps : ByteArray := prog_1_method_6_code
def yX3_volumeBySteps : MethodName := ⟨RX3, "volumeBySteps", "(I)I"⟩
abbrev cX3_levelOf : ByteArray := prog_1_method_7_code
def yX3_levelOf : MethodName := ⟨RX3, "levelOf", "(I)I"⟩
abbrev cX3_lockfulOf : ByteArray := prog_1_method_8_code
def yX3_lockfulOf : MethodName := ⟨RX3, "lockfulOf", "(I)I"⟩
abbrev cX3_lengthOf : ByteArray := prog_1_method_9_code
def yX3_lengthOf : MethodName := ⟨RX3, "lengthOf", "(I)I"⟩
abbrev cX3_sillOf : ByteArray := prog_1_method_10_code
def yX3_sillOf : MethodName := ⟨RX3, "sillOf", "(I)I"⟩
abbrev cX3_isFull : ByteArray := prog_1_method_11_code
def yX3_isFull : MethodName := ⟨RX3, "isFull", "(I)Z"⟩
abbrev cX3_turn : ByteArray := prog_1_method_12_code
def yX3_turn : MethodName := ⟨RX3, "turn", "(I)Z"⟩
abbrev cX3_waterThrough : ByteArray := prog_1_method_13_code
def yX3_waterThrough : MethodName := ⟨RX3, "waterThrough", "(I)I"⟩
abbrev cX3_rain : ByteArray := prog_1_method_14_code
def yX3_rain : MethodName := ⟨RX3, "rain", "(II)I"⟩
abbrev cX3_endWeek : ByteArray := prog_1_method_15_code
def yX3_endWeek : MethodName := ⟨RX3, "endWeek", "()I"⟩
abbrev cX3_weekCount : ByteArray := prog_1_method_16_code
def yX3_weekCount : MethodName := ⟨RX3, "weekCount", "()I"⟩
abbrev cX3_addBarge : ByteArray := prog_1_method_17_code
def yX3_addBarge : MethodName := ⟨RX3, "addBarge", "(IIII)I"⟩
abbrev cX3_bargeCount : ByteArray := prog_1_method_18_code
def yX3_bargeCount : MethodName := ⟨RX3, "bargeCount", "()I"⟩
abbrev cX3_reachOf : ByteArray := prog_1_method_19_code
def yX3_reachOf : MethodName := ⟨RX3, "reachOf", "(I)I"⟩
abbrev cX3_cargoOf : ByteArray := prog_1_method_20_code
def yX3_cargoOf : MethodName := ⟨RX3, "cargoOf", "(I)I"⟩
abbrev cX3_draughtOf : ByteArray := prog_1_method_21_code
def yX3_draughtOf : MethodName := ⟨RX3, "draughtOf", "(I)I"⟩
abbrev cX3_isAfloat : ByteArray := prog_1_method_22_code
def yX3_isAfloat : MethodName := ⟨RX3, "isAfloat", "(I)Z"⟩
abbrev cX3_couple : ByteArray := prog_1_method_23_code
def yX3_couple : MethodName := ⟨RX3, "couple", "(II)I"⟩
abbrev cX3_uncouple : ByteArray := prog_1_method_24_code
def yX3_uncouple : MethodName := ⟨RX3, "uncouple", "(I)I"⟩
abbrev cX3_convoySize : ByteArray := prog_1_method_25_code
def yX3_convoySize : MethodName := ⟨RX3, "convoySize", "(I)I"⟩
abbrev cX3_convoyAt : ByteArray := prog_1_method_26_code
def yX3_convoyAt : MethodName := ⟨RX3, "convoyAt", "(II)I"⟩
abbrev cX3_partsFor : ByteArray := prog_1_method_27_code
def yX3_partsFor : MethodName := ⟨RX3, "partsFor", "(II)I"⟩
abbrev cX3_pass : ByteArray := prog_1_method_28_code
def yX3_pass : MethodName := ⟨RX3, "pass", "(IZ)I"⟩
abbrev cX3_voyage : ByteArray := prog_1_method_29_code
def yX3_voyage : MethodName := ⟨RX3, "voyage", "(II)I"⟩
abbrev cX3_isPossible : ByteArray := prog_1_method_30_code
def yX3_isPossible : MethodName := ⟨RX3, "isPossible", "(II)Z"⟩
abbrev cX3_waterFor : ByteArray := prog_1_method_31_code
def yX3_waterFor : MethodName := ⟨RX3, "waterFor", "(II)I"⟩
abbrev cX3_refusalReason : ByteArray := prog_1_method_32_code
def yX3_refusalReason : MethodName := ⟨RX3, "refusalReason", "()I"⟩
abbrev cX3_refusalLock : ByteArray := prog_1_method_33_code
def yX3_refusalLock : MethodName := ⟨RX3, "refusalLock", "()I"⟩
abbrev cX3_priceIn : ByteArray := prog_1_method_34_code
def yX3_priceIn : MethodName := ⟨RX3, "priceIn", "(I)I"⟩
abbrev cX3_money : ByteArray := prog_1_method_35_code
def yX3_money : MethodName := ⟨RX3, "money", "()J"⟩
abbrev cX3_buy : ByteArray := prog_1_method_36_code
def yX3_buy : MethodName := ⟨RX3, "buy", "(II)J"⟩
abbrev cX3_sell : ByteArray := prog_1_method_37_code
def yX3_sell : MethodName := ⟨RX3, "sell", "(II)J"⟩
abbrev cX3_sellToDraught : ByteArray := prog_1_method_38_code
def yX3_sellToDraught : MethodName := ⟨RX3, "sellToDraught", "(II)I"⟩
abbrev cX3_greatestLoad : ByteArray := prog_1_method_39_code
def yX3_greatestLoad : MethodName := ⟨RX3, "greatestLoad", "(I)I"⟩
abbrev cX3_worthIn : ByteArray := prog_1_method_40_code
def yX3_worthIn : MethodName := ⟨RX3, "worthIn", "(II)I"⟩
abbrev cX3_bestReach : ByteArray := prog_1_method_41_code
def yX3_bestReach : MethodName := ⟨RX3, "bestReach", "(I)I"⟩
abbrev cX3_cameTotal : ByteArray := prog_1_method_42_code
def yX3_cameTotal : MethodName := ⟨RX3, "cameTotal", "()I"⟩
abbrev cX3_seaTotal : ByteArray := prog_1_method_43_code
def yX3_seaTotal : MethodName := ⟨RX3, "seaTotal", "()I"⟩
abbrev cX3_airTotal : ByteArray := prog_1_method_44_code
def yX3_airTotal : MethodName := ⟨RX3, "airTotal", "()I"⟩
abbrev cX3_heldTotal : ByteArray := prog_1_method_45_code
def yX3_heldTotal : MethodName := ⟨RX3, "heldTotal", "()I"⟩
abbrev cX3_movementCount : ByteArray := prog_1_method_46_code
def yX3_movementCount : MethodName := ⟨RX3, "movementCount", "()I"⟩
abbrev cX3_movementFrom : ByteArray := prog_1_method_47_code
def yX3_movementFrom : MethodName := ⟨RX3, "movementFrom", "(I)I"⟩
abbrev cX3_movementTo : ByteArray := prog_1_method_48_code
def yX3_movementTo : MethodName := ⟨RX3, "movementTo", "(I)I"⟩
abbrev cX3_movementVolume : ByteArray := prog_1_method_49_code
def yX3_movementVolume : MethodName := ⟨RX3, "movementVolume", "(I)I"⟩
abbrev cX3_meanLevel : ByteArray := prog_1_method_50_code
def yX3_meanLevel : MethodName := ⟨RX3, "meanLevel", "()D"⟩
abbrev cX3_isBalanced : ByteArray := prog_1_method_51_code
def yX3_isBalanced : MethodName := ⟨RX3, "isBalanced", "()Z"⟩
abbrev cX3_writeReach : ByteArray := prog_1_method_52_code
def yX3_writeReach : MethodName := ⟨RX3, "writeReach", "(I)I"⟩
abbrev cX3_lineAt : ByteArray := prog_1_method_53_code
def yX3_lineAt : MethodName := ⟨RX3, "lineAt", "(I)C"⟩
abbrev cX3_isWithin : ByteArray := prog_1_method_54_code
def yX3_isWithin : MethodName := ⟨RX3, "isWithin", "(III)Z"⟩
abbrev cX3_needReach : ByteArray := prog_1_method_55_code
def yX3_needReach : MethodName := ⟨RX3, "needReach", "(I)V"⟩
abbrev cX3_needLock : ByteArray := prog_1_method_56_code
def yX3_needLock : MethodName := ⟨RX3, "needLock", "(I)V"⟩
abbrev cX3_needMovement : ByteArray := prog_1_method_57_code
def yX3_needMovement : MethodName := ⟨RX3, "needMovement", "(I)V"⟩
abbrev cX3_needRefusal : ByteArray := prog_1_method_58_code
def yX3_needRefusal : MethodName := ⟨RX3, "needRefusal", "()V"⟩
abbrev cX3_needTons : ByteArray := prog_1_method_59_code
def yX3_needTons : MethodName := ⟨RX3, "needTons", "(I)V"⟩
abbrev cX3_bargeNumbered : ByteArray := prog_1_method_60_code
def yX3_bargeNumbered : MethodName := ⟨RX3, "bargeNumbered", "(I)LBargeRiver$Barge;"⟩
abbrev cX3_openReach : ByteArray := prog_1_method_61_code
def yX3_openReach : MethodName := ⟨RX3, "openReach", "(II)I"⟩
abbrev cX3_changedPrice : ByteArray := prog_1_method_62_code
def yX3_changedPrice : MethodName := ⟨RX3, "changedPrice", "(III)I"⟩
abbrev cX3_floatsWith : ByteArray := prog_1_method_63_code
def yX3_floatsWith : MethodName := ⟨RX3, "floatsWith", "(LBargeRiver$Barge;I)Z"⟩
abbrev cX3_unload : ByteArray := prog_1_method_64_code
def yX3_unload : MethodName := ⟨RX3, "unload", "(LBargeRiver$Barge;I)V"⟩
abbrev cX3_appendConvoy : ByteArray := prog_1_method_65_code
def yX3_appendConvoy : MethodName := ⟨RX3, "appendConvoy", "(LBargeRiver$Barge;)V"⟩
abbrev cX3_carry : ByteArray := prog_1_method_66_code
def yX3_carry : MethodName := ⟨RX3, "carry", "(LBargeRiver$Barge;I)I"⟩
abbrev cX3_canReach : ByteArray := prog_1_method_67_code
def yX3_canReach : MethodName := ⟨RX3, "canReach", "(LBargeRiver$Barge;I)Z"⟩
abbrev cX3_tryVoyage : ByteArray := prog_1_method_68_code
def yX3_tryVoyage : MethodName := ⟨RX3, "tryVoyage", "(LBargeRiver$Barge;I)Z"⟩
abbrev cX3_tryPassage : ByteArray := prog_1_method_69_code
def yX3_tryPassage : MethodName := ⟨RX3, "tryPassage", "(LBargeRiver$Barge;IZ)I"⟩
def RX4 : String := "BargeRiverModel"
def TX4 : u_T := fun k => match k with
  | 0 => ("BargeRiverModel", "thrown", "I", false)
  | 1 => ("BargeRiverModel", "reaches", "I", false)
  | 2 => ("BargeRiverModel", "weeks", "I", false)
  | 3 => ("BargeRiverModel", "area", "[I", true)
  | 4 => ("BargeRiverModel", "volume", "[I", true)
  | 5 => ("BargeRiverModel", "lastLevel", "[I", true)
  | 6 => ("BargeRiverModel", "price", "[I", true)
  | 7 => ("BargeRiverModel", "lockful", "[I", true)
  | 8 => ("BargeRiverModel", "lockLong", "[I", true)
  | 9 => ("BargeRiverModel", "sill", "[I", true)
  | 10 => ("BargeRiverModel", "through", "[I", true)
  | 11 => ("BargeRiverModel", "full", "[Z", true)
  | 12 => ("BargeRiverModel", "barges", "I", false)
  | 13 => ("BargeRiverModel", "at", "[I", true)
  | 14 => ("BargeRiverModel", "bargeLong", "[I", true)
  | 15 => ("BargeRiverModel", "hull", "[I", true)
  | 16 => ("BargeRiverModel", "tons", "[I", true)
  | 17 => ("BargeRiverModel", "cargo", "[I", true)
  | 18 => ("BargeRiverModel", "ahead", "[I", true)
  | 19 => ("BargeRiverModel", "behind", "[I", true)
  | 20 => ("BargeRiverModel", "money", "J", false)
  | 21 => ("BargeRiverModel", "came", "I", false)
  | 22 => ("BargeRiverModel", "sea", "I", false)
  | 23 => ("BargeRiverModel", "air", "I", false)
  | 24 => ("BargeRiverModel", "moves", "I", false)
  | 25 => ("BargeRiverModel", "moveFrom", "[I", true)
  | 26 => ("BargeRiverModel", "moveTo", "[I", true)
  | 27 => ("BargeRiverModel", "moved", "[I", true)
  | 28 => ("BargeRiverModel", "why", "I", false)
  | 29 => ("BargeRiverModel", "whyLock", "I", false)
  | 30 => ("BargeRiverModel", "reason", "I", false)
  | 31 => ("BargeRiverModel", "reasonLock", "I", false)
  | 32 => ("BargeRiverModel", "wasVolume", "[I", true)
  | 33 => ("BargeRiverModel", "wasThrough", "[I", true)
  | 34 => ("BargeRiverModel", "wasAt", "[I", true)
  | 35 => ("BargeRiverModel", "wasFull", "[Z", true)
  | 36 => ("BargeRiverModel", "wasSea", "I", false)
  | 37 => ("BargeRiverModel", "wasMoves", "I", false)
  | 38 => ("BargeRiverModel", "line", "[C", true)
  | _ => ("BargeRiverModel", "lineLong", "I", false)
def tyX4 : Nat → FieldType := fun k => match k with
  | 0 => .int
  | 1 => .int
  | 2 => .int
  | 3 => .array .int
  | 4 => .array .int
  | 5 => .array .int
  | 6 => .array .int
  | 7 => .array .int
  | 8 => .array .int
  | 9 => .array .int
  | 10 => .array .int
  | 11 => .array .boolean
  | 12 => .int
  | 13 => .array .int
  | 14 => .array .int
  | 15 => .array .int
  | 16 => .array .int
  | 17 => .array .int
  | 18 => .array .int
  | 19 => .array .int
  | 20 => .long
  | 21 => .int
  | 22 => .int
  | 23 => .int
  | 24 => .int
  | 25 => .array .int
  | 26 => .array .int
  | 27 => .array .int
  | 28 => .int
  | 29 => .int
  | 30 => .int
  | 31 => .int
  | 32 => .array .int
  | 33 => .array .int
  | 34 => .array .int
  | 35 => .array .boolean
  | 36 => .int
  | 37 => .int
  | 38 => .array .char
  | _ => .int
abbrev wsX40 : List Cond := u_ws RX4 TX4 40
theorem nmX4 : ∀ a, a < 40 → ∀ b, b < 40 → a ≠ b → (TX4 a).2.1 ≠ (TX4 b).2.1 := by decide +kernel
theorem tyX4_ok : ∀ k, k < 40 → parseFieldDescriptor (TX4 k).2.2.1 = some (tyX4 k) := by decide +kernel
abbrev cX4_init : ByteArray := prog_6_method_1_code
def yX4_init : MethodName := ⟨RX4, "<init>", "()V"⟩
abbrev cX4_thrown : ByteArray := prog_6_method_2_code
def yX4_thrown : MethodName := ⟨RX4, "thrown", "()I"⟩
abbrev cX4_in : ByteArray := prog_6_method_3_code
def yX4_in : MethodName := ⟨RX4, "in", "(III)Z"⟩
abbrev cX4_fails : ByteArray := prog_6_method_4_code
def yX4_fails : MethodName := ⟨RX4, "fails", "(I)I"⟩
abbrev cX4_tells : ByteArray := prog_6_method_5_code
def yX4_tells : MethodName := ⟨RX4, "tells", "(I)I"⟩
abbrev cX4_isReach : ByteArray := prog_6_method_6_code
def yX4_isReach : MethodName := ⟨RX4, "isReach", "(I)Z"⟩
abbrev cX4_isLock : ByteArray := prog_6_method_7_code
def yX4_isLock : MethodName := ⟨RX4, "isLock", "(I)Z"⟩
abbrev cX4_isBarge : ByteArray := prog_6_method_8_code
def yX4_isBarge : MethodName := ⟨RX4, "isBarge", "(I)Z"⟩
abbrev cX4_level : ByteArray := prog_6_method_9_code
def yX4_level : MethodName := ⟨RX4, "level", "(I)I"⟩
abbrev cX4_records : ByteArray := prog_6_method_10_code
def yX4_records : MethodName := ⟨RX4, "records", "(III)V"⟩
abbrev cX4_comes : ByteArray := prog_6_method_11_code
def yX4_comes : MethodName := ⟨RX4, "comes", "(III)V"⟩
abbrev cX4_fills : ByteArray := prog_6_method_12_code
def yX4_fills : MethodName := ⟨RX4, "fills", "(I)V"⟩
abbrev cX4_empties : ByteArray := prog_6_method_13_code
def yX4_empties : MethodName := ⟨RX4, "empties", "(I)V"⟩
abbrev cX4_addReach : ByteArray := prog_6_method_14_code
def yX4_addReach : MethodName := ⟨RX4, "addReach", "(IIIII)I"⟩
abbrev cX4_reachCount : ByteArray := prog_6_method_15_code
def yX4_reachCount : MethodName := ⟨RX4, "reachCount", "()I"⟩
abbrev cX4_areaOf : ByteArray := prog_6_method_16_code
def yX4_areaOf : MethodName := ⟨RX4, "areaOf", "(I)I"⟩
abbrev cX4_volumeOf : ByteArray := prog_6_method_17_code
def yX4_volumeOf : MethodName := ⟨RX4, "volumeOf", "(I)I"⟩
abbrev cX4_bySteps : ByteArray := prog_6_method_18_code
def yX4_bySteps : MethodName := ⟨RX4, "bySteps", "(I)I"⟩
abbrev cX4_volumeBySteps : ByteArray := prog_6_method_19_code
def yX4_volumeBySteps : MethodName := ⟨RX4, "volumeBySteps", "(I)I"⟩
abbrev cX4_levelOf : ByteArray := prog_6_method_20_code
def yX4_levelOf : MethodName := ⟨RX4, "levelOf", "(I)I"⟩
abbrev cX4_lockfulOf : ByteArray := prog_6_method_21_code
def yX4_lockfulOf : MethodName := ⟨RX4, "lockfulOf", "(I)I"⟩
abbrev cX4_lengthOf : ByteArray := prog_6_method_22_code
def yX4_lengthOf : MethodName := ⟨RX4, "lengthOf", "(I)I"⟩
abbrev cX4_sillOf : ByteArray := prog_6_method_23_code
def yX4_sillOf : MethodName := ⟨RX4, "sillOf", "(I)I"⟩
abbrev cX4_asks : ByteArray := prog_6_method_24_code
def yX4_asks : MethodName := ⟨RX4, "asks", "(IZ)Z"⟩
abbrev cX4_isFull : ByteArray := prog_6_method_25_code
def yX4_isFull : MethodName := ⟨RX4, "isFull", "(I)Z"⟩
abbrev cX4_turn : ByteArray := prog_6_method_26_code
def yX4_turn : MethodName := ⟨RX4, "turn", "(I)Z"⟩
abbrev cX4_waterThrough : ByteArray := prog_6_method_27_code
def yX4_waterThrough : MethodName := ⟨RX4, "waterThrough", "(I)I"⟩
abbrev cX4_rain : ByteArray := prog_6_method_28_code
def yX4_rain : MethodName := ⟨RX4, "rain", "(II)I"⟩
abbrev cX4_endWeek : ByteArray := prog_6_method_29_code
def yX4_endWeek : MethodName := ⟨RX4, "endWeek", "()I"⟩
abbrev cX4_weekCount : ByteArray := prog_6_method_30_code
def yX4_weekCount : MethodName := ⟨RX4, "weekCount", "()I"⟩
abbrev cX4_deep : ByteArray := prog_6_method_31_code
def yX4_deep : MethodName := ⟨RX4, "deep", "(I)I"⟩
abbrev cX4_floats : ByteArray := prog_6_method_32_code
def yX4_floats : MethodName := ⟨RX4, "floats", "(I)Z"⟩
abbrev cX4_addBarge : ByteArray := prog_6_method_33_code
def yX4_addBarge : MethodName := ⟨RX4, "addBarge", "(IIII)I"⟩
abbrev cX4_bargeCount : ByteArray := prog_6_method_34_code
def yX4_bargeCount : MethodName := ⟨RX4, "bargeCount", "()I"⟩
abbrev cX4_reachOf : ByteArray := prog_6_method_35_code
def yX4_reachOf : MethodName := ⟨RX4, "reachOf", "(I)I"⟩
abbrev cX4_cargoOf : ByteArray := prog_6_method_36_code
def yX4_cargoOf : MethodName := ⟨RX4, "cargoOf", "(I)I"⟩
abbrev cX4_draughtOf : ByteArray := prog_6_method_37_code
def yX4_draughtOf : MethodName := ⟨RX4, "draughtOf", "(I)I"⟩
abbrev cX4_isAfloat : ByteArray := prog_6_method_38_code
def yX4_isAfloat : MethodName := ⟨RX4, "isAfloat", "(I)Z"⟩
abbrev cX4_first : ByteArray := prog_6_method_39_code
def yX4_first : MethodName := ⟨RX4, "first", "(I)I"⟩
abbrev cX4_size : ByteArray := prog_6_method_40_code
def yX4_size : MethodName := ⟨RX4, "size", "(I)I"⟩
abbrev cX4_couple : ByteArray := prog_6_method_41_code
def yX4_couple : MethodName := ⟨RX4, "couple", "(II)I"⟩
abbrev cX4_uncouple : ByteArray := prog_6_method_42_code
def yX4_uncouple : MethodName := ⟨RX4, "uncouple", "(I)I"⟩
abbrev cX4_convoySize : ByteArray := prog_6_method_43_code
def yX4_convoySize : MethodName := ⟨RX4, "convoySize", "(I)I"⟩
abbrev cX4_convoyAt : ByteArray := prog_6_method_44_code
def yX4_convoyAt : MethodName := ⟨RX4, "convoyAt", "(II)I"⟩
abbrev cX4_isTooLong : ByteArray := prog_6_method_45_code
def yX4_isTooLong : MethodName := ⟨RX4, "isTooLong", "(II)Z"⟩
abbrev cX4_endOfPart : ByteArray := prog_6_method_46_code
def yX4_endOfPart : MethodName := ⟨RX4, "endOfPart", "(II)I"⟩
abbrev cX4_partsFor : ByteArray := prog_6_method_47_code
def yX4_partsFor : MethodName := ⟨RX4, "partsFor", "(II)I"⟩
abbrev cX4_keeps : ByteArray := prog_6_method_48_code
def yX4_keeps : MethodName := ⟨RX4, "keeps", "()V"⟩
abbrev cX4_takesBack : ByteArray := prog_6_method_49_code
def yX4_takesBack : MethodName := ⟨RX4, "takesBack", "()V"⟩
abbrev cX4_refuses : ByteArray := prog_6_method_50_code
def yX4_refuses : MethodName := ⟨RX4, "refuses", "(II)I"⟩
abbrev cX4_locks : ByteArray := prog_6_method_51_code
def yX4_locks : MethodName := ⟨RX4, "locks", "(IIIZ)I"⟩
abbrev cX4_passes : ByteArray := prog_6_method_52_code
def yX4_passes : MethodName := ⟨RX4, "passes", "(IZ)I"⟩
abbrev cX4_sails : ByteArray := prog_6_method_53_code
def yX4_sails : MethodName := ⟨RX4, "sails", "(II)I"⟩
abbrev cX4_ends : ByteArray := prog_6_method_54_code
def yX4_ends : MethodName := ⟨RX4, "ends", "(II)I"⟩
abbrev cX4_pass : ByteArray := prog_6_method_55_code
def yX4_pass : MethodName := ⟨RX4, "pass", "(IZ)I"⟩
abbrev cX4_voyage : ByteArray := prog_6_method_56_code
def yX4_voyage : MethodName := ⟨RX4, "voyage", "(II)I"⟩
abbrev cX4_can : ByteArray := prog_6_method_57_code
def yX4_can : MethodName := ⟨RX4, "can", "(II)Z"⟩
abbrev cX4_isPossible : ByteArray := prog_6_method_58_code
def yX4_isPossible : MethodName := ⟨RX4, "isPossible", "(II)Z"⟩
abbrev cX4_allThrough : ByteArray := prog_6_method_59_code
def yX4_allThrough : MethodName := ⟨RX4, "allThrough", "()I"⟩
abbrev cX4_waterFor : ByteArray := prog_6_method_60_code
def yX4_waterFor : MethodName := ⟨RX4, "waterFor", "(II)I"⟩
abbrev cX4_refusalReason : ByteArray := prog_6_method_61_code
def yX4_refusalReason : MethodName := ⟨RX4, "refusalReason", "()I"⟩
abbrev cX4_refusalLock : ByteArray := prog_6_method_62_code
def yX4_refusalLock : MethodName := ⟨RX4, "refusalLock", "()I"⟩
abbrev cX4_priceIn : ByteArray := prog_6_method_63_code
def yX4_priceIn : MethodName := ⟨RX4, "priceIn", "(I)I"⟩
abbrev cX4_money : ByteArray := prog_6_method_64_code
def yX4_money : MethodName := ⟨RX4, "money", "()J"⟩
abbrev cX4_has : ByteArray := prog_6_method_65_code
def yX4_has : MethodName := ⟨RX4, "has", "(I)J"⟩
abbrev cX4_buy : ByteArray := prog_6_method_66_code
def yX4_buy : MethodName := ⟨RX4, "buy", "(II)J"⟩
abbrev cX4_sells : ByteArray := prog_6_method_67_code
def yX4_sells : MethodName := ⟨RX4, "sells", "(II)V"⟩
abbrev cX4_sell : ByteArray := prog_6_method_68_code
def yX4_sell : MethodName := ⟨RX4, "sell", "(II)J"⟩
abbrev cX4_sellToDraught : ByteArray := prog_6_method_69_code
def yX4_sellToDraught : MethodName := ⟨RX4, "sellToDraught", "(II)I"⟩
abbrev cX4_greatestLoad : ByteArray := prog_6_method_70_code
def yX4_greatestLoad : MethodName := ⟨RX4, "greatestLoad", "(I)I"⟩
abbrev cX4_worthIn : ByteArray := prog_6_method_71_code
def yX4_worthIn : MethodName := ⟨RX4, "worthIn", "(II)I"⟩
abbrev cX4_bestReach : ByteArray := prog_6_method_72_code
def yX4_bestReach : MethodName := ⟨RX4, "bestReach", "(I)I"⟩
abbrev cX4_cameTotal : ByteArray := prog_6_method_73_code
def yX4_cameTotal : MethodName := ⟨RX4, "cameTotal", "()I"⟩
abbrev cX4_seaTotal : ByteArray := prog_6_method_74_code
def yX4_seaTotal : MethodName := ⟨RX4, "seaTotal", "()I"⟩
abbrev cX4_airTotal : ByteArray := prog_6_method_75_code
def yX4_airTotal : MethodName := ⟨RX4, "airTotal", "()I"⟩
abbrev cX4_held : ByteArray := prog_6_method_76_code
def yX4_held : MethodName := ⟨RX4, "held", "()I"⟩
abbrev cX4_heldTotal : ByteArray := prog_6_method_77_code
def yX4_heldTotal : MethodName := ⟨RX4, "heldTotal", "()I"⟩
abbrev cX4_movementCount : ByteArray := prog_6_method_78_code
def yX4_movementCount : MethodName := ⟨RX4, "movementCount", "()I"⟩
abbrev cX4_movementFrom : ByteArray := prog_6_method_79_code
def yX4_movementFrom : MethodName := ⟨RX4, "movementFrom", "(I)I"⟩
abbrev cX4_movementTo : ByteArray := prog_6_method_80_code
def yX4_movementTo : MethodName := ⟨RX4, "movementTo", "(I)I"⟩
abbrev cX4_movementVolume : ByteArray := prog_6_method_81_code
def yX4_movementVolume : MethodName := ⟨RX4, "movementVolume", "(I)I"⟩
abbrev cX4_meanLevel : ByteArray := prog_6_method_82_code
def yX4_meanLevel : MethodName := ⟨RX4, "meanLevel", "()D"⟩
abbrev cX4_isBalanced : ByteArray := prog_6_method_83_code
def yX4_isBalanced : MethodName := ⟨RX4, "isBalanced", "()Z"⟩
abbrev cX4_writes : ByteArray := prog_6_method_84_code
def yX4_writes : MethodName := ⟨RX4, "writes", "(C)V"⟩
abbrev cX4_writeReach : ByteArray := prog_6_method_85_code
def yX4_writeReach : MethodName := ⟨RX4, "writeReach", "(I)I"⟩
abbrev cX4_lineAt : ByteArray := prog_6_method_86_code
def yX4_lineAt : MethodName := ⟨RX4, "lineAt", "(I)C"⟩
def RJx145de : String := "java/io/Serializable"
def TJx145de : u_T := fun k => match k with
  | _ => ("", "", "", false)
def tyJx145de : Nat → FieldType := fun k => match k with
  | _ => .int
abbrev wsJx145de0 : List Cond := u_ws RJx145de TJx145de 0
theorem nmJx145de : ∀ a, a < 0 → ∀ b, b < 0 → a ≠ b → (TJx145de a).2.1 ≠ (TJx145de b).2.1 := by decide +kernel
theorem tyJx145de_ok : ∀ k, k < 0 → parseFieldDescriptor (TJx145de k).2.2.1 = some (tyJx145de k) := by decide +kernel
def RJ5 : String := "java/lang/AbstractStringBuilder"
def TJ5 : u_T := fun k => match k with
  | _ => ("", "", "", false)
def tyJ5 : Nat → FieldType := fun k => match k with
  | _ => .int
abbrev wsJ50 : List Cond := u_ws RJ5 TJ5 0
theorem nmJ5 : ∀ a, a < 0 → ∀ b, b < 0 → a ≠ b → (TJ5 a).2.1 ≠ (TJ5 b).2.1 := by decide +kernel
theorem tyJ5_ok : ∀ k, k < 0 → parseFieldDescriptor (TJ5 k).2.2.1 = some (tyJ5 k) := by decide +kernel
abbrev cJ5_init_d00df : ByteArray := prog_8_method_2_code
def yJ5_init_d00df : MethodName := ⟨RJ5, "<init>", "(I)V"⟩
abbrev cJ5_length_8abf5 : ByteArray := prog_8_method_6_code
def yJ5_length_8abf5 : MethodName := ⟨RJ5, "length", "()I"⟩
abbrev cJ5_ensureCapacityInternal_d00df : ByteArray := prog_8_method_9_code
def yJ5_ensureCapacityInternal_d00df : MethodName := ⟨RJ5, "ensureCapacityInternal", "(I)V"⟩
abbrev cJ5_newCapacity_0f7a4 : ByteArray := prog_8_method_10_code
def yJ5_newCapacity_0f7a4 : MethodName := ⟨RJ5, "newCapacity", "(I)I"⟩
abbrev cJ5_inflate_da8c8 : ByteArray := prog_8_method_11_code
def yJ5_inflate_da8c8 : MethodName := ⟨RJ5, "inflate", "()V"⟩
abbrev cJ5_setLength_d00df : ByteArray := prog_8_method_13_code
def yJ5_setLength_d00df : MethodName := ⟨RJ5, "setLength", "(I)V"⟩
abbrev cJ5_charAt_5068e : ByteArray := prog_8_method_14_code
def yJ5_charAt_5068e : MethodName := ⟨RJ5, "charAt", "(I)C"⟩
abbrev cJ5_append_cf1ce : ByteArray := prog_8_method_22_code
def yJ5_append_cf1ce : MethodName := ⟨RJ5, "append", "(Ljava/lang/String;)Ljava/lang/AbstractStringBuilder;"⟩
abbrev cJ5_appendNull_278bc : ByteArray := prog_8_method_26_code
def yJ5_appendNull_278bc : MethodName := ⟨RJ5, "appendNull", "()Ljava/lang/AbstractStringBuilder;"⟩
abbrev cJ5_append_3fe6f : ByteArray := prog_8_method_31_code
def yJ5_append_3fe6f : MethodName := ⟨RJ5, "append", "(C)Ljava/lang/AbstractStringBuilder;"⟩
abbrev cJ5_append_c97b9 : ByteArray := prog_8_method_32_code
def yJ5_append_c97b9 : MethodName := ⟨RJ5, "append", "(I)Ljava/lang/AbstractStringBuilder;"⟩
abbrev cJ5_getValue_6d5f1 : ByteArray := prog_8_method_64_code
def yJ5_getValue_6d5f1 : MethodName := ⟨RJ5, "getValue", "()[B"⟩
abbrev cJ5_isLatin1_aae02 : ByteArray := prog_8_method_68_code
def yJ5_isLatin1_aae02 : MethodName := ⟨RJ5, "isLatin1", "()Z"⟩
abbrev cJ5_inflateIfNeededFor_a7421 : ByteArray := prog_8_method_71_code
def yJ5_inflateIfNeededFor_a7421 : MethodName := ⟨RJ5, "inflateIfNeededFor", "(Ljava/lang/String;)V"⟩
abbrev cJ5_putStringAt_47b60 : ByteArray := prog_8_method_73_code
def yJ5_putStringAt_47b60 : MethodName := ⟨RJ5, "putStringAt", "(ILjava/lang/String;)V"⟩
def RJx2cfe8 : String := "java/lang/Appendable"
def TJx2cfe8 : u_T := fun k => match k with
  | _ => ("", "", "", false)
def tyJx2cfe8 : Nat → FieldType := fun k => match k with
  | _ => .int
abbrev wsJx2cfe80 : List Cond := u_ws RJx2cfe8 TJx2cfe8 0
theorem nmJx2cfe8 : ∀ a, a < 0 → ∀ b, b < 0 → a ≠ b → (TJx2cfe8 a).2.1 ≠ (TJx2cfe8 b).2.1 := by decide +kernel
theorem tyJx2cfe8_ok : ∀ k, k < 0 → parseFieldDescriptor (TJx2cfe8 k).2.2.1 = some (tyJx2cfe8 k) := by decide +kernel
def RJx00060 : String := "java/lang/ArrayIndexOutOfBoundsException"
def TJx00060 : u_T := fun k => match k with
  | 0 => ("java/lang/Throwable", "cause", "Ljava/lang/Throwable;", false)
  | 1 => ("java/lang/Throwable", "stackTrace", "[Ljava/lang/StackTraceElement;", false)
  | 2 => ("java/lang/Throwable", "suppressedExceptions", "Ljava/util/List;", false)
  | 3 => ("java/lang/Throwable", "detailMessage", "Ljava/lang/String;", false)
  | 4 => ("java/lang/Throwable", "backtrace", "Ljava/lang/Object;", false)
  | _ => ("java/lang/Throwable", "depth", "I", false)
def tyJx00060 : Nat → FieldType := fun k => match k with
  | 0 => .object "java/lang/Throwable"
  | 1 => .array (.object "java/lang/StackTraceElement")
  | 2 => .object "java/util/List"
  | 3 => .object "java/lang/String"
  | 4 => .object "java/lang/Object"
  | _ => .int
abbrev wsJx000600 : List Cond := u_ws RJx00060 TJx00060 6
theorem nmJx00060 : ∀ a, a < 6 → ∀ b, b < 6 → a ≠ b → (TJx00060 a).2.1 ≠ (TJx00060 b).2.1 := by decide +kernel
theorem tyJx00060_ok : ∀ k, k < 6 → parseFieldDescriptor (TJx00060 k).2.2.1 = some (tyJx00060 k) := by decide +kernel
abbrev cJx00060_init_d00df : ByteArray := prog_10_method_3_code
def yJx00060_init_d00df : MethodName := ⟨RJx00060, "<init>", "(I)V"⟩
def RJx9f9b0 : String := "java/lang/CharSequence"
def TJx9f9b0 : u_T := fun k => match k with
  | _ => ("", "", "", false)
def tyJx9f9b0 : Nat → FieldType := fun k => match k with
  | _ => .int
abbrev wsJx9f9b00 : List Cond := u_ws RJx9f9b0 TJx9f9b0 0
theorem nmJx9f9b0 : ∀ a, a < 0 → ∀ b, b < 0 → a ≠ b → (TJx9f9b0 a).2.1 ≠ (TJx9f9b0 b).2.1 := by decide +kernel
theorem tyJx9f9b0_ok : ∀ k, k < 0 → parseFieldDescriptor (TJx9f9b0 k).2.2.1 = some (tyJx9f9b0 k) := by decide +kernel
def RJx8e188 : String := "java/lang/Cloneable"
def TJx8e188 : u_T := fun k => match k with
  | _ => ("", "", "", false)
def tyJx8e188 : Nat → FieldType := fun k => match k with
  | _ => .int
abbrev wsJx8e1880 : List Cond := u_ws RJx8e188 TJx8e188 0
theorem nmJx8e188 : ∀ a, a < 0 → ∀ b, b < 0 → a ≠ b → (TJx8e188 a).2.1 ≠ (TJx8e188 b).2.1 := by decide +kernel
theorem tyJx8e188_ok : ∀ k, k < 0 → parseFieldDescriptor (TJx8e188 k).2.2.1 = some (tyJx8e188 k) := by decide +kernel
def RJxb160c : String := "java/lang/Comparable"
def TJxb160c : u_T := fun k => match k with
  | _ => ("", "", "", false)
def tyJxb160c : Nat → FieldType := fun k => match k with
  | _ => .int
abbrev wsJxb160c0 : List Cond := u_ws RJxb160c TJxb160c 0
theorem nmJxb160c : ∀ a, a < 0 → ∀ b, b < 0 → a ≠ b → (TJxb160c a).2.1 ≠ (TJxb160c b).2.1 := by decide +kernel
theorem tyJxb160c_ok : ∀ k, k < 0 → parseFieldDescriptor (TJxb160c k).2.2.1 = some (tyJxb160c k) := by decide +kernel
def RJ6 : String := "java/lang/Integer"
def TJ6 : u_T := fun k => match k with
  | _ => ("", "", "", false)
def tyJ6 : Nat → FieldType := fun k => match k with
  | _ => .int
abbrev wsJ60 : List Cond := u_ws RJ6 TJ6 0
theorem nmJ6 : ∀ a, a < 0 → ∀ b, b < 0 → a ≠ b → (TJ6 a).2.1 ≠ (TJ6 b).2.1 := by decide +kernel
theorem tyJ6_ok : ∀ k, k < 0 → parseFieldDescriptor (TJ6 k).2.2.1 = some (tyJ6 k) := by decide +kernel
abbrev cJ6_getChars_ba4f3 : ByteArray := prog_18_method_12_code
def yJ6_getChars_ba4f3 : MethodName := ⟨RJ6, "getChars", "(II[B)I"⟩
abbrev cJ6_stringSize_0f7a4 : ByteArray := prog_18_method_13_code
def yJ6_stringSize_0f7a4 : MethodName := ⟨RJ6, "stringSize", "(I)I"⟩
def RJ9 : String := "java/lang/Math"
def TJ9 : u_T := fun k => match k with
  | _ => ("", "", "", false)
def tyJ9 : Nat → FieldType := fun k => match k with
  | _ => .int
abbrev wsJ90 : List Cond := u_ws RJ9 TJ9 0
theorem nmJ9 : ∀ a, a < 0 → ∀ b, b < 0 → a ≠ b → (TJ9 a).2.1 ≠ (TJ9 b).2.1 := by decide +kernel
theorem tyJ9_ok : ∀ k, k < 0 → parseFieldDescriptor (TJ9 k).2.2.1 = some (tyJ9 k) := by decide +kernel
abbrev cJ9_abs_0f7a4 : ByteArray := prog_19_method_59_code
def yJ9_abs_0f7a4 : MethodName := ⟨RJ9, "abs", "(I)I"⟩
abbrev cJ9_max_7cf53 : ByteArray := prog_19_method_65_code
def yJ9_max_7cf53 : MethodName := ⟨RJ9, "max", "(II)I"⟩
abbrev cJ9_min_7cf53 : ByteArray := prog_19_method_69_code
def yJ9_min_7cf53 : MethodName := ⟨RJ9, "min", "(II)I"⟩
def RJxd2413 : String := "java/lang/Number"
def TJxd2413 : u_T := fun k => match k with
  | _ => ("", "", "", false)
def tyJxd2413 : Nat → FieldType := fun k => match k with
  | _ => .int
abbrev wsJxd24130 : List Cond := u_ws RJxd2413 TJxd2413 0
theorem nmJxd2413 : ∀ a, a < 0 → ∀ b, b < 0 → a ≠ b → (TJxd2413 a).2.1 ≠ (TJxd2413 b).2.1 := by decide +kernel
theorem tyJxd2413_ok : ∀ k, k < 0 → parseFieldDescriptor (TJxd2413 k).2.2.1 = some (tyJxd2413 k) := by decide +kernel
def RJ0 : String := "java/lang/String"
def TJ0 : u_T := fun k => match k with
  | 0 => ("java/lang/String", "value", "[B", true)
  | 1 => ("java/lang/String", "coder", "B", true)
  | 2 => ("java/lang/String", "hash", "I", false)
  | _ => ("java/lang/String", "hashIsZero", "Z", false)
def tyJ0 : Nat → FieldType := fun k => match k with
  | 0 => .array .byte
  | 1 => .byte
  | 2 => .int
  | _ => .boolean
abbrev wsJ00 : List Cond := u_ws RJ0 TJ0 4
theorem nmJ0 : ∀ a, a < 4 → ∀ b, b < 4 → a ≠ b → (TJ0 a).2.1 ≠ (TJ0 b).2.1 := by decide +kernel
theorem tyJ0_ok : ∀ k, k < 4 → parseFieldDescriptor (TJ0 k).2.2.1 = some (tyJ0 k) := by decide +kernel
abbrev cJ0_init_81219 : ByteArray := prog_22_method_53_code
def yJ0_init_81219 : MethodName := ⟨RJ0, "<init>", "(Ljava/lang/StringBuilder;)V"⟩
abbrev cJ0_length_8abf5 : ByteArray := prog_22_method_54_code
def yJ0_length_8abf5 : MethodName := ⟨RJ0, "length", "()I"⟩
abbrev cJ0_getBytes_840e7 : ByteArray := prog_22_method_147_code
def yJ0_getBytes_840e7 : MethodName := ⟨RJ0, "getBytes", "([BIB)V"⟩
abbrev cJ0_init_db425 : ByteArray := prog_22_method_150_code
def yJ0_init_db425 : MethodName := ⟨RJ0, "<init>", "(Ljava/lang/AbstractStringBuilder;Ljava/lang/Void;)V"⟩
abbrev cJ0_coder_7d493 : ByteArray := prog_22_method_152_code
def yJ0_coder_7d493 : MethodName := ⟨RJ0, "coder", "()B"⟩
abbrev cJ0_checkIndex_df160 : ByteArray := prog_22_method_155_code
def yJ0_checkIndex_df160 : MethodName := ⟨RJ0, "checkIndex", "(II)V"⟩
abbrev cJ0_checkBoundsOffCount_cabcc : ByteArray := prog_22_method_157_code
def yJ0_checkBoundsOffCount_cabcc : MethodName := ⟨RJ0, "checkBoundsOffCount", "(III)I"⟩
abbrev cJ0_checkBoundsBeginEnd_23922 : ByteArray := prog_22_method_158_code
def yJ0_checkBoundsBeginEnd_23922 : MethodName := ⟨RJ0, "checkBoundsBeginEnd", "(III)V"⟩
def RJ4 : String := "java/lang/StringBuilder"
def TJ4 : u_T := fun k => match k with
  | 0 => ("java/lang/AbstractStringBuilder", "value", "[B", false)
  | 1 => ("java/lang/AbstractStringBuilder", "coder", "B", false)
  | 2 => ("java/lang/AbstractStringBuilder", "maybeLatin1", "Z", false)
  | _ => ("java/lang/AbstractStringBuilder", "count", "I", false)
def tyJ4 : Nat → FieldType := fun k => match k with
  | 0 => .array .byte
  | 1 => .byte
  | 2 => .boolean
  | _ => .int
abbrev wsJ40 : List Cond := u_ws RJ4 TJ4 4
theorem nmJ4 : ∀ a, a < 4 → ∀ b, b < 4 → a ≠ b → (TJ4 a).2.1 ≠ (TJ4 b).2.1 := by decide +kernel
theorem tyJ4_ok : ∀ k, k < 4 → parseFieldDescriptor (TJ4 k).2.2.1 = some (tyJ4 k) := by decide +kernel
abbrev cJ4_init_da8c8 : ByteArray := prog_23_method_1_code
def yJ4_init_da8c8 : MethodName := ⟨RJ4, "<init>", "()V"⟩
abbrev cJ4_append_15ec4 : ByteArray := prog_23_method_7_code
def yJ4_append_15ec4 : MethodName := ⟨RJ4, "append", "(Ljava/lang/String;)Ljava/lang/StringBuilder;"⟩
abbrev cJ4_append_cf468 : ByteArray := prog_23_method_14_code
def yJ4_append_cf468 : MethodName := ⟨RJ4, "append", "(C)Ljava/lang/StringBuilder;"⟩
abbrev cJ4_append_bf812 : ByteArray := prog_23_method_15_code
def yJ4_append_bf812 : MethodName := ⟨RJ4, "append", "(I)Ljava/lang/StringBuilder;"⟩
abbrev cJ4_toString_0e30d : ByteArray := prog_23_method_42_code
def yJ4_toString_0e30d : MethodName := ⟨RJ4, "toString", "()Ljava/lang/String;"⟩
abbrev cJ4_charAt_5068e : ByteArray := prog_23_method_88_code
def yJ4_charAt_5068e : MethodName := ⟨RJ4, "charAt", "(I)C"⟩
abbrev cJ4_setLength_d00df : ByteArray := prog_23_method_89_code
def yJ4_setLength_d00df : MethodName := ⟨RJ4, "setLength", "(I)V"⟩
abbrev cJ4_length_8abf5 : ByteArray := prog_23_method_93_code
def yJ4_length_8abf5 : MethodName := ⟨RJ4, "length", "()I"⟩
def RJx7c733 : String := "java/lang/StringIndexOutOfBoundsException"
def TJx7c733 : u_T := fun k => match k with
  | 0 => ("java/lang/Throwable", "backtrace", "Ljava/lang/Object;", false)
  | 1 => ("java/lang/Throwable", "detailMessage", "Ljava/lang/String;", false)
  | 2 => ("java/lang/Throwable", "cause", "Ljava/lang/Throwable;", false)
  | 3 => ("java/lang/Throwable", "stackTrace", "[Ljava/lang/StackTraceElement;", false)
  | 4 => ("java/lang/Throwable", "depth", "I", false)
  | _ => ("java/lang/Throwable", "suppressedExceptions", "Ljava/util/List;", false)
def tyJx7c733 : Nat → FieldType := fun k => match k with
  | 0 => .object "java/lang/Object"
  | 1 => .object "java/lang/String"
  | 2 => .object "java/lang/Throwable"
  | 3 => .array (.object "java/lang/StackTraceElement")
  | 4 => .int
  | _ => .object "java/util/List"
abbrev wsJx7c7330 : List Cond := u_ws RJx7c733 TJx7c733 6
theorem nmJx7c733 : ∀ a, a < 6 → ∀ b, b < 6 → a ≠ b → (TJx7c733 a).2.1 ≠ (TJx7c733 b).2.1 := by decide +kernel
theorem tyJx7c733_ok : ∀ k, k < 6 → parseFieldDescriptor (TJx7c733 k).2.2.1 = some (tyJx7c733 k) := by decide +kernel
abbrev cJx7c733_init_d00df : ByteArray := prog_24_method_3_code
def yJx7c733_init_d00df : MethodName := ⟨RJx7c733, "<init>", "(I)V"⟩
def RJ1 : String := "java/lang/StringLatin1"
def TJ1 : u_T := fun k => match k with
  | _ => ("", "", "", false)
def tyJ1 : Nat → FieldType := fun k => match k with
  | _ => .int
abbrev wsJ10 : List Cond := u_ws RJ1 TJ1 0
theorem nmJ1 : ∀ a, a < 0 → ∀ b, b < 0 → a ≠ b → (TJ1 a).2.1 ≠ (TJ1 b).2.1 := by decide +kernel
theorem tyJ1_ok : ∀ k, k < 0 → parseFieldDescriptor (TJ1 k).2.2.1 = some (tyJ1 k) := by decide +kernel
abbrev cJ1_canEncode_fc78d : ByteArray := prog_25_method_3_code
def yJ1_canEncode_fc78d : MethodName := ⟨RJ1, "canEncode", "(C)Z"⟩
abbrev cJ1_fillNull_b72d1 : ByteArray := prog_25_method_48_code
def yJ1_fillNull_b72d1 : MethodName := ⟨RJ1, "fillNull", "([BII)V"⟩
abbrev cJ1_inflate_0e8fd : ByteArray := prog_25_method_50_code
def yJ1_inflate_0e8fd : MethodName := ⟨RJ1, "inflate", "([BI[BII)V"⟩
def RJ2 : String := "java/lang/StringUTF16"
def TJ2 : u_T := fun k => match k with
  | _ => ("", "", "", false)
def tyJ2 : Nat → FieldType := fun k => match k with
  | _ => .int
abbrev wsJ20 : List Cond := u_ws RJ2 TJ2 0
theorem nmJ2 : ∀ a, a < 0 → ∀ b, b < 0 → a ≠ b → (TJ2 a).2.1 ≠ (TJ2 b).2.1 := by decide +kernel
theorem tyJ2_ok : ∀ k, k < 0 → parseFieldDescriptor (TJ2 k).2.2.1 = some (tyJ2 k) := by decide +kernel
abbrev cJ2_newBytesFor_77867 : ByteArray := prog_26_method_2_code
def yJ2_newBytesFor_77867 : MethodName := ⟨RJ2, "newBytesFor", "(I)[B"⟩
abbrev cJ2_newBytesLength_0f7a4 : ByteArray := prog_26_method_3_code
def yJ2_newBytesLength_0f7a4 : MethodName := ⟨RJ2, "newBytesLength", "(I)I"⟩
abbrev cJ2_putChar_b72d1 : ByteArray := prog_26_method_4_code
def yJ2_putChar_b72d1 : MethodName := ⟨RJ2, "putChar", "([BII)V"⟩
abbrev cJ2_getChar_3b067 : ByteArray := prog_26_method_5_code
def yJ2_getChar_3b067 : MethodName := ⟨RJ2, "getChar", "([BI)C"⟩
abbrev cJ2_length_9d52b : ByteArray := prog_26_method_6_code
def yJ2_length_9d52b : MethodName := ⟨RJ2, "length", "([B)I"⟩
abbrev cJ2_coderFromArrayLen_85cad : ByteArray := prog_26_method_15_code
def yJ2_coderFromArrayLen_85cad : MethodName := ⟨RJ2, "coderFromArrayLen", "([BI)B"⟩
abbrev cJ2_compress_39247 : ByteArray := prog_26_method_17_code
def yJ2_compress_39247 : MethodName := ⟨RJ2, "compress", "([BII)[B"⟩
abbrev cJ2_compress_5af95 : ByteArray := prog_26_method_22_code
def yJ2_compress_5af95 : MethodName := ⟨RJ2, "compress", "([BI[BII)I"⟩
abbrev cJ2_fillNull_b72d1 : ByteArray := prog_26_method_70_code
def yJ2_fillNull_b72d1 : MethodName := ⟨RJ2, "fillNull", "([BII)V"⟩
abbrev cJ2_putCharSB_b72d1 : ByteArray := prog_26_method_71_code
def yJ2_putCharSB_b72d1 : MethodName := ⟨RJ2, "putCharSB", "([BII)V"⟩
abbrev cJ2_getChars_46870 : ByteArray := prog_26_method_77_code
def yJ2_getChars_46870 : MethodName := ⟨RJ2, "getChars", "(III[B)I"⟩
abbrev cJ2_putCharsAt_cd4e5 : ByteArray := prog_26_method_81_code
def yJ2_putCharsAt_cd4e5 : MethodName := ⟨RJ2, "putCharsAt", "([BICCCC)I"⟩
abbrev cJ2_inflate_0e8fd : ByteArray := prog_26_method_86_code
def yJ2_inflate_0e8fd : MethodName := ⟨RJ2, "inflate", "([BI[BII)V"⟩
abbrev cJ2_getChars_ba4f3 : ByteArray := prog_26_method_89_code
def yJ2_getChars_ba4f3 : MethodName := ⟨RJ2, "getChars", "(II[B)I"⟩
abbrev cJ2_checkIndex_2214a : ByteArray := prog_26_method_91_code
def yJ2_checkIndex_2214a : MethodName := ⟨RJ2, "checkIndex", "(I[B)V"⟩
abbrev cJ2_checkBoundsBeginEnd_d044e : ByteArray := prog_26_method_93_code
def yJ2_checkBoundsBeginEnd_d044e : MethodName := ⟨RJ2, "checkBoundsBeginEnd", "(II[B)V"⟩
abbrev cJ2_checkBoundsOffCount_d044e : ByteArray := prog_26_method_94_code
def yJ2_checkBoundsOffCount_d044e : MethodName := ⟨RJ2, "checkBoundsOffCount", "(II[B)V"⟩
def RJ10 : String := "java/lang/System"
def TJ10 : u_T := fun k => match k with
  | _ => ("", "", "", false)
def tyJ10 : Nat → FieldType := fun k => match k with
  | _ => .int
abbrev wsJ100 : List Cond := u_ws RJ10 TJ10 0
theorem nmJ10 : ∀ a, a < 0 → ∀ b, b < 0 → a ≠ b → (TJ10 a).2.1 ≠ (TJ10 b).2.1 := by decide +kernel
theorem tyJ10_ok : ∀ k, k < 0 → parseFieldDescriptor (TJ10 k).2.2.1 = some (tyJ10 k) := by decide +kernel
def RJxfd54e : String := "java/lang/constant/Constable"
def TJxfd54e : u_T := fun k => match k with
  | _ => ("", "", "", false)
def tyJxfd54e : Nat → FieldType := fun k => match k with
  | _ => .int
abbrev wsJxfd54e0 : List Cond := u_ws RJxfd54e TJxfd54e 0
theorem nmJxfd54e : ∀ a, a < 0 → ∀ b, b < 0 → a ≠ b → (TJxfd54e a).2.1 ≠ (TJxfd54e b).2.1 := by decide +kernel
theorem tyJxfd54e_ok : ∀ k, k < 0 → parseFieldDescriptor (TJxfd54e k).2.2.1 = some (tyJxfd54e k) := by decide +kernel
def RJx3cf43 : String := "java/lang/constant/ConstantDesc"
def TJx3cf43 : u_T := fun k => match k with
  | _ => ("", "", "", false)
def tyJx3cf43 : Nat → FieldType := fun k => match k with
  | _ => .int
abbrev wsJx3cf430 : List Cond := u_ws RJx3cf43 TJx3cf43 0
theorem nmJx3cf43 : ∀ a, a < 0 → ∀ b, b < 0 → a ≠ b → (TJx3cf43 a).2.1 ≠ (TJx3cf43 b).2.1 := by decide +kernel
theorem tyJx3cf43_ok : ∀ k, k < 0 → parseFieldDescriptor (TJx3cf43 k).2.2.1 = some (tyJx3cf43 k) := by decide +kernel
def RJ7 : String := "java/util/Arrays"
def TJ7 : u_T := fun k => match k with
  | _ => ("", "", "", false)
def tyJ7 : Nat → FieldType := fun k => match k with
  | _ => .int
abbrev wsJ70 : List Cond := u_ws RJ7 TJ7 0
theorem nmJ7 : ∀ a, a < 0 → ∀ b, b < 0 → a ≠ b → (TJ7 a).2.1 ≠ (TJ7 b).2.1 := by decide +kernel
theorem tyJ7_ok : ∀ k, k < 0 → parseFieldDescriptor (TJ7 k).2.2.1 = some (tyJ7 k) := by decide +kernel
abbrev cJ7_rangeCheck_23922 : ByteArray := prog_32_method_30_code
def yJ7_rangeCheck_23922 : MethodName := ⟨RJ7, "rangeCheck", "(III)V"⟩
abbrev cJ7_fill_eb02e : ByteArray := prog_32_method_110_code
def yJ7_fill_eb02e : MethodName := ⟨RJ7, "fill", "([BIIB)V"⟩
abbrev cJ7_copyOf_9075b : ByteArray := prog_32_method_121_code
def yJ7_copyOf_9075b : MethodName := ⟨RJ7, "copyOf", "([BI)[B"⟩
abbrev cJ7_copyOf_59c91 : ByteArray := prog_32_method_123_code
def yJ7_copyOf_59c91 : MethodName := ⟨RJ7, "copyOf", "([II)[I"⟩
abbrev cJ7_checkLength_df160 : ByteArray := prog_32_method_131_code
def yJ7_checkLength_df160 : MethodName := ⟨RJ7, "checkLength", "(II)V"⟩
abbrev cJ7_copyOfRange_39247 : ByteArray := prog_32_method_132_code
def yJ7_copyOfRange_39247 : MethodName := ⟨RJ7, "copyOfRange", "([BII)[B"⟩
abbrev cJ7_copyOfRangeByte_39247 : ByteArray := prog_32_method_133_code
def yJ7_copyOfRangeByte_39247 : MethodName := ⟨RJ7, "copyOfRangeByte", "([BII)[B"⟩
def RJ8 : String := "jdk/internal/util/ArraysSupport"
def TJ8 : u_T := fun k => match k with
  | _ => ("", "", "", false)
def tyJ8 : Nat → FieldType := fun k => match k with
  | _ => .int
abbrev wsJ80 : List Cond := u_ws RJ8 TJ8 0
theorem nmJ8 : ∀ a, a < 0 → ∀ b, b < 0 → a ≠ b → (TJ8 a).2.1 ≠ (TJ8 b).2.1 := by decide +kernel
theorem tyJ8_ok : ∀ k, k < 0 → parseFieldDescriptor (TJ8 k).2.2.1 = some (tyJ8 k) := by decide +kernel
abbrev cJ8_newLength_cabcc : ByteArray := prog_34_method_27_code
def yJ8_newLength_cabcc : MethodName := ⟨RJ8, "newLength", "(III)I"⟩
abbrev cJ8_hugeLength_7cf53 : ByteArray := prog_34_method_28_code
def yJ8_hugeLength_7cf53 : MethodName := ⟨RJ8, "hugeLength", "(II)I"⟩
def RJ3 : String := "jdk/internal/util/Preconditions"
def TJ3 : u_T := fun k => match k with
  | _ => ("", "", "", false)
def tyJ3 : Nat → FieldType := fun k => match k with
  | _ => .int
abbrev wsJ30 : List Cond := u_ws RJ3 TJ3 0
theorem nmJ3 : ∀ a, a < 0 → ∀ b, b < 0 → a ≠ b → (TJ3 a).2.1 ≠ (TJ3 b).2.1 := by decide +kernel
theorem tyJ3_ok : ∀ k, k < 0 → parseFieldDescriptor (TJ3 k).2.2.1 = some (tyJ3 k) := by decide +kernel
abbrev cJ3_checkIndex_8e157 : ByteArray := prog_35_method_11_code
def yJ3_checkIndex_8e157 : MethodName := ⟨RJ3, "checkIndex", "(IILjava/util/function/BiFunction;)I"⟩
abbrev cJ3_checkFromToIndex_8c36e : ByteArray := prog_35_method_12_code
def yJ3_checkFromToIndex_8c36e : MethodName := ⟨RJ3, "checkFromToIndex", "(IIILjava/util/function/BiFunction;)I"⟩
abbrev cJ3_checkFromIndexSize_8c36e : ByteArray := prog_35_method_13_code
def yJ3_checkFromIndexSize_8c36e : MethodName := ⟨RJ3, "checkFromIndexSize", "(IIILjava/util/function/BiFunction;)I"⟩
def RL : String := "BargeRiverLaw"
abbrev cL_addReach : ByteArray := method_3_code
def yL_addReach : MethodName := ⟨RL, "addReach", "(LBargeRiver;IIIII[J)I"⟩
abbrev cL_areaOf : ByteArray := method_4_code
def yL_areaOf : MethodName := ⟨RL, "areaOf", "(LBargeRiver;I[J)I"⟩
abbrev cL_volumeOf : ByteArray := method_5_code
def yL_volumeOf : MethodName := ⟨RL, "volumeOf", "(LBargeRiver;I[J)I"⟩
abbrev cL_volumeBySteps : ByteArray := method_6_code
def yL_volumeBySteps : MethodName := ⟨RL, "volumeBySteps", "(LBargeRiver;I[J)I"⟩
abbrev cL_levelOf : ByteArray := method_7_code
def yL_levelOf : MethodName := ⟨RL, "levelOf", "(LBargeRiver;I[J)I"⟩
abbrev cL_lockfulOf : ByteArray := method_8_code
def yL_lockfulOf : MethodName := ⟨RL, "lockfulOf", "(LBargeRiver;I[J)I"⟩
abbrev cL_lengthOf : ByteArray := method_9_code
def yL_lengthOf : MethodName := ⟨RL, "lengthOf", "(LBargeRiver;I[J)I"⟩
abbrev cL_sillOf : ByteArray := method_10_code
def yL_sillOf : MethodName := ⟨RL, "sillOf", "(LBargeRiver;I[J)I"⟩
abbrev cL_isFull : ByteArray := method_11_code
def yL_isFull : MethodName := ⟨RL, "isFull", "(LBargeRiver;I[J)I"⟩
abbrev cL_turn : ByteArray := method_12_code
def yL_turn : MethodName := ⟨RL, "turn", "(LBargeRiver;I[J)I"⟩
abbrev cL_waterThrough : ByteArray := method_13_code
def yL_waterThrough : MethodName := ⟨RL, "waterThrough", "(LBargeRiver;I[J)I"⟩
abbrev cL_rain : ByteArray := method_14_code
def yL_rain : MethodName := ⟨RL, "rain", "(LBargeRiver;II[J)I"⟩
abbrev cL_addBarge : ByteArray := method_15_code
def yL_addBarge : MethodName := ⟨RL, "addBarge", "(LBargeRiver;IIII[J)I"⟩
abbrev cL_reachOf : ByteArray := method_16_code
def yL_reachOf : MethodName := ⟨RL, "reachOf", "(LBargeRiver;I[J)I"⟩
abbrev cL_cargoOf : ByteArray := method_17_code
def yL_cargoOf : MethodName := ⟨RL, "cargoOf", "(LBargeRiver;I[J)I"⟩
abbrev cL_draughtOf : ByteArray := method_18_code
def yL_draughtOf : MethodName := ⟨RL, "draughtOf", "(LBargeRiver;I[J)I"⟩
abbrev cL_isAfloat : ByteArray := method_19_code
def yL_isAfloat : MethodName := ⟨RL, "isAfloat", "(LBargeRiver;I[J)I"⟩
abbrev cL_couple : ByteArray := method_20_code
def yL_couple : MethodName := ⟨RL, "couple", "(LBargeRiver;II[J)I"⟩
abbrev cL_uncouple : ByteArray := method_21_code
def yL_uncouple : MethodName := ⟨RL, "uncouple", "(LBargeRiver;I[J)I"⟩
abbrev cL_convoySize : ByteArray := method_22_code
def yL_convoySize : MethodName := ⟨RL, "convoySize", "(LBargeRiver;I[J)I"⟩
abbrev cL_convoyAt : ByteArray := method_23_code
def yL_convoyAt : MethodName := ⟨RL, "convoyAt", "(LBargeRiver;II[J)I"⟩
abbrev cL_partsFor : ByteArray := method_24_code
def yL_partsFor : MethodName := ⟨RL, "partsFor", "(LBargeRiver;II[J)I"⟩
abbrev cL_pass : ByteArray := method_25_code
def yL_pass : MethodName := ⟨RL, "pass", "(LBargeRiver;IZ[J)I"⟩
abbrev cL_voyage : ByteArray := method_26_code
def yL_voyage : MethodName := ⟨RL, "voyage", "(LBargeRiver;II[J)I"⟩
abbrev cL_isPossible : ByteArray := method_27_code
def yL_isPossible : MethodName := ⟨RL, "isPossible", "(LBargeRiver;II[J)I"⟩
abbrev cL_waterFor : ByteArray := method_28_code
def yL_waterFor : MethodName := ⟨RL, "waterFor", "(LBargeRiver;II[J)I"⟩
abbrev cL_refusalReason : ByteArray := method_29_code
def yL_refusalReason : MethodName := ⟨RL, "refusalReason", "(LBargeRiver;[J)I"⟩
abbrev cL_refusalLock : ByteArray := method_30_code
def yL_refusalLock : MethodName := ⟨RL, "refusalLock", "(LBargeRiver;[J)I"⟩
abbrev cL_priceIn : ByteArray := method_31_code
def yL_priceIn : MethodName := ⟨RL, "priceIn", "(LBargeRiver;I[J)I"⟩
abbrev cL_buy : ByteArray := method_32_code
def yL_buy : MethodName := ⟨RL, "buy", "(LBargeRiver;II[J)I"⟩
abbrev cL_sell : ByteArray := method_33_code
def yL_sell : MethodName := ⟨RL, "sell", "(LBargeRiver;II[J)I"⟩
abbrev cL_sellToDraught : ByteArray := method_34_code
def yL_sellToDraught : MethodName := ⟨RL, "sellToDraught", "(LBargeRiver;II[J)I"⟩
abbrev cL_greatestLoad : ByteArray := method_35_code
def yL_greatestLoad : MethodName := ⟨RL, "greatestLoad", "(LBargeRiver;I[J)I"⟩
abbrev cL_worthIn : ByteArray := method_36_code
def yL_worthIn : MethodName := ⟨RL, "worthIn", "(LBargeRiver;II[J)I"⟩
abbrev cL_bestReach : ByteArray := method_37_code
def yL_bestReach : MethodName := ⟨RL, "bestReach", "(LBargeRiver;I[J)I"⟩
abbrev cL_movementFrom : ByteArray := method_38_code
def yL_movementFrom : MethodName := ⟨RL, "movementFrom", "(LBargeRiver;I[J)I"⟩
abbrev cL_movementTo : ByteArray := method_39_code
def yL_movementTo : MethodName := ⟨RL, "movementTo", "(LBargeRiver;I[J)I"⟩
abbrev cL_movementVolume : ByteArray := method_40_code
def yL_movementVolume : MethodName := ⟨RL, "movementVolume", "(LBargeRiver;I[J)I"⟩
abbrev cL_writeReach : ByteArray := method_41_code
def yL_writeReach : MethodName := ⟨RL, "writeReach", "(LBargeRiver;I[J)I"⟩
abbrev cL_lineAt : ByteArray := method_42_code
def yL_lineAt : MethodName := ⟨RL, "lineAt", "(LBargeRiver;I[J)I"⟩
abbrev cL_law : ByteArray := code
def yL_law : MethodName := ⟨RL, "law", "([I)Z"⟩
abbrev vwCl : List vw_C := [(RJ0, TJ0, 4), (RJ4, TJ4, 4), (RJx00060, TJx00060, 6), (RJx7c733, TJx7c733, 6), (RX0, TX0, 8), (RX1, TX1, 4), (RX2, TX2, 9), (RX3, TX3, 14), (RX4, TX4, 40)]
end
section
theorem dX0_init_0 : decode cX0_init 0 = .ok (.aload_n 0, 1) := by decide +kernel
theorem dX0_init_1 : decode cX0_init 1 = .ok (.invokespecial 1, 3) := by decide +kernel
theorem dX0_init_4 : decode cX0_init 4 = .ok (.aload_n 0, 1) := by decide +kernel
theorem dX0_init_5 : decode cX0_init 5 = .ok (.iload_n 1, 1) := by decide +kernel
theorem dX0_init_6 : decode cX0_init 6 = .ok (.putfield 7, 3) := by decide +kernel
theorem dX0_init_9 : decode cX0_init 9 = .ok (.aload_n 0, 1) := by decide +kernel
theorem dX0_init_10 : decode cX0_init 10 = .ok (.iload_n 2, 1) := by decide +kernel
theorem dX0_init_11 : decode cX0_init 11 = .ok (.putfield 13, 3) := by decide +kernel
theorem dX0_init_14 : decode cX0_init 14 = .ok (.aload_n 0, 1) := by decide +kernel
theorem dX0_init_15 : decode cX0_init 15 = .ok (.iload_n 3, 1) := by decide +kernel
theorem dX0_init_16 : decode cX0_init 16 = .ok (.putfield 16, 3) := by decide +kernel
theorem dX0_init_19 : decode cX0_init 19 = .ok (.aload_n 0, 1) := by decide +kernel
theorem dX0_init_20 : decode cX0_init 20 = .ok (.iload 4, 2) := by decide +kernel
theorem dX0_init_22 : decode cX0_init 22 = .ok (.putfield 19, 3) := by decide +kernel
theorem dX0_init_25 : decode cX0_init 25 = .ok (.aload_n 0, 1) := by decide +kernel
theorem dX0_init_26 : decode cX0_init 26 = .ok (.iload 5, 2) := by decide +kernel
theorem dX0_init_28 : decode cX0_init 28 = .ok (.putfield 22, 3) := by decide +kernel
theorem dX0_init_31 : decode cX0_init 31 = .ok (.return_, 1) := by decide +kernel
theorem dX0_draught_0 : decode cX0_draught 0 = .ok (.aload_n 0, 1) := by decide +kernel
theorem dX0_draught_1 : decode cX0_draught 1 = .ok (.aload_n 0, 1) := by decide +kernel
theorem dX0_draught_2 : decode cX0_draught 2 = .ok (.getfield 25, 3) := by decide +kernel
theorem dX0_draught_5 : decode cX0_draught 5 = .ok (.invokevirtual 28, 3) := by decide +kernel
theorem dX0_draught_8 : decode cX0_draught 8 = .ok (.ireturn, 1) := by decide +kernel
theorem dX0_draughtWith_0 : decode cX0_draughtWith 0 = .ok (.aload_n 0, 1) := by decide +kernel
theorem dX0_draughtWith_1 : decode cX0_draughtWith 1 = .ok (.getfield 19, 3) := by decide +kernel
theorem dX0_draughtWith_4 : decode cX0_draughtWith 4 = .ok (.iload_n 1, 1) := by decide +kernel
theorem dX0_draughtWith_5 : decode cX0_draughtWith 5 = .ok (.aload_n 0, 1) := by decide +kernel
theorem dX0_draughtWith_6 : decode cX0_draughtWith 6 = .ok (.getfield 22, 3) := by decide +kernel
theorem dX0_draughtWith_9 : decode cX0_draughtWith 9 = .ok (.iadd, 1) := by decide +kernel
theorem dX0_draughtWith_10 : decode cX0_draughtWith 10 = .ok (.iconst 1, 1) := by decide +kernel
theorem dX0_draughtWith_11 : decode cX0_draughtWith 11 = .ok (.isub, 1) := by decide +kernel
theorem dX0_draughtWith_12 : decode cX0_draughtWith 12 = .ok (.aload_n 0, 1) := by decide +kernel
theorem dX0_draughtWith_13 : decode cX0_draughtWith 13 = .ok (.getfield 22, 3) := by decide +kernel
theorem dX0_draughtWith_16 : decode cX0_draughtWith 16 = .ok (.idiv, 1) := by decide +kernel
theorem dX0_draughtWith_17 : decode cX0_draughtWith 17 = .ok (.iadd, 1) := by decide +kernel
theorem dX0_draughtWith_18 : decode cX0_draughtWith 18 = .ok (.ireturn, 1) := by decide +kernel
theorem dX0_greatestCargo_0 : decode cX0_greatestCargo 0 = .ok (.iload_n 1, 1) := by decide +kernel
theorem dX0_greatestCargo_1 : decode cX0_greatestCargo 1 = .ok (.aload_n 0, 1) := by decide +kernel
theorem dX0_greatestCargo_2 : decode cX0_greatestCargo 2 = .ok (.getfield 19, 3) := by decide +kernel
theorem dX0_greatestCargo_5 : decode cX0_greatestCargo 5 = .ok (.isub, 1) := by decide +kernel
theorem dX0_greatestCargo_6 : decode cX0_greatestCargo 6 = .ok (.aload_n 0, 1) := by decide +kernel
theorem dX0_greatestCargo_7 : decode cX0_greatestCargo 7 = .ok (.getfield 22, 3) := by decide +kernel
theorem dX0_greatestCargo_10 : decode cX0_greatestCargo 10 = .ok (.imul, 1) := by decide +kernel
theorem dX0_greatestCargo_11 : decode cX0_greatestCargo 11 = .ok (.ireturn, 1) := by decide +kernel
theorem dX0_first_0 : decode cX0_first 0 = .ok (.aload_n 0, 1) := by decide +kernel
theorem dX0_first_1 : decode cX0_first 1 = .ok (.astore_n 1, 1) := by decide +kernel
theorem dX0_first_2 : decode cX0_first 2 = .ok (.aload_n 1, 1) := by decide +kernel
theorem dX0_first_3 : decode cX0_first 3 = .ok (.getfield 32, 3) := by decide +kernel
theorem dX0_first_6 : decode cX0_first 6 = .ok (.ifnull 11, 3) := by decide +kernel
theorem dX0_first_9 : decode cX0_first 9 = .ok (.aload_n 1, 1) := by decide +kernel
theorem dX0_first_10 : decode cX0_first 10 = .ok (.getfield 32, 3) := by decide +kernel
theorem dX0_first_13 : decode cX0_first 13 = .ok (.astore_n 1, 1) := by decide +kernel
theorem dX0_first_14 : decode cX0_first 14 = .ok (.goto (-12), 3) := by decide +kernel
theorem dX0_first_17 : decode cX0_first 17 = .ok (.aload_n 1, 1) := by decide +kernel
theorem dX0_first_18 : decode cX0_first 18 = .ok (.areturn, 1) := by decide +kernel
theorem dX0_last_0 : decode cX0_last 0 = .ok (.aload_n 0, 1) := by decide +kernel
theorem dX0_last_1 : decode cX0_last 1 = .ok (.astore_n 1, 1) := by decide +kernel
theorem dX0_last_2 : decode cX0_last 2 = .ok (.aload_n 1, 1) := by decide +kernel
theorem dX0_last_3 : decode cX0_last 3 = .ok (.getfield 36, 3) := by decide +kernel
theorem dX0_last_6 : decode cX0_last 6 = .ok (.ifnull 11, 3) := by decide +kernel
theorem dX0_last_9 : decode cX0_last 9 = .ok (.aload_n 1, 1) := by decide +kernel
theorem dX0_last_10 : decode cX0_last 10 = .ok (.getfield 36, 3) := by decide +kernel
theorem dX0_last_13 : decode cX0_last 13 = .ok (.astore_n 1, 1) := by decide +kernel
theorem dX0_last_14 : decode cX0_last 14 = .ok (.goto (-12), 3) := by decide +kernel
theorem dX0_last_17 : decode cX0_last 17 = .ok (.aload_n 1, 1) := by decide +kernel
theorem dX0_last_18 : decode cX0_last 18 = .ok (.areturn, 1) := by decide +kernel
theorem dX0_chainSize_0 : decode cX0_chainSize 0 = .ok (.iconst 0, 1) := by decide +kernel
theorem dX0_chainSize_1 : decode cX0_chainSize 1 = .ok (.istore_n 1, 1) := by decide +kernel
theorem dX0_chainSize_2 : decode cX0_chainSize 2 = .ok (.aload_n 0, 1) := by decide +kernel
theorem dX0_chainSize_3 : decode cX0_chainSize 3 = .ok (.astore_n 2, 1) := by decide +kernel
theorem dX0_chainSize_4 : decode cX0_chainSize 4 = .ok (.aload_n 2, 1) := by decide +kernel
theorem dX0_chainSize_5 : decode cX0_chainSize 5 = .ok (.ifnull 14, 3) := by decide +kernel
theorem dX0_chainSize_8 : decode cX0_chainSize 8 = .ok (.iinc 1 1, 3) := by decide +kernel
theorem dX0_chainSize_11 : decode cX0_chainSize 11 = .ok (.aload_n 2, 1) := by decide +kernel
theorem dX0_chainSize_12 : decode cX0_chainSize 12 = .ok (.getfield 36, 3) := by decide +kernel
theorem dX0_chainSize_15 : decode cX0_chainSize 15 = .ok (.astore_n 2, 1) := by decide +kernel
theorem dX0_chainSize_16 : decode cX0_chainSize 16 = .ok (.goto (-12), 3) := by decide +kernel
theorem dX0_chainSize_19 : decode cX0_chainSize 19 = .ok (.iload_n 1, 1) := by decide +kernel
theorem dX0_chainSize_20 : decode cX0_chainSize 20 = .ok (.ireturn, 1) := by decide +kernel
theorem dX0_greatestLength_0 : decode cX0_greatestLength 0 = .ok (.iconst 0, 1) := by decide +kernel
theorem dX0_greatestLength_1 : decode cX0_greatestLength 1 = .ok (.istore_n 1, 1) := by decide +kernel
theorem dX0_greatestLength_2 : decode cX0_greatestLength 2 = .ok (.aload_n 0, 1) := by decide +kernel
theorem dX0_greatestLength_3 : decode cX0_greatestLength 3 = .ok (.astore_n 2, 1) := by decide +kernel
theorem dX0_greatestLength_4 : decode cX0_greatestLength 4 = .ok (.aload_n 2, 1) := by decide +kernel
theorem dX0_greatestLength_5 : decode cX0_greatestLength 5 = .ok (.ifnull 20, 3) := by decide +kernel
theorem dX0_greatestLength_8 : decode cX0_greatestLength 8 = .ok (.iload_n 1, 1) := by decide +kernel
theorem dX0_greatestLength_9 : decode cX0_greatestLength 9 = .ok (.aload_n 2, 1) := by decide +kernel
theorem dX0_greatestLength_10 : decode cX0_greatestLength 10 = .ok (.getfield 16, 3) := by decide +kernel
theorem dX0_greatestLength_13 : decode cX0_greatestLength 13 = .ok (.invokestatic 39, 3) := by decide +kernel
theorem dX0_greatestLength_16 : decode cX0_greatestLength 16 = .ok (.istore_n 1, 1) := by decide +kernel
theorem dX0_greatestLength_17 : decode cX0_greatestLength 17 = .ok (.aload_n 2, 1) := by decide +kernel
theorem dX0_greatestLength_18 : decode cX0_greatestLength 18 = .ok (.getfield 36, 3) := by decide +kernel
theorem dX0_greatestLength_21 : decode cX0_greatestLength 21 = .ok (.astore_n 2, 1) := by decide +kernel
theorem dX0_greatestLength_22 : decode cX0_greatestLength 22 = .ok (.goto (-18), 3) := by decide +kernel
theorem dX0_greatestLength_25 : decode cX0_greatestLength 25 = .ok (.iload_n 1, 1) := by decide +kernel
theorem dX0_greatestLength_26 : decode cX0_greatestLength 26 = .ok (.ireturn, 1) := by decide +kernel
theorem dX0_greatestDraught_0 : decode cX0_greatestDraught 0 = .ok (.iconst 0, 1) := by decide +kernel
theorem dX0_greatestDraught_1 : decode cX0_greatestDraught 1 = .ok (.istore_n 2, 1) := by decide +kernel
theorem dX0_greatestDraught_2 : decode cX0_greatestDraught 2 = .ok (.aload_n 0, 1) := by decide +kernel
theorem dX0_greatestDraught_3 : decode cX0_greatestDraught 3 = .ok (.astore_n 3, 1) := by decide +kernel
theorem dX0_greatestDraught_4 : decode cX0_greatestDraught 4 = .ok (.aload_n 3, 1) := by decide +kernel
theorem dX0_greatestDraught_5 : decode cX0_greatestDraught 5 = .ok (.ifnull 25, 3) := by decide +kernel
theorem dX0_greatestDraught_8 : decode cX0_greatestDraught 8 = .ok (.aload_n 3, 1) := by decide +kernel
theorem dX0_greatestDraught_9 : decode cX0_greatestDraught 9 = .ok (.aload_n 1, 1) := by decide +kernel
theorem dX0_greatestDraught_10 : decode cX0_greatestDraught 10 = .ok (.if_acmp .eq 20, 3) := by decide +kernel
theorem dX0_greatestDraught_13 : decode cX0_greatestDraught 13 = .ok (.iload_n 2, 1) := by decide +kernel
theorem dX0_greatestDraught_14 : decode cX0_greatestDraught 14 = .ok (.aload_n 3, 1) := by decide +kernel
theorem dX0_greatestDraught_15 : decode cX0_greatestDraught 15 = .ok (.invokevirtual 45, 3) := by decide +kernel
theorem dX0_greatestDraught_18 : decode cX0_greatestDraught 18 = .ok (.invokestatic 39, 3) := by decide +kernel
theorem dX0_greatestDraught_21 : decode cX0_greatestDraught 21 = .ok (.istore_n 2, 1) := by decide +kernel
theorem dX0_greatestDraught_22 : decode cX0_greatestDraught 22 = .ok (.aload_n 3, 1) := by decide +kernel
theorem dX0_greatestDraught_23 : decode cX0_greatestDraught 23 = .ok (.getfield 36, 3) := by decide +kernel
theorem dX0_greatestDraught_26 : decode cX0_greatestDraught 26 = .ok (.astore_n 3, 1) := by decide +kernel
theorem dX0_greatestDraught_27 : decode cX0_greatestDraught 27 = .ok (.goto (-23), 3) := by decide +kernel
theorem dX0_greatestDraught_30 : decode cX0_greatestDraught 30 = .ok (.iload_n 2, 1) := by decide +kernel
theorem dX0_greatestDraught_31 : decode cX0_greatestDraught 31 = .ok (.ireturn, 1) := by decide +kernel
theorem dX0_nextPart_0 : decode cX0_nextPart 0 = .ok (.aload_n 0, 1) := by decide +kernel
theorem dX0_nextPart_1 : decode cX0_nextPart 1 = .ok (.getfield 16, 3) := by decide +kernel
theorem dX0_nextPart_4 : decode cX0_nextPart 4 = .ok (.istore_n 2, 1) := by decide +kernel
theorem dX0_nextPart_5 : decode cX0_nextPart 5 = .ok (.aload_n 0, 1) := by decide +kernel
theorem dX0_nextPart_6 : decode cX0_nextPart 6 = .ok (.getfield 36, 3) := by decide +kernel
theorem dX0_nextPart_9 : decode cX0_nextPart 9 = .ok (.astore_n 3, 1) := by decide +kernel
theorem dX0_nextPart_10 : decode cX0_nextPart 10 = .ok (.aload_n 3, 1) := by decide +kernel
theorem dX0_nextPart_11 : decode cX0_nextPart 11 = .ok (.ifnull 28, 3) := by decide +kernel
theorem dX0_nextPart_14 : decode cX0_nextPart 14 = .ok (.iload_n 2, 1) := by decide +kernel
theorem dX0_nextPart_15 : decode cX0_nextPart 15 = .ok (.aload_n 3, 1) := by decide +kernel
theorem dX0_nextPart_16 : decode cX0_nextPart 16 = .ok (.getfield 16, 3) := by decide +kernel
theorem dX0_nextPart_19 : decode cX0_nextPart 19 = .ok (.iadd, 1) := by decide +kernel
theorem dX0_nextPart_20 : decode cX0_nextPart 20 = .ok (.iload_n 1, 1) := by decide +kernel
theorem dX0_nextPart_21 : decode cX0_nextPart 21 = .ok (.if_icmp .gt 18, 3) := by decide +kernel
theorem dX0_nextPart_24 : decode cX0_nextPart 24 = .ok (.iload_n 2, 1) := by decide +kernel
theorem dX0_nextPart_25 : decode cX0_nextPart 25 = .ok (.aload_n 3, 1) := by decide +kernel
theorem dX0_nextPart_26 : decode cX0_nextPart 26 = .ok (.getfield 16, 3) := by decide +kernel
theorem dX0_nextPart_29 : decode cX0_nextPart 29 = .ok (.iadd, 1) := by decide +kernel
theorem dX0_nextPart_30 : decode cX0_nextPart 30 = .ok (.istore_n 2, 1) := by decide +kernel
theorem dX0_nextPart_31 : decode cX0_nextPart 31 = .ok (.aload_n 3, 1) := by decide +kernel
theorem dX0_nextPart_32 : decode cX0_nextPart 32 = .ok (.getfield 36, 3) := by decide +kernel
theorem dX0_nextPart_35 : decode cX0_nextPart 35 = .ok (.astore_n 3, 1) := by decide +kernel
theorem dX0_nextPart_36 : decode cX0_nextPart 36 = .ok (.goto (-26), 3) := by decide +kernel
theorem dX0_nextPart_39 : decode cX0_nextPart 39 = .ok (.aload_n 3, 1) := by decide +kernel
theorem dX0_nextPart_40 : decode cX0_nextPart 40 = .ok (.areturn, 1) := by decide +kernel
theorem dX0_parts_0 : decode cX0_parts 0 = .ok (.iconst 0, 1) := by decide +kernel
theorem dX0_parts_1 : decode cX0_parts 1 = .ok (.istore_n 2, 1) := by decide +kernel
theorem dX0_parts_2 : decode cX0_parts 2 = .ok (.aload_n 0, 1) := by decide +kernel
theorem dX0_parts_3 : decode cX0_parts 3 = .ok (.astore_n 3, 1) := by decide +kernel
theorem dX0_parts_4 : decode cX0_parts 4 = .ok (.aload_n 3, 1) := by decide +kernel
theorem dX0_parts_5 : decode cX0_parts 5 = .ok (.ifnull 15, 3) := by decide +kernel
theorem dX0_parts_8 : decode cX0_parts 8 = .ok (.iinc 2 1, 3) := by decide +kernel
theorem dX0_parts_11 : decode cX0_parts 11 = .ok (.aload_n 3, 1) := by decide +kernel
theorem dX0_parts_12 : decode cX0_parts 12 = .ok (.iload_n 1, 1) := by decide +kernel
theorem dX0_parts_13 : decode cX0_parts 13 = .ok (.invokevirtual 49, 3) := by decide +kernel
theorem dX0_parts_16 : decode cX0_parts 16 = .ok (.astore_n 3, 1) := by decide +kernel
theorem dX0_parts_17 : decode cX0_parts 17 = .ok (.goto (-13), 3) := by decide +kernel
theorem dX0_parts_20 : decode cX0_parts 20 = .ok (.iload_n 2, 1) := by decide +kernel
theorem dX0_parts_21 : decode cX0_parts 21 = .ok (.ireturn, 1) := by decide +kernel
theorem dX1_init_0 : decode cX1_init 0 = .ok (.aload_n 0, 1) := by decide +kernel
theorem dX1_init_1 : decode cX1_init 1 = .ok (.invokespecial 1, 3) := by decide +kernel
theorem dX1_init_4 : decode cX1_init 4 = .ok (.aload_n 0, 1) := by decide +kernel
theorem dX1_init_5 : decode cX1_init 5 = .ok (.sipush 256, 3) := by decide +kernel
theorem dX1_init_8 : decode cX1_init 8 = .ok (.newarray .int, 2) := by decide +kernel
theorem dX1_init_10 : decode cX1_init 10 = .ok (.putfield 9, 3) := by decide +kernel
theorem dX1_init_13 : decode cX1_init 13 = .ok (.aload_n 0, 1) := by decide +kernel
theorem dX1_init_14 : decode cX1_init 14 = .ok (.sipush 256, 3) := by decide +kernel
theorem dX1_init_17 : decode cX1_init 17 = .ok (.newarray .int, 2) := by decide +kernel
theorem dX1_init_19 : decode cX1_init 19 = .ok (.putfield 13, 3) := by decide +kernel
theorem dX1_init_22 : decode cX1_init 22 = .ok (.aload_n 0, 1) := by decide +kernel
theorem dX1_init_23 : decode cX1_init 23 = .ok (.sipush 256, 3) := by decide +kernel
theorem dX1_init_26 : decode cX1_init 26 = .ok (.newarray .int, 2) := by decide +kernel
theorem dX1_init_28 : decode cX1_init 28 = .ok (.putfield 16, 3) := by decide +kernel
theorem dX1_init_31 : decode cX1_init 31 = .ok (.return_, 1) := by decide +kernel
theorem dX1_add_0 : decode cX1_add 0 = .ok (.aload_n 0, 1) := by decide +kernel
theorem dX1_add_1 : decode cX1_add 1 = .ok (.getfield 19, 3) := by decide +kernel
theorem dX1_add_4 : decode cX1_add 4 = .ok (.ldc 23, 2) := by decide +kernel
theorem dX1_add_6 : decode cX1_add 6 = .ok (.if_icmp .lt 4, 3) := by decide +kernel
theorem dX1_add_9 : decode cX1_add 9 = .ok (.return_, 1) := by decide +kernel
theorem dX1_add_10 : decode cX1_add 10 = .ok (.aload_n 0, 1) := by decide +kernel
theorem dX1_add_11 : decode cX1_add 11 = .ok (.getfield 19, 3) := by decide +kernel
theorem dX1_add_14 : decode cX1_add 14 = .ok (.aload_n 0, 1) := by decide +kernel
theorem dX1_add_15 : decode cX1_add 15 = .ok (.getfield 9, 3) := by decide +kernel
theorem dX1_add_18 : decode cX1_add 18 = .ok (.arraylength, 1) := by decide +kernel
theorem dX1_add_19 : decode cX1_add 19 = .ok (.if_icmp .lt 51, 3) := by decide +kernel
theorem dX1_add_22 : decode cX1_add 22 = .ok (.iconst 2, 1) := by decide +kernel
theorem dX1_add_23 : decode cX1_add 23 = .ok (.aload_n 0, 1) := by decide +kernel
theorem dX1_add_24 : decode cX1_add 24 = .ok (.getfield 9, 3) := by decide +kernel
theorem dX1_add_27 : decode cX1_add 27 = .ok (.arraylength, 1) := by decide +kernel
theorem dX1_add_28 : decode cX1_add 28 = .ok (.imul, 1) := by decide +kernel
theorem dX1_add_29 : decode cX1_add 29 = .ok (.istore 4, 2) := by decide +kernel
theorem dX1_add_31 : decode cX1_add 31 = .ok (.aload_n 0, 1) := by decide +kernel
theorem dX1_add_32 : decode cX1_add 32 = .ok (.aload_n 0, 1) := by decide +kernel
theorem dX1_add_33 : decode cX1_add 33 = .ok (.getfield 9, 3) := by decide +kernel
theorem dX1_add_36 : decode cX1_add 36 = .ok (.iload 4, 2) := by decide +kernel
theorem dX1_add_38 : decode cX1_add 38 = .ok (.invokestatic 24, 3) := by decide +kernel
theorem dX1_add_41 : decode cX1_add 41 = .ok (.putfield 9, 3) := by decide +kernel
theorem dX1_add_44 : decode cX1_add 44 = .ok (.aload_n 0, 1) := by decide +kernel
theorem dX1_add_45 : decode cX1_add 45 = .ok (.aload_n 0, 1) := by decide +kernel
theorem dX1_add_46 : decode cX1_add 46 = .ok (.getfield 13, 3) := by decide +kernel
theorem dX1_add_49 : decode cX1_add 49 = .ok (.iload 4, 2) := by decide +kernel
theorem dX1_add_51 : decode cX1_add 51 = .ok (.invokestatic 24, 3) := by decide +kernel
theorem dX1_add_54 : decode cX1_add 54 = .ok (.putfield 13, 3) := by decide +kernel
theorem dX1_add_57 : decode cX1_add 57 = .ok (.aload_n 0, 1) := by decide +kernel
theorem dX1_add_58 : decode cX1_add 58 = .ok (.aload_n 0, 1) := by decide +kernel
theorem dX1_add_59 : decode cX1_add 59 = .ok (.getfield 16, 3) := by decide +kernel
theorem dX1_add_62 : decode cX1_add 62 = .ok (.iload 4, 2) := by decide +kernel
theorem dX1_add_64 : decode cX1_add 64 = .ok (.invokestatic 24, 3) := by decide +kernel
theorem dX1_add_67 : decode cX1_add 67 = .ok (.putfield 16, 3) := by decide +kernel
theorem dX1_add_70 : decode cX1_add 70 = .ok (.aload_n 0, 1) := by decide +kernel
theorem dX1_add_71 : decode cX1_add 71 = .ok (.getfield 9, 3) := by decide +kernel
theorem dX1_add_74 : decode cX1_add 74 = .ok (.aload_n 0, 1) := by decide +kernel
theorem dX1_add_75 : decode cX1_add 75 = .ok (.getfield 19, 3) := by decide +kernel
theorem dX1_add_78 : decode cX1_add 78 = .ok (.iload_n 1, 1) := by decide +kernel
theorem dX1_add_79 : decode cX1_add 79 = .ok (.iastore, 1) := by decide +kernel
theorem dX1_add_80 : decode cX1_add 80 = .ok (.aload_n 0, 1) := by decide +kernel
theorem dX1_add_81 : decode cX1_add 81 = .ok (.getfield 13, 3) := by decide +kernel
theorem dX1_add_84 : decode cX1_add 84 = .ok (.aload_n 0, 1) := by decide +kernel
theorem dX1_add_85 : decode cX1_add 85 = .ok (.getfield 19, 3) := by decide +kernel
theorem dX1_add_88 : decode cX1_add 88 = .ok (.iload_n 2, 1) := by decide +kernel
theorem dX1_add_89 : decode cX1_add 89 = .ok (.iastore, 1) := by decide +kernel
theorem dX1_add_90 : decode cX1_add 90 = .ok (.aload_n 0, 1) := by decide +kernel
theorem dX1_add_91 : decode cX1_add 91 = .ok (.getfield 16, 3) := by decide +kernel
theorem dX1_add_94 : decode cX1_add 94 = .ok (.aload_n 0, 1) := by decide +kernel
theorem dX1_add_95 : decode cX1_add 95 = .ok (.getfield 19, 3) := by decide +kernel
theorem dX1_add_98 : decode cX1_add 98 = .ok (.iload_n 3, 1) := by decide +kernel
theorem dX1_add_99 : decode cX1_add 99 = .ok (.iastore, 1) := by decide +kernel
theorem dX1_add_100 : decode cX1_add 100 = .ok (.aload_n 0, 1) := by decide +kernel
theorem dX1_add_101 : decode cX1_add 101 = .ok (.dup, 1) := by decide +kernel
theorem dX1_add_102 : decode cX1_add 102 = .ok (.getfield 19, 3) := by decide +kernel
theorem dX1_add_105 : decode cX1_add 105 = .ok (.iconst 1, 1) := by decide +kernel
theorem dX1_add_106 : decode cX1_add 106 = .ok (.iadd, 1) := by decide +kernel
theorem dX1_add_107 : decode cX1_add 107 = .ok (.putfield 19, 3) := by decide +kernel
theorem dX1_add_110 : decode cX1_add 110 = .ok (.return_, 1) := by decide +kernel
theorem dX1_balanceOf_0 : decode cX1_balanceOf 0 = .ok (.iconst 0, 1) := by decide +kernel
theorem dX1_balanceOf_1 : decode cX1_balanceOf 1 = .ok (.istore_n 2, 1) := by decide +kernel
theorem dX1_balanceOf_2 : decode cX1_balanceOf 2 = .ok (.iconst 0, 1) := by decide +kernel
theorem dX1_balanceOf_3 : decode cX1_balanceOf 3 = .ok (.istore_n 3, 1) := by decide +kernel
theorem dX1_balanceOf_4 : decode cX1_balanceOf 4 = .ok (.iload_n 3, 1) := by decide +kernel
theorem dX1_balanceOf_5 : decode cX1_balanceOf 5 = .ok (.aload_n 0, 1) := by decide +kernel
theorem dX1_balanceOf_6 : decode cX1_balanceOf 6 = .ok (.getfield 19, 3) := by decide +kernel
theorem dX1_balanceOf_9 : decode cX1_balanceOf 9 = .ok (.if_icmp .ge 47, 3) := by decide +kernel
theorem dX1_balanceOf_12 : decode cX1_balanceOf 12 = .ok (.aload_n 0, 1) := by decide +kernel
theorem dX1_balanceOf_13 : decode cX1_balanceOf 13 = .ok (.getfield 13, 3) := by decide +kernel
theorem dX1_balanceOf_16 : decode cX1_balanceOf 16 = .ok (.iload_n 3, 1) := by decide +kernel
theorem dX1_balanceOf_17 : decode cX1_balanceOf 17 = .ok (.iaload, 1) := by decide +kernel
theorem dX1_balanceOf_18 : decode cX1_balanceOf 18 = .ok (.iload_n 1, 1) := by decide +kernel
theorem dX1_balanceOf_19 : decode cX1_balanceOf 19 = .ok (.if_icmp .ne 12, 3) := by decide +kernel
theorem dX1_balanceOf_22 : decode cX1_balanceOf 22 = .ok (.iload_n 2, 1) := by decide +kernel
theorem dX1_balanceOf_23 : decode cX1_balanceOf 23 = .ok (.aload_n 0, 1) := by decide +kernel
theorem dX1_balanceOf_24 : decode cX1_balanceOf 24 = .ok (.getfield 16, 3) := by decide +kernel
theorem dX1_balanceOf_27 : decode cX1_balanceOf 27 = .ok (.iload_n 3, 1) := by decide +kernel
theorem dX1_balanceOf_28 : decode cX1_balanceOf 28 = .ok (.iaload, 1) := by decide +kernel
theorem dX1_balanceOf_29 : decode cX1_balanceOf 29 = .ok (.iadd, 1) := by decide +kernel
theorem dX1_balanceOf_30 : decode cX1_balanceOf 30 = .ok (.istore_n 2, 1) := by decide +kernel
theorem dX1_balanceOf_31 : decode cX1_balanceOf 31 = .ok (.aload_n 0, 1) := by decide +kernel
theorem dX1_balanceOf_32 : decode cX1_balanceOf 32 = .ok (.getfield 9, 3) := by decide +kernel
theorem dX1_balanceOf_35 : decode cX1_balanceOf 35 = .ok (.iload_n 3, 1) := by decide +kernel
theorem dX1_balanceOf_36 : decode cX1_balanceOf 36 = .ok (.iaload, 1) := by decide +kernel
theorem dX1_balanceOf_37 : decode cX1_balanceOf 37 = .ok (.iload_n 1, 1) := by decide +kernel
theorem dX1_balanceOf_38 : decode cX1_balanceOf 38 = .ok (.if_icmp .ne 12, 3) := by decide +kernel
theorem dX1_balanceOf_41 : decode cX1_balanceOf 41 = .ok (.iload_n 2, 1) := by decide +kernel
theorem dX1_balanceOf_42 : decode cX1_balanceOf 42 = .ok (.aload_n 0, 1) := by decide +kernel
theorem dX1_balanceOf_43 : decode cX1_balanceOf 43 = .ok (.getfield 16, 3) := by decide +kernel
theorem dX1_balanceOf_46 : decode cX1_balanceOf 46 = .ok (.iload_n 3, 1) := by decide +kernel
theorem dX1_balanceOf_47 : decode cX1_balanceOf 47 = .ok (.iaload, 1) := by decide +kernel
theorem dX1_balanceOf_48 : decode cX1_balanceOf 48 = .ok (.isub, 1) := by decide +kernel
theorem dX1_balanceOf_49 : decode cX1_balanceOf 49 = .ok (.istore_n 2, 1) := by decide +kernel
theorem dX1_balanceOf_50 : decode cX1_balanceOf 50 = .ok (.iinc 3 1, 3) := by decide +kernel
theorem dX1_balanceOf_53 : decode cX1_balanceOf 53 = .ok (.goto (-49), 3) := by decide +kernel
theorem dX1_balanceOf_56 : decode cX1_balanceOf 56 = .ok (.iload_n 2, 1) := by decide +kernel
theorem dX1_balanceOf_57 : decode cX1_balanceOf 57 = .ok (.ireturn, 1) := by decide +kernel
theorem dX2_init_0 : decode cX2_init 0 = .ok (.aload_n 0, 1) := by decide +kernel
theorem dX2_init_1 : decode cX2_init 1 = .ok (.invokespecial 3, 3) := by decide +kernel
theorem dX2_init_4 : decode cX2_init 4 = .ok (.aload_n 0, 1) := by decide +kernel
theorem dX2_init_5 : decode cX2_init 5 = .ok (.bipush 6, 2) := by decide +kernel
theorem dX2_init_7 : decode cX2_init 7 = .ok (.newarray .int, 2) := by decide +kernel
theorem dX2_init_9 : decode cX2_init 9 = .ok (.putfield 9, 3) := by decide +kernel
theorem dX2_init_12 : decode cX2_init 12 = .ok (.aload_n 0, 1) := by decide +kernel
theorem dX2_init_13 : decode cX2_init 13 = .ok (.iconst 5, 1) := by decide +kernel
theorem dX2_init_14 : decode cX2_init 14 = .ok (.newarray .int, 2) := by decide +kernel
theorem dX2_init_16 : decode cX2_init 16 = .ok (.putfield 15, 3) := by decide +kernel
theorem dX2_init_19 : decode cX2_init 19 = .ok (.aload_n 0, 1) := by decide +kernel
theorem dX2_init_20 : decode cX2_init 20 = .ok (.bipush 18, 2) := by decide +kernel
theorem dX2_init_22 : decode cX2_init 22 = .ok (.newarray .int, 2) := by decide +kernel
theorem dX2_init_24 : decode cX2_init 24 = .ok (.putfield 18, 3) := by decide +kernel
theorem dX2_init_27 : decode cX2_init 27 = .ok (.aload_n 0, 1) := by decide +kernel
theorem dX2_init_28 : decode cX2_init 28 = .ok (.iconst 5, 1) := by decide +kernel
theorem dX2_init_29 : decode cX2_init 29 = .ok (.newarray .int, 2) := by decide +kernel
theorem dX2_init_31 : decode cX2_init 31 = .ok (.putfield 21, 3) := by decide +kernel
theorem dX2_init_34 : decode cX2_init 34 = .ok (.aload_n 0, 1) := by decide +kernel
theorem dX2_init_35 : decode cX2_init 35 = .ok (.bipush 18, 2) := by decide +kernel
theorem dX2_init_37 : decode cX2_init 37 = .ok (.newarray .int, 2) := by decide +kernel
theorem dX2_init_39 : decode cX2_init 39 = .ok (.putfield 24, 3) := by decide +kernel
theorem dX2_init_42 : decode cX2_init 42 = .ok (.aload_n 0, 1) := by decide +kernel
theorem dX2_init_43 : decode cX2_init 43 = .ok (.iconst 5, 1) := by decide +kernel
theorem dX2_init_44 : decode cX2_init 44 = .ok (.newarray .int, 2) := by decide +kernel
theorem dX2_init_46 : decode cX2_init 46 = .ok (.putfield 27, 3) := by decide +kernel
theorem dX2_init_49 : decode cX2_init 49 = .ok (.aload_n 0, 1) := by decide +kernel
theorem dX2_init_50 : decode cX2_init 50 = .ok (.new 30, 3) := by decide +kernel
theorem dX2_init_53 : decode cX2_init 53 = .ok (.dup, 1) := by decide +kernel
theorem dX2_init_54 : decode cX2_init 54 = .ok (.invokespecial 32, 3) := by decide +kernel
theorem dX2_init_57 : decode cX2_init 57 = .ok (.putfield 33, 3) := by decide +kernel
theorem dX2_init_60 : decode cX2_init 60 = .ok (.return_, 1) := by decide +kernel
theorem dX2_addBed_0 : decode cX2_addBed 0 = .ok (.aload_n 0, 1) := by decide +kernel
theorem dX2_addBed_1 : decode cX2_addBed 1 = .ok (.getfield 37, 3) := by decide +kernel
theorem dX2_addBed_4 : decode cX2_addBed 4 = .ok (.istore_n 2, 1) := by decide +kernel
theorem dX2_addBed_5 : decode cX2_addBed 5 = .ok (.aload_n 0, 1) := by decide +kernel
theorem dX2_addBed_6 : decode cX2_addBed 6 = .ok (.getfield 9, 3) := by decide +kernel
theorem dX2_addBed_9 : decode cX2_addBed 9 = .ok (.iload_n 2, 1) := by decide +kernel
theorem dX2_addBed_10 : decode cX2_addBed 10 = .ok (.iload_n 1, 1) := by decide +kernel
theorem dX2_addBed_11 : decode cX2_addBed 11 = .ok (.iastore, 1) := by decide +kernel
theorem dX2_addBed_12 : decode cX2_addBed 12 = .ok (.aload_n 0, 1) := by decide +kernel
theorem dX2_addBed_13 : decode cX2_addBed 13 = .ok (.dup, 1) := by decide +kernel
theorem dX2_addBed_14 : decode cX2_addBed 14 = .ok (.getfield 37, 3) := by decide +kernel
theorem dX2_addBed_17 : decode cX2_addBed 17 = .ok (.iconst 1, 1) := by decide +kernel
theorem dX2_addBed_18 : decode cX2_addBed 18 = .ok (.iadd, 1) := by decide +kernel
theorem dX2_addBed_19 : decode cX2_addBed 19 = .ok (.putfield 37, 3) := by decide +kernel
theorem dX2_addBed_22 : decode cX2_addBed 22 = .ok (.iload_n 2, 1) := by decide +kernel
theorem dX2_addBed_23 : decode cX2_addBed 23 = .ok (.ireturn, 1) := by decide +kernel
theorem dX2_at_0 : decode cX2_at 0 = .ok (.aload_n 0, 1) := by decide +kernel
theorem dX2_at_1 : decode cX2_at 1 = .ok (.getfield 18, 3) := by decide +kernel
theorem dX2_at_4 : decode cX2_at 4 = .ok (.iload_n 1, 1) := by decide +kernel
theorem dX2_at_5 : decode cX2_at 5 = .ok (.bipush (-3), 2) := by decide +kernel
theorem dX2_at_7 : decode cX2_at 7 = .ok (.isub, 1) := by decide +kernel
theorem dX2_at_8 : decode cX2_at 8 = .ok (.iaload, 1) := by decide +kernel
theorem dX2_at_9 : decode cX2_at 9 = .ok (.ireturn, 1) := by decide +kernel
theorem dX2_level_0 : decode cX2_level 0 = .ok (.aload_n 0, 1) := by decide +kernel
theorem dX2_level_1 : decode cX2_level 1 = .ok (.iload_n 1, 1) := by decide +kernel
theorem dX2_level_2 : decode cX2_level 2 = .ok (.invokevirtual 41, 3) := by decide +kernel
theorem dX2_level_5 : decode cX2_level 5 = .ok (.aload_n 0, 1) := by decide +kernel
theorem dX2_level_6 : decode cX2_level 6 = .ok (.getfield 9, 3) := by decide +kernel
theorem dX2_level_9 : decode cX2_level 9 = .ok (.iload_n 1, 1) := by decide +kernel
theorem dX2_level_10 : decode cX2_level 10 = .ok (.iaload, 1) := by decide +kernel
theorem dX2_level_11 : decode cX2_level 11 = .ok (.idiv, 1) := by decide +kernel
theorem dX2_level_12 : decode cX2_level 12 = .ok (.ireturn, 1) := by decide +kernel
theorem dX2_hasFullChamber_0 : decode cX2_hasFullChamber 0 = .ok (.aload_n 0, 1) := by decide +kernel
theorem dX2_hasFullChamber_1 : decode cX2_hasFullChamber 1 = .ok (.bipush 10, 2) := by decide +kernel
theorem dX2_hasFullChamber_3 : decode cX2_hasFullChamber 3 = .ok (.iload_n 1, 1) := by decide +kernel
theorem dX2_hasFullChamber_4 : decode cX2_hasFullChamber 4 = .ok (.iadd, 1) := by decide +kernel
theorem dX2_hasFullChamber_5 : decode cX2_hasFullChamber 5 = .ok (.invokevirtual 41, 3) := by decide +kernel
theorem dX2_hasFullChamber_8 : decode cX2_hasFullChamber 8 = .ok (.ifCond .le 7, 3) := by decide +kernel
theorem dX2_hasFullChamber_11 : decode cX2_hasFullChamber 11 = .ok (.iconst 1, 1) := by decide +kernel
theorem dX2_hasFullChamber_12 : decode cX2_hasFullChamber 12 = .ok (.goto 4, 3) := by decide +kernel
theorem dX2_hasFullChamber_15 : decode cX2_hasFullChamber 15 = .ok (.iconst 0, 1) := by decide +kernel
theorem dX2_hasFullChamber_16 : decode cX2_hasFullChamber 16 = .ok (.ireturn, 1) := by decide +kernel
theorem dX2_canFill_0 : decode cX2_canFill 0 = .ok (.aload_n 0, 1) := by decide +kernel
theorem dX2_canFill_1 : decode cX2_canFill 1 = .ok (.iload_n 1, 1) := by decide +kernel
theorem dX2_canFill_2 : decode cX2_canFill 2 = .ok (.invokevirtual 41, 3) := by decide +kernel
theorem dX2_canFill_5 : decode cX2_canFill 5 = .ok (.aload_n 0, 1) := by decide +kernel
theorem dX2_canFill_6 : decode cX2_canFill 6 = .ok (.getfield 15, 3) := by decide +kernel
theorem dX2_canFill_9 : decode cX2_canFill 9 = .ok (.iload_n 1, 1) := by decide +kernel
theorem dX2_canFill_10 : decode cX2_canFill 10 = .ok (.iaload, 1) := by decide +kernel
theorem dX2_canFill_11 : decode cX2_canFill 11 = .ok (.if_icmp .lt 7, 3) := by decide +kernel
theorem dX2_canFill_14 : decode cX2_canFill 14 = .ok (.iconst 1, 1) := by decide +kernel
theorem dX2_canFill_15 : decode cX2_canFill 15 = .ok (.goto 4, 3) := by decide +kernel
theorem dX2_canFill_18 : decode cX2_canFill 18 = .ok (.iconst 0, 1) := by decide +kernel
theorem dX2_canFill_19 : decode cX2_canFill 19 = .ok (.ireturn, 1) := by decide +kernel
theorem dX2_fill_0 : decode cX2_fill 0 = .ok (.aload_n 0, 1) := by decide +kernel
theorem dX2_fill_1 : decode cX2_fill 1 = .ok (.iload_n 1, 1) := by decide +kernel
theorem dX2_fill_2 : decode cX2_fill 2 = .ok (.bipush 10, 2) := by decide +kernel
theorem dX2_fill_4 : decode cX2_fill 4 = .ok (.iload_n 1, 1) := by decide +kernel
theorem dX2_fill_5 : decode cX2_fill 5 = .ok (.iadd, 1) := by decide +kernel
theorem dX2_fill_6 : decode cX2_fill 6 = .ok (.aload_n 0, 1) := by decide +kernel
theorem dX2_fill_7 : decode cX2_fill 7 = .ok (.getfield 15, 3) := by decide +kernel
theorem dX2_fill_10 : decode cX2_fill 10 = .ok (.iload_n 1, 1) := by decide +kernel
theorem dX2_fill_11 : decode cX2_fill 11 = .ok (.iaload, 1) := by decide +kernel
theorem dX2_fill_12 : decode cX2_fill 12 = .ok (.invokevirtual 45, 3) := by decide +kernel
theorem dX2_fill_15 : decode cX2_fill 15 = .ok (.return_, 1) := by decide +kernel
theorem dX2_empty_0 : decode cX2_empty 0 = .ok (.aload_n 0, 1) := by decide +kernel
theorem dX2_empty_1 : decode cX2_empty 1 = .ok (.getfield 21, 3) := by decide +kernel
theorem dX2_empty_4 : decode cX2_empty 4 = .ok (.iload_n 1, 1) := by decide +kernel
theorem dX2_empty_5 : decode cX2_empty 5 = .ok (.dup2, 1) := by decide +kernel
theorem dX2_empty_6 : decode cX2_empty 6 = .ok (.iaload, 1) := by decide +kernel
theorem dX2_empty_7 : decode cX2_empty 7 = .ok (.aload_n 0, 1) := by decide +kernel
theorem dX2_empty_8 : decode cX2_empty 8 = .ok (.getfield 15, 3) := by decide +kernel
theorem dX2_empty_11 : decode cX2_empty 11 = .ok (.iload_n 1, 1) := by decide +kernel
theorem dX2_empty_12 : decode cX2_empty 12 = .ok (.iaload, 1) := by decide +kernel
theorem dX2_empty_13 : decode cX2_empty 13 = .ok (.iadd, 1) := by decide +kernel
theorem dX2_empty_14 : decode cX2_empty 14 = .ok (.iastore, 1) := by decide +kernel
theorem dX2_empty_15 : decode cX2_empty 15 = .ok (.aload_n 0, 1) := by decide +kernel
theorem dX2_empty_16 : decode cX2_empty 16 = .ok (.bipush 10, 2) := by decide +kernel
theorem dX2_empty_18 : decode cX2_empty 18 = .ok (.iload_n 1, 1) := by decide +kernel
theorem dX2_empty_19 : decode cX2_empty 19 = .ok (.iadd, 1) := by decide +kernel
theorem dX2_empty_20 : decode cX2_empty 20 = .ok (.iload_n 1, 1) := by decide +kernel
theorem dX2_empty_21 : decode cX2_empty 21 = .ok (.iconst 1, 1) := by decide +kernel
theorem dX2_empty_22 : decode cX2_empty 22 = .ok (.iadd, 1) := by decide +kernel
theorem dX2_empty_23 : decode cX2_empty 23 = .ok (.aload_n 0, 1) := by decide +kernel
theorem dX2_empty_24 : decode cX2_empty 24 = .ok (.getfield 15, 3) := by decide +kernel
theorem dX2_empty_27 : decode cX2_empty 27 = .ok (.iload_n 1, 1) := by decide +kernel
theorem dX2_empty_28 : decode cX2_empty 28 = .ok (.iaload, 1) := by decide +kernel
theorem dX2_empty_29 : decode cX2_empty 29 = .ok (.invokevirtual 45, 3) := by decide +kernel
theorem dX2_empty_32 : decode cX2_empty 32 = .ok (.return_, 1) := by decide +kernel
theorem dX2_send_0 : decode cX2_send 0 = .ok (.iload_n 1, 1) := by decide +kernel
theorem dX2_send_1 : decode cX2_send 1 = .ok (.istore 4, 2) := by decide +kernel
theorem dX2_send_3 : decode cX2_send 3 = .ok (.iload_n 2, 1) := by decide +kernel
theorem dX2_send_4 : decode cX2_send 4 = .ok (.istore 5, 2) := by decide +kernel
theorem dX2_send_6 : decode cX2_send 6 = .ok (.iload_n 3, 1) := by decide +kernel
theorem dX2_send_7 : decode cX2_send 7 = .ok (.istore 6, 2) := by decide +kernel
theorem dX2_send_9 : decode cX2_send 9 = .ok (.iconst 0, 1) := by decide +kernel
theorem dX2_send_10 : decode cX2_send 10 = .ok (.istore 7, 2) := by decide +kernel
theorem dX2_send_12 : decode cX2_send 12 = .ok (.iload 7, 2) := by decide +kernel
theorem dX2_send_14 : decode cX2_send 14 = .ok (.bipush 6, 2) := by decide +kernel
theorem dX2_send_16 : decode cX2_send 16 = .ok (.if_icmp .gt 91, 3) := by decide +kernel
theorem dX2_send_19 : decode cX2_send 19 = .ok (.iload 6, 2) := by decide +kernel
theorem dX2_send_21 : decode cX2_send 21 = .ok (.ifCond .le 86, 3) := by decide +kernel
theorem dX2_send_24 : decode cX2_send 24 = .ok (.aload_n 0, 1) := by decide +kernel
theorem dX2_send_25 : decode cX2_send 25 = .ok (.getfield 18, 3) := by decide +kernel
theorem dX2_send_28 : decode cX2_send 28 = .ok (.iload 4, 2) := by decide +kernel
theorem dX2_send_30 : decode cX2_send 30 = .ok (.bipush (-3), 2) := by decide +kernel
theorem dX2_send_32 : decode cX2_send 32 = .ok (.isub, 1) := by decide +kernel
theorem dX2_send_33 : decode cX2_send 33 = .ok (.dup2, 1) := by decide +kernel
theorem dX2_send_34 : decode cX2_send 34 = .ok (.iaload, 1) := by decide +kernel
theorem dX2_send_35 : decode cX2_send 35 = .ok (.iload 6, 2) := by decide +kernel
theorem dX2_send_37 : decode cX2_send 37 = .ok (.isub, 1) := by decide +kernel
theorem dX2_send_38 : decode cX2_send 38 = .ok (.iastore, 1) := by decide +kernel
theorem dX2_send_39 : decode cX2_send 39 = .ok (.aload_n 0, 1) := by decide +kernel
theorem dX2_send_40 : decode cX2_send 40 = .ok (.getfield 18, 3) := by decide +kernel
theorem dX2_send_43 : decode cX2_send 43 = .ok (.iload 5, 2) := by decide +kernel
theorem dX2_send_45 : decode cX2_send 45 = .ok (.bipush (-3), 2) := by decide +kernel
theorem dX2_send_47 : decode cX2_send 47 = .ok (.isub, 1) := by decide +kernel
theorem dX2_send_48 : decode cX2_send 48 = .ok (.dup2, 1) := by decide +kernel
theorem dX2_send_49 : decode cX2_send 49 = .ok (.iaload, 1) := by decide +kernel
theorem dX2_send_50 : decode cX2_send 50 = .ok (.iload 6, 2) := by decide +kernel
theorem dX2_send_52 : decode cX2_send 52 = .ok (.iadd, 1) := by decide +kernel
theorem dX2_send_53 : decode cX2_send 53 = .ok (.iastore, 1) := by decide +kernel
theorem dX2_send_54 : decode cX2_send 54 = .ok (.aload_n 0, 1) := by decide +kernel
theorem dX2_send_55 : decode cX2_send 55 = .ok (.getfield 33, 3) := by decide +kernel
theorem dX2_send_58 : decode cX2_send 58 = .ok (.iload 4, 2) := by decide +kernel
theorem dX2_send_60 : decode cX2_send 60 = .ok (.iload 5, 2) := by decide +kernel
theorem dX2_send_62 : decode cX2_send 62 = .ok (.iload 6, 2) := by decide +kernel
theorem dX2_send_64 : decode cX2_send 64 = .ok (.invokevirtual 49, 3) := by decide +kernel
theorem dX2_send_67 : decode cX2_send 67 = .ok (.aload_n 0, 1) := by decide +kernel
theorem dX2_send_68 : decode cX2_send 68 = .ok (.iload 5, 2) := by decide +kernel
theorem dX2_send_70 : decode cX2_send 70 = .ok (.invokevirtual 52, 3) := by decide +kernel
theorem dX2_send_73 : decode cX2_send 73 = .ok (.istore 6, 2) := by decide +kernel
theorem dX2_send_75 : decode cX2_send 75 = .ok (.iload 5, 2) := by decide +kernel
theorem dX2_send_77 : decode cX2_send 77 = .ok (.istore 4, 2) := by decide +kernel
theorem dX2_send_79 : decode cX2_send 79 = .ok (.iload 5, 2) := by decide +kernel
theorem dX2_send_81 : decode cX2_send 81 = .ok (.iconst 1, 1) := by decide +kernel
theorem dX2_send_82 : decode cX2_send 82 = .ok (.iadd, 1) := by decide +kernel
theorem dX2_send_83 : decode cX2_send 83 = .ok (.aload_n 0, 1) := by decide +kernel
theorem dX2_send_84 : decode cX2_send 84 = .ok (.getfield 37, 3) := by decide +kernel
theorem dX2_send_87 : decode cX2_send 87 = .ok (.if_icmp .ge 10, 3) := by decide +kernel
theorem dX2_send_90 : decode cX2_send 90 = .ok (.iload 5, 2) := by decide +kernel
theorem dX2_send_92 : decode cX2_send 92 = .ok (.iconst 1, 1) := by decide +kernel
theorem dX2_send_93 : decode cX2_send 93 = .ok (.iadd, 1) := by decide +kernel
theorem dX2_send_94 : decode cX2_send 94 = .ok (.goto 5, 3) := by decide +kernel
theorem dX2_send_97 : decode cX2_send 97 = .ok (.bipush (-2), 2) := by decide +kernel
theorem dX2_send_99 : decode cX2_send 99 = .ok (.istore 5, 2) := by decide +kernel
theorem dX2_send_101 : decode cX2_send 101 = .ok (.iinc 7 1, 3) := by decide +kernel
theorem dX2_send_104 : decode cX2_send 104 = .ok (.goto (-92), 3) := by decide +kernel
theorem dX2_send_107 : decode cX2_send 107 = .ok (.return_, 1) := by decide +kernel
theorem dX2_excess_0 : decode cX2_excess 0 = .ok (.iload_n 1, 1) := by decide +kernel
theorem dX2_excess_1 : decode cX2_excess 1 = .ok (.ifCond .lt 11, 3) := by decide +kernel
theorem dX2_excess_4 : decode cX2_excess 4 = .ok (.iload_n 1, 1) := by decide +kernel
theorem dX2_excess_5 : decode cX2_excess 5 = .ok (.aload_n 0, 1) := by decide +kernel
theorem dX2_excess_6 : decode cX2_excess 6 = .ok (.getfield 37, 3) := by decide +kernel
theorem dX2_excess_9 : decode cX2_excess 9 = .ok (.if_icmp .lt 5, 3) := by decide +kernel
theorem dX2_excess_12 : decode cX2_excess 12 = .ok (.iconst 0, 1) := by decide +kernel
theorem dX2_excess_13 : decode cX2_excess 13 = .ok (.ireturn, 1) := by decide +kernel
theorem dX2_excess_14 : decode cX2_excess 14 = .ok (.aload_n 0, 1) := by decide +kernel
theorem dX2_excess_15 : decode cX2_excess 15 = .ok (.iload_n 1, 1) := by decide +kernel
theorem dX2_excess_16 : decode cX2_excess 16 = .ok (.invokevirtual 41, 3) := by decide +kernel
theorem dX2_excess_19 : decode cX2_excess 19 = .ok (.bipush 60, 2) := by decide +kernel
theorem dX2_excess_21 : decode cX2_excess 21 = .ok (.aload_n 0, 1) := by decide +kernel
theorem dX2_excess_22 : decode cX2_excess 22 = .ok (.getfield 9, 3) := by decide +kernel
theorem dX2_excess_25 : decode cX2_excess 25 = .ok (.iload_n 1, 1) := by decide +kernel
theorem dX2_excess_26 : decode cX2_excess 26 = .ok (.iaload, 1) := by decide +kernel
theorem dX2_excess_27 : decode cX2_excess 27 = .ok (.imul, 1) := by decide +kernel
theorem dX2_excess_28 : decode cX2_excess 28 = .ok (.isub, 1) := by decide +kernel
theorem dX2_excess_29 : decode cX2_excess 29 = .ok (.ireturn, 1) := by decide +kernel
theorem dX2_throughTotal_0 : decode cX2_throughTotal 0 = .ok (.iconst 0, 1) := by decide +kernel
theorem dX2_throughTotal_1 : decode cX2_throughTotal 1 = .ok (.istore_n 1, 1) := by decide +kernel
theorem dX2_throughTotal_2 : decode cX2_throughTotal 2 = .ok (.iconst 0, 1) := by decide +kernel
theorem dX2_throughTotal_3 : decode cX2_throughTotal 3 = .ok (.istore_n 2, 1) := by decide +kernel
theorem dX2_throughTotal_4 : decode cX2_throughTotal 4 = .ok (.iload_n 2, 1) := by decide +kernel
theorem dX2_throughTotal_5 : decode cX2_throughTotal 5 = .ok (.iconst 5, 1) := by decide +kernel
theorem dX2_throughTotal_6 : decode cX2_throughTotal 6 = .ok (.if_icmp .ge 18, 3) := by decide +kernel
theorem dX2_throughTotal_9 : decode cX2_throughTotal 9 = .ok (.iload_n 1, 1) := by decide +kernel
theorem dX2_throughTotal_10 : decode cX2_throughTotal 10 = .ok (.aload_n 0, 1) := by decide +kernel
theorem dX2_throughTotal_11 : decode cX2_throughTotal 11 = .ok (.getfield 21, 3) := by decide +kernel
theorem dX2_throughTotal_14 : decode cX2_throughTotal 14 = .ok (.iload_n 2, 1) := by decide +kernel
theorem dX2_throughTotal_15 : decode cX2_throughTotal 15 = .ok (.iaload, 1) := by decide +kernel
theorem dX2_throughTotal_16 : decode cX2_throughTotal 16 = .ok (.iadd, 1) := by decide +kernel
theorem dX2_throughTotal_17 : decode cX2_throughTotal 17 = .ok (.istore_n 1, 1) := by decide +kernel
theorem dX2_throughTotal_18 : decode cX2_throughTotal 18 = .ok (.iinc 2 1, 3) := by decide +kernel
theorem dX2_throughTotal_21 : decode cX2_throughTotal 21 = .ok (.goto (-17), 3) := by decide +kernel
theorem dX2_throughTotal_24 : decode cX2_throughTotal 24 = .ok (.iload_n 1, 1) := by decide +kernel
theorem dX2_throughTotal_25 : decode cX2_throughTotal 25 = .ok (.ireturn, 1) := by decide +kernel
theorem dX2_save_0 : decode cX2_save 0 = .ok (.aload_n 0, 1) := by decide +kernel
theorem dX2_save_1 : decode cX2_save 1 = .ok (.getfield 18, 3) := by decide +kernel
theorem dX2_save_4 : decode cX2_save 4 = .ok (.iconst 0, 1) := by decide +kernel
theorem dX2_save_5 : decode cX2_save 5 = .ok (.aload_n 0, 1) := by decide +kernel
theorem dX2_save_6 : decode cX2_save 6 = .ok (.getfield 24, 3) := by decide +kernel
theorem dX2_save_9 : decode cX2_save 9 = .ok (.iconst 0, 1) := by decide +kernel
theorem dX2_save_10 : decode cX2_save 10 = .ok (.bipush 18, 2) := by decide +kernel
theorem dX2_save_12 : decode cX2_save 12 = .ok (.invokestatic 55, 3) := by decide +kernel
theorem dX2_save_15 : decode cX2_save 15 = .ok (.aload_n 0, 1) := by decide +kernel
theorem dX2_save_16 : decode cX2_save 16 = .ok (.getfield 21, 3) := by decide +kernel
theorem dX2_save_19 : decode cX2_save 19 = .ok (.iconst 0, 1) := by decide +kernel
theorem dX2_save_20 : decode cX2_save 20 = .ok (.aload_n 0, 1) := by decide +kernel
theorem dX2_save_21 : decode cX2_save 21 = .ok (.getfield 27, 3) := by decide +kernel
theorem dX2_save_24 : decode cX2_save 24 = .ok (.iconst 0, 1) := by decide +kernel
theorem dX2_save_25 : decode cX2_save 25 = .ok (.iconst 5, 1) := by decide +kernel
theorem dX2_save_26 : decode cX2_save 26 = .ok (.invokestatic 55, 3) := by decide +kernel
theorem dX2_save_29 : decode cX2_save 29 = .ok (.aload_n 0, 1) := by decide +kernel
theorem dX2_save_30 : decode cX2_save 30 = .ok (.aload_n 0, 1) := by decide +kernel
theorem dX2_save_31 : decode cX2_save 31 = .ok (.getfield 33, 3) := by decide +kernel
theorem dX2_save_34 : decode cX2_save 34 = .ok (.getfield 61, 3) := by decide +kernel
theorem dX2_save_37 : decode cX2_save 37 = .ok (.putfield 64, 3) := by decide +kernel
theorem dX2_save_40 : decode cX2_save 40 = .ok (.return_, 1) := by decide +kernel
theorem dX2_restore_0 : decode cX2_restore 0 = .ok (.aload_n 0, 1) := by decide +kernel
theorem dX2_restore_1 : decode cX2_restore 1 = .ok (.getfield 24, 3) := by decide +kernel
theorem dX2_restore_4 : decode cX2_restore 4 = .ok (.iconst 0, 1) := by decide +kernel
theorem dX2_restore_5 : decode cX2_restore 5 = .ok (.aload_n 0, 1) := by decide +kernel
theorem dX2_restore_6 : decode cX2_restore 6 = .ok (.getfield 18, 3) := by decide +kernel
theorem dX2_restore_9 : decode cX2_restore 9 = .ok (.iconst 0, 1) := by decide +kernel
theorem dX2_restore_10 : decode cX2_restore 10 = .ok (.bipush 18, 2) := by decide +kernel
theorem dX2_restore_12 : decode cX2_restore 12 = .ok (.invokestatic 55, 3) := by decide +kernel
theorem dX2_restore_15 : decode cX2_restore 15 = .ok (.aload_n 0, 1) := by decide +kernel
theorem dX2_restore_16 : decode cX2_restore 16 = .ok (.getfield 27, 3) := by decide +kernel
theorem dX2_restore_19 : decode cX2_restore 19 = .ok (.iconst 0, 1) := by decide +kernel
theorem dX2_restore_20 : decode cX2_restore 20 = .ok (.aload_n 0, 1) := by decide +kernel
theorem dX2_restore_21 : decode cX2_restore 21 = .ok (.getfield 21, 3) := by decide +kernel
theorem dX2_restore_24 : decode cX2_restore 24 = .ok (.iconst 0, 1) := by decide +kernel
theorem dX2_restore_25 : decode cX2_restore 25 = .ok (.iconst 5, 1) := by decide +kernel
theorem dX2_restore_26 : decode cX2_restore 26 = .ok (.invokestatic 55, 3) := by decide +kernel
theorem dX2_restore_29 : decode cX2_restore 29 = .ok (.aload_n 0, 1) := by decide +kernel
theorem dX2_restore_30 : decode cX2_restore 30 = .ok (.getfield 33, 3) := by decide +kernel
theorem dX2_restore_33 : decode cX2_restore 33 = .ok (.aload_n 0, 1) := by decide +kernel
theorem dX2_restore_34 : decode cX2_restore 34 = .ok (.getfield 64, 3) := by decide +kernel
theorem dX2_restore_37 : decode cX2_restore 37 = .ok (.putfield 61, 3) := by decide +kernel
theorem dX2_restore_40 : decode cX2_restore 40 = .ok (.return_, 1) := by decide +kernel
theorem dX3_init_0 : decode cX3_init 0 = .ok (.aload_n 0, 1) := by decide +kernel
theorem dX3_init_1 : decode cX3_init 1 = .ok (.invokespecial 3, 3) := by decide +kernel
theorem dX3_init_4 : decode cX3_init 4 = .ok (.aload_n 0, 1) := by decide +kernel
theorem dX3_init_5 : decode cX3_init 5 = .ok (.new 9, 3) := by decide +kernel
theorem dX3_init_8 : decode cX3_init 8 = .ok (.dup, 1) := by decide +kernel
theorem dX3_init_9 : decode cX3_init 9 = .ok (.invokespecial 11, 3) := by decide +kernel
theorem dX3_init_12 : decode cX3_init 12 = .ok (.putfield 12, 3) := by decide +kernel
theorem dX3_init_15 : decode cX3_init 15 = .ok (.aload_n 0, 1) := by decide +kernel
theorem dX3_init_16 : decode cX3_init 16 = .ok (.iconst 5, 1) := by decide +kernel
theorem dX3_init_17 : decode cX3_init 17 = .ok (.newarray .int, 2) := by decide +kernel
theorem dX3_init_19 : decode cX3_init 19 = .ok (.putfield 16, 3) := by decide +kernel
theorem dX3_init_22 : decode cX3_init 22 = .ok (.aload_n 0, 1) := by decide +kernel
theorem dX3_init_23 : decode cX3_init 23 = .ok (.iconst 5, 1) := by decide +kernel
theorem dX3_init_24 : decode cX3_init 24 = .ok (.newarray .int, 2) := by decide +kernel
theorem dX3_init_26 : decode cX3_init 26 = .ok (.putfield 20, 3) := by decide +kernel
theorem dX3_init_29 : decode cX3_init 29 = .ok (.aload_n 0, 1) := by decide +kernel
theorem dX3_init_30 : decode cX3_init 30 = .ok (.bipush 6, 2) := by decide +kernel
theorem dX3_init_32 : decode cX3_init 32 = .ok (.newarray .int, 2) := by decide +kernel
theorem dX3_init_34 : decode cX3_init 34 = .ok (.putfield 23, 3) := by decide +kernel
theorem dX3_init_37 : decode cX3_init 37 = .ok (.aload_n 0, 1) := by decide +kernel
theorem dX3_init_38 : decode cX3_init 38 = .ok (.bipush 6, 2) := by decide +kernel
theorem dX3_init_40 : decode cX3_init 40 = .ok (.newarray .int, 2) := by decide +kernel
theorem dX3_init_42 : decode cX3_init 42 = .ok (.putfield 26, 3) := by decide +kernel
theorem dX3_init_45 : decode cX3_init 45 = .ok (.aload_n 0, 1) := by decide +kernel
theorem dX3_init_46 : decode cX3_init 46 = .ok (.bipush 8, 2) := by decide +kernel
theorem dX3_init_48 : decode cX3_init 48 = .ok (.anewarray 29, 3) := by decide +kernel
theorem dX3_init_51 : decode cX3_init 51 = .ok (.putfield 31, 3) := by decide +kernel
theorem dX3_init_54 : decode cX3_init 54 = .ok (.aload_n 0, 1) := by decide +kernel
theorem dX3_init_55 : decode cX3_init 55 = .ok (.new 35, 3) := by decide +kernel
theorem dX3_init_58 : decode cX3_init 58 = .ok (.dup, 1) := by decide +kernel
theorem dX3_init_59 : decode cX3_init 59 = .ok (.invokespecial 37, 3) := by decide +kernel
theorem dX3_init_62 : decode cX3_init 62 = .ok (.putfield 38, 3) := by decide +kernel
theorem dX3_init_65 : decode cX3_init 65 = .ok (.aload_n 0, 1) := by decide +kernel
theorem dX3_init_66 : decode cX3_init 66 = .ok (.ldc2_w 42, 3) := by decide +kernel
theorem dX3_init_69 : decode cX3_init 69 = .ok (.putfield 44, 3) := by decide +kernel
theorem dX3_init_72 : decode cX3_init 72 = .ok (.aload_n 0, 1) := by decide +kernel
theorem dX3_init_73 : decode cX3_init 73 = .ok (.iconst 0, 1) := by decide +kernel
theorem dX3_init_74 : decode cX3_init 74 = .ok (.putfield 48, 3) := by decide +kernel
theorem dX3_init_77 : decode cX3_init 77 = .ok (.aload_n 0, 1) := by decide +kernel
theorem dX3_init_78 : decode cX3_init 78 = .ok (.bipush 20, 2) := by decide +kernel
theorem dX3_init_80 : decode cX3_init 80 = .ok (.bipush 30, 2) := by decide +kernel
theorem dX3_init_82 : decode cX3_init 82 = .ok (.invokevirtual 52, 3) := by decide +kernel
theorem dX3_init_85 : decode cX3_init 85 = .ok (.pop, 1) := by decide +kernel
theorem dX3_init_86 : decode cX3_init 86 = .ok (.return_, 1) := by decide +kernel
theorem dX3_addReach_0 : decode cX3_addReach 0 = .ok (.iload_n 1, 1) := by decide +kernel
theorem dX3_addReach_1 : decode cX3_addReach 1 = .ok (.iconst 1, 1) := by decide +kernel
theorem dX3_addReach_2 : decode cX3_addReach 2 = .ok (.bipush 50, 2) := by decide +kernel
theorem dX3_addReach_4 : decode cX3_addReach 4 = .ok (.invokestatic 56, 3) := by decide +kernel
theorem dX3_addReach_7 : decode cX3_addReach 7 = .ok (.ifCond .eq 48, 3) := by decide +kernel
theorem dX3_addReach_10 : decode cX3_addReach 10 = .ok (.iload_n 2, 1) := by decide +kernel
theorem dX3_addReach_11 : decode cX3_addReach 11 = .ok (.iconst 0, 1) := by decide +kernel
theorem dX3_addReach_12 : decode cX3_addReach 12 = .ok (.bipush 60, 2) := by decide +kernel
theorem dX3_addReach_14 : decode cX3_addReach 14 = .ok (.invokestatic 56, 3) := by decide +kernel
theorem dX3_addReach_17 : decode cX3_addReach 17 = .ok (.ifCond .eq 38, 3) := by decide +kernel
theorem dX3_addReach_20 : decode cX3_addReach 20 = .ok (.iload_n 3, 1) := by decide +kernel
theorem dX3_addReach_21 : decode cX3_addReach 21 = .ok (.iconst 1, 1) := by decide +kernel
theorem dX3_addReach_22 : decode cX3_addReach 22 = .ok (.sipush 200, 3) := by decide +kernel
theorem dX3_addReach_25 : decode cX3_addReach 25 = .ok (.invokestatic 56, 3) := by decide +kernel
theorem dX3_addReach_28 : decode cX3_addReach 28 = .ok (.ifCond .eq 27, 3) := by decide +kernel
theorem dX3_addReach_31 : decode cX3_addReach 31 = .ok (.iload 4, 2) := by decide +kernel
theorem dX3_addReach_33 : decode cX3_addReach 33 = .ok (.bipush 10, 2) := by decide +kernel
theorem dX3_addReach_35 : decode cX3_addReach 35 = .ok (.sipush 200, 3) := by decide +kernel
theorem dX3_addReach_38 : decode cX3_addReach 38 = .ok (.invokestatic 56, 3) := by decide +kernel
theorem dX3_addReach_41 : decode cX3_addReach 41 = .ok (.ifCond .eq 14, 3) := by decide +kernel
theorem dX3_addReach_44 : decode cX3_addReach 44 = .ok (.iload 5, 2) := by decide +kernel
theorem dX3_addReach_46 : decode cX3_addReach 46 = .ok (.iconst 5, 1) := by decide +kernel
theorem dX3_addReach_47 : decode cX3_addReach 47 = .ok (.bipush 60, 2) := by decide +kernel
theorem dX3_addReach_49 : decode cX3_addReach 49 = .ok (.invokestatic 56, 3) := by decide +kernel
theorem dX3_addReach_52 : decode cX3_addReach 52 = .ok (.ifCond .ne 13, 3) := by decide +kernel
theorem dX3_addReach_55 : decode cX3_addReach 55 = .ok (.new 60, 3) := by decide +kernel
theorem dX3_addReach_58 : decode cX3_addReach 58 = .ok (.dup, 1) := by decide +kernel
theorem dX3_addReach_59 : decode cX3_addReach 59 = .ok (.ldc 62, 2) := by decide +kernel
theorem dX3_addReach_61 : decode cX3_addReach 61 = .ok (.invokespecial 64, 3) := by decide +kernel
theorem dX3_addReach_64 : decode cX3_addReach 64 = .ok (.athrow, 1) := by decide +kernel
theorem dX3_addReach_65 : decode cX3_addReach 65 = .ok (.aload_n 0, 1) := by decide +kernel
theorem dX3_addReach_66 : decode cX3_addReach 66 = .ok (.getfield 12, 3) := by decide +kernel
theorem dX3_addReach_69 : decode cX3_addReach 69 = .ok (.getfield 67, 3) := by decide +kernel
theorem dX3_addReach_72 : decode cX3_addReach 72 = .ok (.bipush 6, 2) := by decide +kernel
theorem dX3_addReach_74 : decode cX3_addReach 74 = .ok (.if_icmp .lt 13, 3) := by decide +kernel
theorem dX3_addReach_77 : decode cX3_addReach 77 = .ok (.new 70, 3) := by decide +kernel
theorem dX3_addReach_80 : decode cX3_addReach 80 = .ok (.dup, 1) := by decide +kernel
theorem dX3_addReach_81 : decode cX3_addReach 81 = .ok (.ldc 72, 2) := by decide +kernel
theorem dX3_addReach_83 : decode cX3_addReach 83 = .ok (.invokespecial 74, 3) := by decide +kernel
theorem dX3_addReach_86 : decode cX3_addReach 86 = .ok (.athrow, 1) := by decide +kernel
theorem dX3_addReach_87 : decode cX3_addReach 87 = .ok (.aload_n 0, 1) := by decide +kernel
theorem dX3_addReach_88 : decode cX3_addReach 88 = .ok (.getfield 12, 3) := by decide +kernel
theorem dX3_addReach_91 : decode cX3_addReach 91 = .ok (.getfield 67, 3) := by decide +kernel
theorem dX3_addReach_94 : decode cX3_addReach 94 = .ok (.iconst 1, 1) := by decide +kernel
theorem dX3_addReach_95 : decode cX3_addReach 95 = .ok (.isub, 1) := by decide +kernel
theorem dX3_addReach_96 : decode cX3_addReach 96 = .ok (.istore 6, 2) := by decide +kernel
theorem dX3_addReach_98 : decode cX3_addReach 98 = .ok (.aload_n 0, 1) := by decide +kernel
theorem dX3_addReach_99 : decode cX3_addReach 99 = .ok (.getfield 12, 3) := by decide +kernel
theorem dX3_addReach_102 : decode cX3_addReach 102 = .ok (.getfield 75, 3) := by decide +kernel
theorem dX3_addReach_105 : decode cX3_addReach 105 = .ok (.iload 6, 2) := by decide +kernel
theorem dX3_addReach_107 : decode cX3_addReach 107 = .ok (.iload_n 3, 1) := by decide +kernel
theorem dX3_addReach_108 : decode cX3_addReach 108 = .ok (.iastore, 1) := by decide +kernel
theorem dX3_addReach_109 : decode cX3_addReach 109 = .ok (.aload_n 0, 1) := by decide +kernel
theorem dX3_addReach_110 : decode cX3_addReach 110 = .ok (.getfield 16, 3) := by decide +kernel
theorem dX3_addReach_113 : decode cX3_addReach 113 = .ok (.iload 6, 2) := by decide +kernel
theorem dX3_addReach_115 : decode cX3_addReach 115 = .ok (.iload 4, 2) := by decide +kernel
theorem dX3_addReach_117 : decode cX3_addReach 117 = .ok (.iastore, 1) := by decide +kernel
theorem dX3_addReach_118 : decode cX3_addReach 118 = .ok (.aload_n 0, 1) := by decide +kernel
theorem dX3_addReach_119 : decode cX3_addReach 119 = .ok (.getfield 20, 3) := by decide +kernel
theorem dX3_addReach_122 : decode cX3_addReach 122 = .ok (.iload 6, 2) := by decide +kernel
theorem dX3_addReach_124 : decode cX3_addReach 124 = .ok (.iload 5, 2) := by decide +kernel
theorem dX3_addReach_126 : decode cX3_addReach 126 = .ok (.iastore, 1) := by decide +kernel
theorem dX3_addReach_127 : decode cX3_addReach 127 = .ok (.aload_n 0, 1) := by decide +kernel
theorem dX3_addReach_128 : decode cX3_addReach 128 = .ok (.iload_n 1, 1) := by decide +kernel
theorem dX3_addReach_129 : decode cX3_addReach 129 = .ok (.iload_n 2, 1) := by decide +kernel
theorem dX3_addReach_130 : decode cX3_addReach 130 = .ok (.invokevirtual 52, 3) := by decide +kernel
theorem dX3_addReach_133 : decode cX3_addReach 133 = .ok (.ireturn, 1) := by decide +kernel
theorem dX3_reachCount_0 : decode cX3_reachCount 0 = .ok (.aload_n 0, 1) := by decide +kernel
theorem dX3_reachCount_1 : decode cX3_reachCount 1 = .ok (.getfield 12, 3) := by decide +kernel
theorem dX3_reachCount_4 : decode cX3_reachCount 4 = .ok (.getfield 67, 3) := by decide +kernel
theorem dX3_reachCount_7 : decode cX3_reachCount 7 = .ok (.ireturn, 1) := by decide +kernel
theorem dX3_areaOf_0 : decode cX3_areaOf 0 = .ok (.aload_n 0, 1) := by decide +kernel
theorem dX3_areaOf_1 : decode cX3_areaOf 1 = .ok (.iload_n 1, 1) := by decide +kernel
theorem dX3_areaOf_2 : decode cX3_areaOf 2 = .ok (.invokevirtual 78, 3) := by decide +kernel
theorem dX3_areaOf_5 : decode cX3_areaOf 5 = .ok (.aload_n 0, 1) := by decide +kernel
theorem dX3_areaOf_6 : decode cX3_areaOf 6 = .ok (.getfield 12, 3) := by decide +kernel
theorem dX3_areaOf_9 : decode cX3_areaOf 9 = .ok (.getfield 82, 3) := by decide +kernel
theorem dX3_areaOf_12 : decode cX3_areaOf 12 = .ok (.iload_n 1, 1) := by decide +kernel
theorem dX3_areaOf_13 : decode cX3_areaOf 13 = .ok (.iaload, 1) := by decide +kernel
theorem dX3_areaOf_14 : decode cX3_areaOf 14 = .ok (.ireturn, 1) := by decide +kernel
theorem dX3_volumeOf_0 : decode cX3_volumeOf 0 = .ok (.aload_n 0, 1) := by decide +kernel
theorem dX3_volumeOf_1 : decode cX3_volumeOf 1 = .ok (.iload_n 1, 1) := by decide +kernel
theorem dX3_volumeOf_2 : decode cX3_volumeOf 2 = .ok (.invokevirtual 78, 3) := by decide +kernel
theorem dX3_volumeOf_5 : decode cX3_volumeOf 5 = .ok (.aload_n 0, 1) := by decide +kernel
theorem dX3_volumeOf_6 : decode cX3_volumeOf 6 = .ok (.getfield 12, 3) := by decide +kernel
theorem dX3_volumeOf_9 : decode cX3_volumeOf 9 = .ok (.iload_n 1, 1) := by decide +kernel
theorem dX3_volumeOf_10 : decode cX3_volumeOf 10 = .ok (.invokevirtual 85, 3) := by decide +kernel
theorem dX3_volumeOf_13 : decode cX3_volumeOf 13 = .ok (.ireturn, 1) := by decide +kernel
theorem dX3_volumeBySteps_0 : decode cX3_volumeBySteps 0 = .ok (.aload_n 0, 1) := by decide +kernel
theorem dX3_volumeBySteps_1 : decode cX3_volumeBySteps 1 = .ok (.iload_n 1, 1) := by decide +kernel
theorem dX3_volumeBySteps_2 : decode cX3_volumeBySteps 2 = .ok (.invokevirtual 78, 3) := by decide +kernel
theorem dX3_volumeBySteps_5 : decode cX3_volumeBySteps 5 = .ok (.aload_n 0, 1) := by decide +kernel
theorem dX3_volumeBySteps_6 : decode cX3_volumeBySteps 6 = .ok (.getfield 12, 3) := by decide +kernel
theorem dX3_volumeBySteps_9 : decode cX3_volumeBySteps 9 = .ok (.getfield 89, 3) := by decide +kernel
theorem dX3_volumeBySteps_12 : decode cX3_volumeBySteps 12 = .ok (.iload_n 1, 1) := by decide +kernel
theorem dX3_volumeBySteps_13 : decode cX3_volumeBySteps 13 = .ok (.invokevirtual 93, 3) := by decide +kernel
theorem dX3_volumeBySteps_16 : decode cX3_volumeBySteps 16 = .ok (.ireturn, 1) := by decide +kernel
theorem dX3_levelOf_0 : decode cX3_levelOf 0 = .ok (.aload_n 0, 1) := by decide +kernel
theorem dX3_levelOf_1 : decode cX3_levelOf 1 = .ok (.iload_n 1, 1) := by decide +kernel
theorem dX3_levelOf_2 : decode cX3_levelOf 2 = .ok (.invokevirtual 78, 3) := by decide +kernel
theorem dX3_levelOf_5 : decode cX3_levelOf 5 = .ok (.aload_n 0, 1) := by decide +kernel
theorem dX3_levelOf_6 : decode cX3_levelOf 6 = .ok (.getfield 12, 3) := by decide +kernel
theorem dX3_levelOf_9 : decode cX3_levelOf 9 = .ok (.iload_n 1, 1) := by decide +kernel
theorem dX3_levelOf_10 : decode cX3_levelOf 10 = .ok (.invokevirtual 98, 3) := by decide +kernel
theorem dX3_levelOf_13 : decode cX3_levelOf 13 = .ok (.ireturn, 1) := by decide +kernel
theorem dX3_lockfulOf_0 : decode cX3_lockfulOf 0 = .ok (.aload_n 0, 1) := by decide +kernel
theorem dX3_lockfulOf_1 : decode cX3_lockfulOf 1 = .ok (.iload_n 1, 1) := by decide +kernel
theorem dX3_lockfulOf_2 : decode cX3_lockfulOf 2 = .ok (.invokevirtual 101, 3) := by decide +kernel
theorem dX3_lockfulOf_5 : decode cX3_lockfulOf 5 = .ok (.aload_n 0, 1) := by decide +kernel
theorem dX3_lockfulOf_6 : decode cX3_lockfulOf 6 = .ok (.getfield 12, 3) := by decide +kernel
theorem dX3_lockfulOf_9 : decode cX3_lockfulOf 9 = .ok (.getfield 75, 3) := by decide +kernel
theorem dX3_lockfulOf_12 : decode cX3_lockfulOf 12 = .ok (.iload_n 1, 1) := by decide +kernel
theorem dX3_lockfulOf_13 : decode cX3_lockfulOf 13 = .ok (.iaload, 1) := by decide +kernel
theorem dX3_lockfulOf_14 : decode cX3_lockfulOf 14 = .ok (.ireturn, 1) := by decide +kernel
theorem dX3_lengthOf_0 : decode cX3_lengthOf 0 = .ok (.aload_n 0, 1) := by decide +kernel
theorem dX3_lengthOf_1 : decode cX3_lengthOf 1 = .ok (.iload_n 1, 1) := by decide +kernel
theorem dX3_lengthOf_2 : decode cX3_lengthOf 2 = .ok (.invokevirtual 101, 3) := by decide +kernel
theorem dX3_lengthOf_5 : decode cX3_lengthOf 5 = .ok (.aload_n 0, 1) := by decide +kernel
theorem dX3_lengthOf_6 : decode cX3_lengthOf 6 = .ok (.getfield 16, 3) := by decide +kernel
theorem dX3_lengthOf_9 : decode cX3_lengthOf 9 = .ok (.iload_n 1, 1) := by decide +kernel
theorem dX3_lengthOf_10 : decode cX3_lengthOf 10 = .ok (.iaload, 1) := by decide +kernel
theorem dX3_lengthOf_11 : decode cX3_lengthOf 11 = .ok (.ireturn, 1) := by decide +kernel
theorem dX3_sillOf_0 : decode cX3_sillOf 0 = .ok (.aload_n 0, 1) := by decide +kernel
theorem dX3_sillOf_1 : decode cX3_sillOf 1 = .ok (.iload_n 1, 1) := by decide +kernel
theorem dX3_sillOf_2 : decode cX3_sillOf 2 = .ok (.invokevirtual 101, 3) := by decide +kernel
theorem dX3_sillOf_5 : decode cX3_sillOf 5 = .ok (.aload_n 0, 1) := by decide +kernel
theorem dX3_sillOf_6 : decode cX3_sillOf 6 = .ok (.getfield 20, 3) := by decide +kernel
theorem dX3_sillOf_9 : decode cX3_sillOf 9 = .ok (.iload_n 1, 1) := by decide +kernel
theorem dX3_sillOf_10 : decode cX3_sillOf 10 = .ok (.iaload, 1) := by decide +kernel
theorem dX3_sillOf_11 : decode cX3_sillOf 11 = .ok (.ireturn, 1) := by decide +kernel
theorem dX3_isFull_0 : decode cX3_isFull 0 = .ok (.aload_n 0, 1) := by decide +kernel
theorem dX3_isFull_1 : decode cX3_isFull 1 = .ok (.iload_n 1, 1) := by decide +kernel
theorem dX3_isFull_2 : decode cX3_isFull 2 = .ok (.invokevirtual 101, 3) := by decide +kernel
theorem dX3_isFull_5 : decode cX3_isFull 5 = .ok (.aload_n 0, 1) := by decide +kernel
theorem dX3_isFull_6 : decode cX3_isFull 6 = .ok (.getfield 12, 3) := by decide +kernel
theorem dX3_isFull_9 : decode cX3_isFull 9 = .ok (.iload_n 1, 1) := by decide +kernel
theorem dX3_isFull_10 : decode cX3_isFull 10 = .ok (.invokevirtual 104, 3) := by decide +kernel
theorem dX3_isFull_13 : decode cX3_isFull 13 = .ok (.ireturn, 1) := by decide +kernel
theorem dX3_turn_0 : decode cX3_turn 0 = .ok (.aload_n 0, 1) := by decide +kernel
theorem dX3_turn_1 : decode cX3_turn 1 = .ok (.iload_n 1, 1) := by decide +kernel
theorem dX3_turn_2 : decode cX3_turn 2 = .ok (.invokevirtual 101, 3) := by decide +kernel
theorem dX3_turn_5 : decode cX3_turn 5 = .ok (.aload_n 0, 1) := by decide +kernel
theorem dX3_turn_6 : decode cX3_turn 6 = .ok (.getfield 12, 3) := by decide +kernel
theorem dX3_turn_9 : decode cX3_turn 9 = .ok (.iload_n 1, 1) := by decide +kernel
theorem dX3_turn_10 : decode cX3_turn 10 = .ok (.invokevirtual 104, 3) := by decide +kernel
theorem dX3_turn_13 : decode cX3_turn 13 = .ok (.ifCond .eq 13, 3) := by decide +kernel
theorem dX3_turn_16 : decode cX3_turn 16 = .ok (.aload_n 0, 1) := by decide +kernel
theorem dX3_turn_17 : decode cX3_turn 17 = .ok (.getfield 12, 3) := by decide +kernel
theorem dX3_turn_20 : decode cX3_turn 20 = .ok (.iload_n 1, 1) := by decide +kernel
theorem dX3_turn_21 : decode cX3_turn 21 = .ok (.invokevirtual 108, 3) := by decide +kernel
theorem dX3_turn_24 : decode cX3_turn 24 = .ok (.iconst 0, 1) := by decide +kernel
theorem dX3_turn_25 : decode cX3_turn 25 = .ok (.ireturn, 1) := by decide +kernel
theorem dX3_turn_26 : decode cX3_turn 26 = .ok (.aload_n 0, 1) := by decide +kernel
theorem dX3_turn_27 : decode cX3_turn 27 = .ok (.getfield 12, 3) := by decide +kernel
theorem dX3_turn_30 : decode cX3_turn 30 = .ok (.iload_n 1, 1) := by decide +kernel
theorem dX3_turn_31 : decode cX3_turn 31 = .ok (.invokevirtual 111, 3) := by decide +kernel
theorem dX3_turn_34 : decode cX3_turn 34 = .ok (.ifCond .ne 13, 3) := by decide +kernel
theorem dX3_turn_37 : decode cX3_turn 37 = .ok (.new 114, 3) := by decide +kernel
theorem dX3_turn_40 : decode cX3_turn 40 = .ok (.dup, 1) := by decide +kernel
theorem dX3_turn_41 : decode cX3_turn 41 = .ok (.ldc 116, 2) := by decide +kernel
theorem dX3_turn_43 : decode cX3_turn 43 = .ok (.invokespecial 118, 3) := by decide +kernel
theorem dX3_turn_46 : decode cX3_turn 46 = .ok (.athrow, 1) := by decide +kernel
theorem dX3_turn_47 : decode cX3_turn 47 = .ok (.aload_n 0, 1) := by decide +kernel
theorem dX3_turn_48 : decode cX3_turn 48 = .ok (.getfield 12, 3) := by decide +kernel
theorem dX3_turn_51 : decode cX3_turn 51 = .ok (.iload_n 1, 1) := by decide +kernel
theorem dX3_turn_52 : decode cX3_turn 52 = .ok (.invokevirtual 119, 3) := by decide +kernel
theorem dX3_turn_55 : decode cX3_turn 55 = .ok (.iconst 1, 1) := by decide +kernel
theorem dX3_turn_56 : decode cX3_turn 56 = .ok (.ireturn, 1) := by decide +kernel
theorem dX3_waterThrough_0 : decode cX3_waterThrough 0 = .ok (.aload_n 0, 1) := by decide +kernel
theorem dX3_waterThrough_1 : decode cX3_waterThrough 1 = .ok (.iload_n 1, 1) := by decide +kernel
theorem dX3_waterThrough_2 : decode cX3_waterThrough 2 = .ok (.invokevirtual 101, 3) := by decide +kernel
theorem dX3_waterThrough_5 : decode cX3_waterThrough 5 = .ok (.aload_n 0, 1) := by decide +kernel
theorem dX3_waterThrough_6 : decode cX3_waterThrough 6 = .ok (.getfield 12, 3) := by decide +kernel
theorem dX3_waterThrough_9 : decode cX3_waterThrough 9 = .ok (.getfield 122, 3) := by decide +kernel
theorem dX3_waterThrough_12 : decode cX3_waterThrough 12 = .ok (.iload_n 1, 1) := by decide +kernel
theorem dX3_waterThrough_13 : decode cX3_waterThrough 13 = .ok (.iaload, 1) := by decide +kernel
theorem dX3_waterThrough_14 : decode cX3_waterThrough 14 = .ok (.ireturn, 1) := by decide +kernel
theorem dX3_rain_0 : decode cX3_rain 0 = .ok (.aload_n 0, 1) := by decide +kernel
theorem dX3_rain_1 : decode cX3_rain 1 = .ok (.iload_n 1, 1) := by decide +kernel
theorem dX3_rain_2 : decode cX3_rain 2 = .ok (.invokevirtual 78, 3) := by decide +kernel
theorem dX3_rain_5 : decode cX3_rain 5 = .ok (.iload_n 2, 1) := by decide +kernel
theorem dX3_rain_6 : decode cX3_rain 6 = .ok (.iconst 1, 1) := by decide +kernel
theorem dX3_rain_7 : decode cX3_rain 7 = .ok (.sipush 5000, 3) := by decide +kernel
theorem dX3_rain_10 : decode cX3_rain 10 = .ok (.invokestatic 56, 3) := by decide +kernel
theorem dX3_rain_13 : decode cX3_rain 13 = .ok (.ifCond .ne 13, 3) := by decide +kernel
theorem dX3_rain_16 : decode cX3_rain 16 = .ok (.new 60, 3) := by decide +kernel
theorem dX3_rain_19 : decode cX3_rain 19 = .ok (.dup, 1) := by decide +kernel
theorem dX3_rain_20 : decode cX3_rain 20 = .ok (.ldc 125, 2) := by decide +kernel
theorem dX3_rain_22 : decode cX3_rain 22 = .ok (.invokespecial 64, 3) := by decide +kernel
theorem dX3_rain_25 : decode cX3_rain 25 = .ok (.athrow, 1) := by decide +kernel
theorem dX3_rain_26 : decode cX3_rain 26 = .ok (.aload_n 0, 1) := by decide +kernel
theorem dX3_rain_27 : decode cX3_rain 27 = .ok (.getfield 12, 3) := by decide +kernel
theorem dX3_rain_30 : decode cX3_rain 30 = .ok (.bipush (-2), 2) := by decide +kernel
theorem dX3_rain_32 : decode cX3_rain 32 = .ok (.invokevirtual 85, 3) := by decide +kernel
theorem dX3_rain_35 : decode cX3_rain 35 = .ok (.istore_n 3, 1) := by decide +kernel
theorem dX3_rain_36 : decode cX3_rain 36 = .ok (.aload_n 0, 1) := by decide +kernel
theorem dX3_rain_37 : decode cX3_rain 37 = .ok (.getfield 12, 3) := by decide +kernel
theorem dX3_rain_40 : decode cX3_rain 40 = .ok (.iconst (-1), 1) := by decide +kernel
theorem dX3_rain_41 : decode cX3_rain 41 = .ok (.iload_n 1, 1) := by decide +kernel
theorem dX3_rain_42 : decode cX3_rain 42 = .ok (.iload_n 2, 1) := by decide +kernel
theorem dX3_rain_43 : decode cX3_rain 43 = .ok (.invokevirtual 127, 3) := by decide +kernel
theorem dX3_rain_46 : decode cX3_rain 46 = .ok (.aload_n 0, 1) := by decide +kernel
theorem dX3_rain_47 : decode cX3_rain 47 = .ok (.getfield 12, 3) := by decide +kernel
theorem dX3_rain_50 : decode cX3_rain 50 = .ok (.bipush (-2), 2) := by decide +kernel
theorem dX3_rain_52 : decode cX3_rain 52 = .ok (.invokevirtual 85, 3) := by decide +kernel
theorem dX3_rain_55 : decode cX3_rain 55 = .ok (.iload_n 3, 1) := by decide +kernel
theorem dX3_rain_56 : decode cX3_rain 56 = .ok (.isub, 1) := by decide +kernel
theorem dX3_rain_57 : decode cX3_rain 57 = .ok (.ireturn, 1) := by decide +kernel
theorem dX3_endWeek_0 : decode cX3_endWeek 0 = .ok (.iconst 0, 1) := by decide +kernel
theorem dX3_endWeek_1 : decode cX3_endWeek 1 = .ok (.istore_n 1, 1) := by decide +kernel
theorem dX3_endWeek_2 : decode cX3_endWeek 2 = .ok (.iload_n 1, 1) := by decide +kernel
theorem dX3_endWeek_3 : decode cX3_endWeek 3 = .ok (.aload_n 0, 1) := by decide +kernel
theorem dX3_endWeek_4 : decode cX3_endWeek 4 = .ok (.getfield 12, 3) := by decide +kernel
theorem dX3_endWeek_7 : decode cX3_endWeek 7 = .ok (.getfield 67, 3) := by decide +kernel
theorem dX3_endWeek_10 : decode cX3_endWeek 10 = .ok (.if_icmp .ge 39, 3) := by decide +kernel
theorem dX3_endWeek_13 : decode cX3_endWeek 13 = .ok (.aload_n 0, 1) := by decide +kernel
theorem dX3_endWeek_14 : decode cX3_endWeek 14 = .ok (.getfield 12, 3) := by decide +kernel
theorem dX3_endWeek_17 : decode cX3_endWeek 17 = .ok (.iload_n 1, 1) := by decide +kernel
theorem dX3_endWeek_18 : decode cX3_endWeek 18 = .ok (.bipush (-3), 2) := by decide +kernel
theorem dX3_endWeek_20 : decode cX3_endWeek 20 = .ok (.aload_n 0, 1) := by decide +kernel
theorem dX3_endWeek_21 : decode cX3_endWeek 21 = .ok (.getfield 12, 3) := by decide +kernel
theorem dX3_endWeek_24 : decode cX3_endWeek 24 = .ok (.getfield 82, 3) := by decide +kernel
theorem dX3_endWeek_27 : decode cX3_endWeek 27 = .ok (.iload_n 1, 1) := by decide +kernel
theorem dX3_endWeek_28 : decode cX3_endWeek 28 = .ok (.iaload, 1) := by decide +kernel
theorem dX3_endWeek_29 : decode cX3_endWeek 29 = .ok (.aload_n 0, 1) := by decide +kernel
theorem dX3_endWeek_30 : decode cX3_endWeek 30 = .ok (.getfield 12, 3) := by decide +kernel
theorem dX3_endWeek_33 : decode cX3_endWeek 33 = .ok (.iload_n 1, 1) := by decide +kernel
theorem dX3_endWeek_34 : decode cX3_endWeek 34 = .ok (.invokevirtual 85, 3) := by decide +kernel
theorem dX3_endWeek_37 : decode cX3_endWeek 37 = .ok (.invokestatic 131, 3) := by decide +kernel
theorem dX3_endWeek_40 : decode cX3_endWeek 40 = .ok (.invokevirtual 127, 3) := by decide +kernel
theorem dX3_endWeek_43 : decode cX3_endWeek 43 = .ok (.iinc 1 1, 3) := by decide +kernel
theorem dX3_endWeek_46 : decode cX3_endWeek 46 = .ok (.goto (-44), 3) := by decide +kernel
theorem dX3_endWeek_49 : decode cX3_endWeek 49 = .ok (.iconst 0, 1) := by decide +kernel
theorem dX3_endWeek_50 : decode cX3_endWeek 50 = .ok (.istore_n 1, 1) := by decide +kernel
theorem dX3_endWeek_51 : decode cX3_endWeek 51 = .ok (.iconst 0, 1) := by decide +kernel
theorem dX3_endWeek_52 : decode cX3_endWeek 52 = .ok (.istore_n 2, 1) := by decide +kernel
theorem dX3_endWeek_53 : decode cX3_endWeek 53 = .ok (.iload_n 2, 1) := by decide +kernel
theorem dX3_endWeek_54 : decode cX3_endWeek 54 = .ok (.aload_n 0, 1) := by decide +kernel
theorem dX3_endWeek_55 : decode cX3_endWeek 55 = .ok (.getfield 12, 3) := by decide +kernel
theorem dX3_endWeek_58 : decode cX3_endWeek 58 = .ok (.getfield 67, 3) := by decide +kernel
theorem dX3_endWeek_61 : decode cX3_endWeek 61 = .ok (.if_icmp .ge 65, 3) := by decide +kernel
theorem dX3_endWeek_64 : decode cX3_endWeek 64 = .ok (.aload_n 0, 1) := by decide +kernel
theorem dX3_endWeek_65 : decode cX3_endWeek 65 = .ok (.getfield 23, 3) := by decide +kernel
theorem dX3_endWeek_68 : decode cX3_endWeek 68 = .ok (.iload_n 2, 1) := by decide +kernel
theorem dX3_endWeek_69 : decode cX3_endWeek 69 = .ok (.iaload, 1) := by decide +kernel
theorem dX3_endWeek_70 : decode cX3_endWeek 70 = .ok (.istore_n 3, 1) := by decide +kernel
theorem dX3_endWeek_71 : decode cX3_endWeek 71 = .ok (.aload_n 0, 1) := by decide +kernel
theorem dX3_endWeek_72 : decode cX3_endWeek 72 = .ok (.getfield 12, 3) := by decide +kernel
theorem dX3_endWeek_75 : decode cX3_endWeek 75 = .ok (.iload_n 2, 1) := by decide +kernel
theorem dX3_endWeek_76 : decode cX3_endWeek 76 = .ok (.invokevirtual 98, 3) := by decide +kernel
theorem dX3_endWeek_79 : decode cX3_endWeek 79 = .ok (.istore 4, 2) := by decide +kernel
theorem dX3_endWeek_81 : decode cX3_endWeek 81 = .ok (.aload_n 0, 1) := by decide +kernel
theorem dX3_endWeek_82 : decode cX3_endWeek 82 = .ok (.getfield 23, 3) := by decide +kernel
theorem dX3_endWeek_85 : decode cX3_endWeek 85 = .ok (.iload_n 2, 1) := by decide +kernel
theorem dX3_endWeek_86 : decode cX3_endWeek 86 = .ok (.iload_n 3, 1) := by decide +kernel
theorem dX3_endWeek_87 : decode cX3_endWeek 87 = .ok (.aload_n 0, 1) := by decide +kernel
theorem dX3_endWeek_88 : decode cX3_endWeek 88 = .ok (.getfield 26, 3) := by decide +kernel
theorem dX3_endWeek_91 : decode cX3_endWeek 91 = .ok (.iload_n 2, 1) := by decide +kernel
theorem dX3_endWeek_92 : decode cX3_endWeek 92 = .ok (.iaload, 1) := by decide +kernel
theorem dX3_endWeek_93 : decode cX3_endWeek 93 = .ok (.iload 4, 2) := by decide +kernel
theorem dX3_endWeek_95 : decode cX3_endWeek 95 = .ok (.invokestatic 136, 3) := by decide +kernel
theorem dX3_endWeek_98 : decode cX3_endWeek 98 = .ok (.iastore, 1) := by decide +kernel
theorem dX3_endWeek_99 : decode cX3_endWeek 99 = .ok (.aload_n 0, 1) := by decide +kernel
theorem dX3_endWeek_100 : decode cX3_endWeek 100 = .ok (.getfield 26, 3) := by decide +kernel
theorem dX3_endWeek_103 : decode cX3_endWeek 103 = .ok (.iload_n 2, 1) := by decide +kernel
theorem dX3_endWeek_104 : decode cX3_endWeek 104 = .ok (.iload 4, 2) := by decide +kernel
theorem dX3_endWeek_106 : decode cX3_endWeek 106 = .ok (.iastore, 1) := by decide +kernel
theorem dX3_endWeek_107 : decode cX3_endWeek 107 = .ok (.aload_n 0, 1) := by decide +kernel
theorem dX3_endWeek_108 : decode cX3_endWeek 108 = .ok (.getfield 23, 3) := by decide +kernel
theorem dX3_endWeek_111 : decode cX3_endWeek 111 = .ok (.iload_n 2, 1) := by decide +kernel
theorem dX3_endWeek_112 : decode cX3_endWeek 112 = .ok (.iaload, 1) := by decide +kernel
theorem dX3_endWeek_113 : decode cX3_endWeek 113 = .ok (.iload_n 3, 1) := by decide +kernel
theorem dX3_endWeek_114 : decode cX3_endWeek 114 = .ok (.if_icmp .le 6, 3) := by decide +kernel
theorem dX3_endWeek_117 : decode cX3_endWeek 117 = .ok (.iinc 1 1, 3) := by decide +kernel
theorem dX3_endWeek_120 : decode cX3_endWeek 120 = .ok (.iinc 2 1, 3) := by decide +kernel
theorem dX3_endWeek_123 : decode cX3_endWeek 123 = .ok (.goto (-70), 3) := by decide +kernel
theorem dX3_endWeek_126 : decode cX3_endWeek 126 = .ok (.aload_n 0, 1) := by decide +kernel
theorem dX3_endWeek_127 : decode cX3_endWeek 127 = .ok (.dup, 1) := by decide +kernel
theorem dX3_endWeek_128 : decode cX3_endWeek 128 = .ok (.getfield 140, 3) := by decide +kernel
theorem dX3_endWeek_131 : decode cX3_endWeek 131 = .ok (.iconst 1, 1) := by decide +kernel
theorem dX3_endWeek_132 : decode cX3_endWeek 132 = .ok (.iadd, 1) := by decide +kernel
theorem dX3_endWeek_133 : decode cX3_endWeek 133 = .ok (.putfield 140, 3) := by decide +kernel
theorem dX3_endWeek_136 : decode cX3_endWeek 136 = .ok (.iload_n 1, 1) := by decide +kernel
theorem dX3_endWeek_137 : decode cX3_endWeek 137 = .ok (.ireturn, 1) := by decide +kernel
theorem dX3_weekCount_0 : decode cX3_weekCount 0 = .ok (.aload_n 0, 1) := by decide +kernel
theorem dX3_weekCount_1 : decode cX3_weekCount 1 = .ok (.getfield 140, 3) := by decide +kernel
theorem dX3_weekCount_4 : decode cX3_weekCount 4 = .ok (.ireturn, 1) := by decide +kernel
theorem dX3_addBarge_0 : decode cX3_addBarge 0 = .ok (.aload_n 0, 1) := by decide +kernel
theorem dX3_addBarge_1 : decode cX3_addBarge 1 = .ok (.iload_n 1, 1) := by decide +kernel
theorem dX3_addBarge_2 : decode cX3_addBarge 2 = .ok (.invokevirtual 78, 3) := by decide +kernel
theorem dX3_addBarge_5 : decode cX3_addBarge 5 = .ok (.iload_n 2, 1) := by decide +kernel
theorem dX3_addBarge_6 : decode cX3_addBarge 6 = .ok (.iconst 5, 1) := by decide +kernel
theorem dX3_addBarge_7 : decode cX3_addBarge 7 = .ok (.bipush 80, 2) := by decide +kernel
theorem dX3_addBarge_9 : decode cX3_addBarge 9 = .ok (.invokestatic 56, 3) := by decide +kernel
theorem dX3_addBarge_12 : decode cX3_addBarge 12 = .ok (.ifCond .eq 24, 3) := by decide +kernel
theorem dX3_addBarge_15 : decode cX3_addBarge 15 = .ok (.iload_n 3, 1) := by decide +kernel
theorem dX3_addBarge_16 : decode cX3_addBarge 16 = .ok (.iconst 2, 1) := by decide +kernel
theorem dX3_addBarge_17 : decode cX3_addBarge 17 = .ok (.bipush 20, 2) := by decide +kernel
theorem dX3_addBarge_19 : decode cX3_addBarge 19 = .ok (.invokestatic 56, 3) := by decide +kernel
theorem dX3_addBarge_22 : decode cX3_addBarge 22 = .ok (.ifCond .eq 14, 3) := by decide +kernel
theorem dX3_addBarge_25 : decode cX3_addBarge 25 = .ok (.iload 4, 2) := by decide +kernel
theorem dX3_addBarge_27 : decode cX3_addBarge 27 = .ok (.iconst 1, 1) := by decide +kernel
theorem dX3_addBarge_28 : decode cX3_addBarge 28 = .ok (.bipush 20, 2) := by decide +kernel
theorem dX3_addBarge_30 : decode cX3_addBarge 30 = .ok (.invokestatic 56, 3) := by decide +kernel
theorem dX3_addBarge_33 : decode cX3_addBarge 33 = .ok (.ifCond .ne 13, 3) := by decide +kernel
theorem dX3_addBarge_36 : decode cX3_addBarge 36 = .ok (.new 60, 3) := by decide +kernel
theorem dX3_addBarge_39 : decode cX3_addBarge 39 = .ok (.dup, 1) := by decide +kernel
theorem dX3_addBarge_40 : decode cX3_addBarge 40 = .ok (.ldc 143, 2) := by decide +kernel
theorem dX3_addBarge_42 : decode cX3_addBarge 42 = .ok (.invokespecial 64, 3) := by decide +kernel
theorem dX3_addBarge_45 : decode cX3_addBarge 45 = .ok (.athrow, 1) := by decide +kernel
theorem dX3_addBarge_46 : decode cX3_addBarge 46 = .ok (.aload_n 0, 1) := by decide +kernel
theorem dX3_addBarge_47 : decode cX3_addBarge 47 = .ok (.getfield 145, 3) := by decide +kernel
theorem dX3_addBarge_50 : decode cX3_addBarge 50 = .ok (.bipush 8, 2) := by decide +kernel
theorem dX3_addBarge_52 : decode cX3_addBarge 52 = .ok (.if_icmp .lt 13, 3) := by decide +kernel
theorem dX3_addBarge_55 : decode cX3_addBarge 55 = .ok (.new 70, 3) := by decide +kernel
theorem dX3_addBarge_58 : decode cX3_addBarge 58 = .ok (.dup, 1) := by decide +kernel
theorem dX3_addBarge_59 : decode cX3_addBarge 59 = .ok (.ldc 148, 2) := by decide +kernel
theorem dX3_addBarge_61 : decode cX3_addBarge 61 = .ok (.invokespecial 74, 3) := by decide +kernel
theorem dX3_addBarge_64 : decode cX3_addBarge 64 = .ok (.athrow, 1) := by decide +kernel
theorem dX3_addBarge_65 : decode cX3_addBarge 65 = .ok (.iload_n 3, 1) := by decide +kernel
theorem dX3_addBarge_66 : decode cX3_addBarge 66 = .ok (.aload_n 0, 1) := by decide +kernel
theorem dX3_addBarge_67 : decode cX3_addBarge 67 = .ok (.getfield 12, 3) := by decide +kernel
theorem dX3_addBarge_70 : decode cX3_addBarge 70 = .ok (.iload_n 1, 1) := by decide +kernel
theorem dX3_addBarge_71 : decode cX3_addBarge 71 = .ok (.invokevirtual 98, 3) := by decide +kernel
theorem dX3_addBarge_74 : decode cX3_addBarge 74 = .ok (.if_icmp .lt 13, 3) := by decide +kernel
theorem dX3_addBarge_77 : decode cX3_addBarge 77 = .ok (.new 114, 3) := by decide +kernel
theorem dX3_addBarge_80 : decode cX3_addBarge 80 = .ok (.dup, 1) := by decide +kernel
theorem dX3_addBarge_81 : decode cX3_addBarge 81 = .ok (.ldc 150, 2) := by decide +kernel
theorem dX3_addBarge_83 : decode cX3_addBarge 83 = .ok (.invokespecial 118, 3) := by decide +kernel
theorem dX3_addBarge_86 : decode cX3_addBarge 86 = .ok (.athrow, 1) := by decide +kernel
theorem dX3_addBarge_87 : decode cX3_addBarge 87 = .ok (.aload_n 0, 1) := by decide +kernel
theorem dX3_addBarge_88 : decode cX3_addBarge 88 = .ok (.getfield 145, 3) := by decide +kernel
theorem dX3_addBarge_91 : decode cX3_addBarge 91 = .ok (.istore 5, 2) := by decide +kernel
theorem dX3_addBarge_93 : decode cX3_addBarge 93 = .ok (.aload_n 0, 1) := by decide +kernel
theorem dX3_addBarge_94 : decode cX3_addBarge 94 = .ok (.getfield 31, 3) := by decide +kernel
theorem dX3_addBarge_97 : decode cX3_addBarge 97 = .ok (.iload 5, 2) := by decide +kernel
theorem dX3_addBarge_99 : decode cX3_addBarge 99 = .ok (.new 29, 3) := by decide +kernel
theorem dX3_addBarge_102 : decode cX3_addBarge 102 = .ok (.dup, 1) := by decide +kernel
theorem dX3_addBarge_103 : decode cX3_addBarge 103 = .ok (.iload 5, 2) := by decide +kernel
theorem dX3_addBarge_105 : decode cX3_addBarge 105 = .ok (.iload_n 1, 1) := by decide +kernel
theorem dX3_addBarge_106 : decode cX3_addBarge 106 = .ok (.iload_n 2, 1) := by decide +kernel
theorem dX3_addBarge_107 : decode cX3_addBarge 107 = .ok (.iload_n 3, 1) := by decide +kernel
theorem dX3_addBarge_108 : decode cX3_addBarge 108 = .ok (.iload 4, 2) := by decide +kernel
theorem dX3_addBarge_110 : decode cX3_addBarge 110 = .ok (.invokespecial 152, 3) := by decide +kernel
theorem dX3_addBarge_113 : decode cX3_addBarge 113 = .ok (.aastore, 1) := by decide +kernel
theorem dX3_addBarge_114 : decode cX3_addBarge 114 = .ok (.aload_n 0, 1) := by decide +kernel
theorem dX3_addBarge_115 : decode cX3_addBarge 115 = .ok (.dup, 1) := by decide +kernel
theorem dX3_addBarge_116 : decode cX3_addBarge 116 = .ok (.getfield 145, 3) := by decide +kernel
theorem dX3_addBarge_119 : decode cX3_addBarge 119 = .ok (.iconst 1, 1) := by decide +kernel
theorem dX3_addBarge_120 : decode cX3_addBarge 120 = .ok (.iadd, 1) := by decide +kernel
theorem dX3_addBarge_121 : decode cX3_addBarge 121 = .ok (.putfield 145, 3) := by decide +kernel
theorem dX3_addBarge_124 : decode cX3_addBarge 124 = .ok (.iload 5, 2) := by decide +kernel
theorem dX3_addBarge_126 : decode cX3_addBarge 126 = .ok (.ireturn, 1) := by decide +kernel
theorem dX3_bargeCount_0 : decode cX3_bargeCount 0 = .ok (.aload_n 0, 1) := by decide +kernel
theorem dX3_bargeCount_1 : decode cX3_bargeCount 1 = .ok (.getfield 145, 3) := by decide +kernel
theorem dX3_bargeCount_4 : decode cX3_bargeCount 4 = .ok (.ireturn, 1) := by decide +kernel
theorem dX3_reachOf_0 : decode cX3_reachOf 0 = .ok (.aload_n 0, 1) := by decide +kernel
theorem dX3_reachOf_1 : decode cX3_reachOf 1 = .ok (.iload_n 1, 1) := by decide +kernel
theorem dX3_reachOf_2 : decode cX3_reachOf 2 = .ok (.invokevirtual 155, 3) := by decide +kernel
theorem dX3_reachOf_5 : decode cX3_reachOf 5 = .ok (.getfield 159, 3) := by decide +kernel
theorem dX3_reachOf_8 : decode cX3_reachOf 8 = .ok (.ireturn, 1) := by decide +kernel
theorem dX3_cargoOf_0 : decode cX3_cargoOf 0 = .ok (.aload_n 0, 1) := by decide +kernel
theorem dX3_cargoOf_1 : decode cX3_cargoOf 1 = .ok (.iload_n 1, 1) := by decide +kernel
theorem dX3_cargoOf_2 : decode cX3_cargoOf 2 = .ok (.invokevirtual 155, 3) := by decide +kernel
theorem dX3_cargoOf_5 : decode cX3_cargoOf 5 = .ok (.getfield 162, 3) := by decide +kernel
theorem dX3_cargoOf_8 : decode cX3_cargoOf 8 = .ok (.ireturn, 1) := by decide +kernel
theorem dX3_draughtOf_0 : decode cX3_draughtOf 0 = .ok (.aload_n 0, 1) := by decide +kernel
theorem dX3_draughtOf_1 : decode cX3_draughtOf 1 = .ok (.iload_n 1, 1) := by decide +kernel
theorem dX3_draughtOf_2 : decode cX3_draughtOf 2 = .ok (.invokevirtual 155, 3) := by decide +kernel
theorem dX3_draughtOf_5 : decode cX3_draughtOf 5 = .ok (.invokevirtual 165, 3) := by decide +kernel
theorem dX3_draughtOf_8 : decode cX3_draughtOf 8 = .ok (.ireturn, 1) := by decide +kernel
theorem dX3_isAfloat_0 : decode cX3_isAfloat 0 = .ok (.aload_n 0, 1) := by decide +kernel
theorem dX3_isAfloat_1 : decode cX3_isAfloat 1 = .ok (.aload_n 0, 1) := by decide +kernel
theorem dX3_isAfloat_2 : decode cX3_isAfloat 2 = .ok (.iload_n 1, 1) := by decide +kernel
theorem dX3_isAfloat_3 : decode cX3_isAfloat 3 = .ok (.invokevirtual 155, 3) := by decide +kernel
theorem dX3_isAfloat_6 : decode cX3_isAfloat 6 = .ok (.iconst 0, 1) := by decide +kernel
theorem dX3_isAfloat_7 : decode cX3_isAfloat 7 = .ok (.invokevirtual 169, 3) := by decide +kernel
theorem dX3_isAfloat_10 : decode cX3_isAfloat 10 = .ok (.ireturn, 1) := by decide +kernel
theorem dX3_couple_0 : decode cX3_couple 0 = .ok (.aload_n 0, 1) := by decide +kernel
theorem dX3_couple_1 : decode cX3_couple 1 = .ok (.iload_n 1, 1) := by decide +kernel
theorem dX3_couple_2 : decode cX3_couple 2 = .ok (.invokevirtual 155, 3) := by decide +kernel
theorem dX3_couple_5 : decode cX3_couple 5 = .ok (.invokevirtual 173, 3) := by decide +kernel
theorem dX3_couple_8 : decode cX3_couple 8 = .ok (.astore_n 3, 1) := by decide +kernel
theorem dX3_couple_9 : decode cX3_couple 9 = .ok (.aload_n 0, 1) := by decide +kernel
theorem dX3_couple_10 : decode cX3_couple 10 = .ok (.iload_n 2, 1) := by decide +kernel
theorem dX3_couple_11 : decode cX3_couple 11 = .ok (.invokevirtual 155, 3) := by decide +kernel
theorem dX3_couple_14 : decode cX3_couple 14 = .ok (.invokevirtual 173, 3) := by decide +kernel
theorem dX3_couple_17 : decode cX3_couple 17 = .ok (.astore 4, 2) := by decide +kernel
theorem dX3_couple_19 : decode cX3_couple 19 = .ok (.aload_n 3, 1) := by decide +kernel
theorem dX3_couple_20 : decode cX3_couple 20 = .ok (.aload 4, 2) := by decide +kernel
theorem dX3_couple_22 : decode cX3_couple 22 = .ok (.if_acmp .ne 13, 3) := by decide +kernel
theorem dX3_couple_25 : decode cX3_couple 25 = .ok (.new 60, 3) := by decide +kernel
theorem dX3_couple_28 : decode cX3_couple 28 = .ok (.dup, 1) := by decide +kernel
theorem dX3_couple_29 : decode cX3_couple 29 = .ok (.ldc 177, 2) := by decide +kernel
theorem dX3_couple_31 : decode cX3_couple 31 = .ok (.invokespecial 64, 3) := by decide +kernel
theorem dX3_couple_34 : decode cX3_couple 34 = .ok (.athrow, 1) := by decide +kernel
theorem dX3_couple_35 : decode cX3_couple 35 = .ok (.aload_n 3, 1) := by decide +kernel
theorem dX3_couple_36 : decode cX3_couple 36 = .ok (.invokevirtual 179, 3) := by decide +kernel
theorem dX3_couple_39 : decode cX3_couple 39 = .ok (.aload 4, 2) := by decide +kernel
theorem dX3_couple_41 : decode cX3_couple 41 = .ok (.invokevirtual 179, 3) := by decide +kernel
theorem dX3_couple_44 : decode cX3_couple 44 = .ok (.iadd, 1) := by decide +kernel
theorem dX3_couple_45 : decode cX3_couple 45 = .ok (.istore 5, 2) := by decide +kernel
theorem dX3_couple_47 : decode cX3_couple 47 = .ok (.aload_n 3, 1) := by decide +kernel
theorem dX3_couple_48 : decode cX3_couple 48 = .ok (.getfield 159, 3) := by decide +kernel
theorem dX3_couple_51 : decode cX3_couple 51 = .ok (.aload 4, 2) := by decide +kernel
theorem dX3_couple_53 : decode cX3_couple 53 = .ok (.getfield 159, 3) := by decide +kernel
theorem dX3_couple_56 : decode cX3_couple 56 = .ok (.if_icmp .ne 9, 3) := by decide +kernel
theorem dX3_couple_59 : decode cX3_couple 59 = .ok (.iload 5, 2) := by decide +kernel
theorem dX3_couple_61 : decode cX3_couple 61 = .ok (.iconst 4, 1) := by decide +kernel
theorem dX3_couple_62 : decode cX3_couple 62 = .ok (.if_icmp .le 13, 3) := by decide +kernel
theorem dX3_couple_65 : decode cX3_couple 65 = .ok (.new 70, 3) := by decide +kernel
theorem dX3_couple_68 : decode cX3_couple 68 = .ok (.dup, 1) := by decide +kernel
theorem dX3_couple_69 : decode cX3_couple 69 = .ok (.ldc 182, 2) := by decide +kernel
theorem dX3_couple_71 : decode cX3_couple 71 = .ok (.invokespecial 74, 3) := by decide +kernel
theorem dX3_couple_74 : decode cX3_couple 74 = .ok (.athrow, 1) := by decide +kernel
theorem dX3_couple_75 : decode cX3_couple 75 = .ok (.aload_n 3, 1) := by decide +kernel
theorem dX3_couple_76 : decode cX3_couple 76 = .ok (.invokevirtual 184, 3) := by decide +kernel
theorem dX3_couple_79 : decode cX3_couple 79 = .ok (.astore 6, 2) := by decide +kernel
theorem dX3_couple_81 : decode cX3_couple 81 = .ok (.aload 6, 2) := by decide +kernel
theorem dX3_couple_83 : decode cX3_couple 83 = .ok (.aload 4, 2) := by decide +kernel
theorem dX3_couple_85 : decode cX3_couple 85 = .ok (.putfield 187, 3) := by decide +kernel
theorem dX3_couple_88 : decode cX3_couple 88 = .ok (.aload 4, 2) := by decide +kernel
theorem dX3_couple_90 : decode cX3_couple 90 = .ok (.aload 6, 2) := by decide +kernel
theorem dX3_couple_92 : decode cX3_couple 92 = .ok (.putfield 191, 3) := by decide +kernel
theorem dX3_couple_95 : decode cX3_couple 95 = .ok (.iload 5, 2) := by decide +kernel
theorem dX3_couple_97 : decode cX3_couple 97 = .ok (.ireturn, 1) := by decide +kernel
theorem dX3_uncouple_0 : decode cX3_uncouple 0 = .ok (.aload_n 0, 1) := by decide +kernel
theorem dX3_uncouple_1 : decode cX3_uncouple 1 = .ok (.iload_n 1, 1) := by decide +kernel
theorem dX3_uncouple_2 : decode cX3_uncouple 2 = .ok (.invokevirtual 155, 3) := by decide +kernel
theorem dX3_uncouple_5 : decode cX3_uncouple 5 = .ok (.astore_n 2, 1) := by decide +kernel
theorem dX3_uncouple_6 : decode cX3_uncouple 6 = .ok (.aload_n 2, 1) := by decide +kernel
theorem dX3_uncouple_7 : decode cX3_uncouple 7 = .ok (.getfield 191, 3) := by decide +kernel
theorem dX3_uncouple_10 : decode cX3_uncouple 10 = .ok (.astore_n 3, 1) := by decide +kernel
theorem dX3_uncouple_11 : decode cX3_uncouple 11 = .ok (.aload_n 3, 1) := by decide +kernel
theorem dX3_uncouple_12 : decode cX3_uncouple 12 = .ok (.ifnonnull 13, 3) := by decide +kernel
theorem dX3_uncouple_15 : decode cX3_uncouple 15 = .ok (.new 70, 3) := by decide +kernel
theorem dX3_uncouple_18 : decode cX3_uncouple 18 = .ok (.dup, 1) := by decide +kernel
theorem dX3_uncouple_19 : decode cX3_uncouple 19 = .ok (.ldc 194, 2) := by decide +kernel
theorem dX3_uncouple_21 : decode cX3_uncouple 21 = .ok (.invokespecial 74, 3) := by decide +kernel
theorem dX3_uncouple_24 : decode cX3_uncouple 24 = .ok (.athrow, 1) := by decide +kernel
theorem dX3_uncouple_25 : decode cX3_uncouple 25 = .ok (.aload_n 3, 1) := by decide +kernel
theorem dX3_uncouple_26 : decode cX3_uncouple 26 = .ok (.aconst_null, 1) := by decide +kernel
theorem dX3_uncouple_27 : decode cX3_uncouple 27 = .ok (.putfield 187, 3) := by decide +kernel
theorem dX3_uncouple_30 : decode cX3_uncouple 30 = .ok (.aload_n 2, 1) := by decide +kernel
theorem dX3_uncouple_31 : decode cX3_uncouple 31 = .ok (.aconst_null, 1) := by decide +kernel
theorem dX3_uncouple_32 : decode cX3_uncouple 32 = .ok (.putfield 191, 3) := by decide +kernel
theorem dX3_uncouple_35 : decode cX3_uncouple 35 = .ok (.aload_n 3, 1) := by decide +kernel
theorem dX3_uncouple_36 : decode cX3_uncouple 36 = .ok (.invokevirtual 173, 3) := by decide +kernel
theorem dX3_uncouple_39 : decode cX3_uncouple 39 = .ok (.invokevirtual 179, 3) := by decide +kernel
theorem dX3_uncouple_42 : decode cX3_uncouple 42 = .ok (.ireturn, 1) := by decide +kernel
theorem dX3_convoySize_0 : decode cX3_convoySize 0 = .ok (.aload_n 0, 1) := by decide +kernel
theorem dX3_convoySize_1 : decode cX3_convoySize 1 = .ok (.iload_n 1, 1) := by decide +kernel
theorem dX3_convoySize_2 : decode cX3_convoySize 2 = .ok (.invokevirtual 155, 3) := by decide +kernel
theorem dX3_convoySize_5 : decode cX3_convoySize 5 = .ok (.invokevirtual 173, 3) := by decide +kernel
theorem dX3_convoySize_8 : decode cX3_convoySize 8 = .ok (.invokevirtual 179, 3) := by decide +kernel
theorem dX3_convoySize_11 : decode cX3_convoySize 11 = .ok (.ireturn, 1) := by decide +kernel
theorem dX3_convoyAt_0 : decode cX3_convoyAt 0 = .ok (.iconst 0, 1) := by decide +kernel
theorem dX3_convoyAt_1 : decode cX3_convoyAt 1 = .ok (.istore_n 3, 1) := by decide +kernel
theorem dX3_convoyAt_2 : decode cX3_convoyAt 2 = .ok (.aload_n 0, 1) := by decide +kernel
theorem dX3_convoyAt_3 : decode cX3_convoyAt 3 = .ok (.iload_n 1, 1) := by decide +kernel
theorem dX3_convoyAt_4 : decode cX3_convoyAt 4 = .ok (.invokevirtual 155, 3) := by decide +kernel
theorem dX3_convoyAt_7 : decode cX3_convoyAt 7 = .ok (.invokevirtual 173, 3) := by decide +kernel
theorem dX3_convoyAt_10 : decode cX3_convoyAt 10 = .ok (.astore 4, 2) := by decide +kernel
theorem dX3_convoyAt_12 : decode cX3_convoyAt 12 = .ok (.aload 4, 2) := by decide +kernel
theorem dX3_convoyAt_14 : decode cX3_convoyAt 14 = .ok (.ifnull 27, 3) := by decide +kernel
theorem dX3_convoyAt_17 : decode cX3_convoyAt 17 = .ok (.iload_n 3, 1) := by decide +kernel
theorem dX3_convoyAt_18 : decode cX3_convoyAt 18 = .ok (.iload_n 2, 1) := by decide +kernel
theorem dX3_convoyAt_19 : decode cX3_convoyAt 19 = .ok (.if_icmp .ne 9, 3) := by decide +kernel
theorem dX3_convoyAt_22 : decode cX3_convoyAt 22 = .ok (.aload 4, 2) := by decide +kernel
theorem dX3_convoyAt_24 : decode cX3_convoyAt 24 = .ok (.getfield 196, 3) := by decide +kernel
theorem dX3_convoyAt_27 : decode cX3_convoyAt 27 = .ok (.ireturn, 1) := by decide +kernel
theorem dX3_convoyAt_28 : decode cX3_convoyAt 28 = .ok (.iinc 3 1, 3) := by decide +kernel
theorem dX3_convoyAt_31 : decode cX3_convoyAt 31 = .ok (.aload 4, 2) := by decide +kernel
theorem dX3_convoyAt_33 : decode cX3_convoyAt 33 = .ok (.getfield 187, 3) := by decide +kernel
theorem dX3_convoyAt_36 : decode cX3_convoyAt 36 = .ok (.astore 4, 2) := by decide +kernel
theorem dX3_convoyAt_38 : decode cX3_convoyAt 38 = .ok (.goto (-26), 3) := by decide +kernel
theorem dX3_convoyAt_41 : decode cX3_convoyAt 41 = .ok (.new 199, 3) := by decide +kernel
theorem dX3_convoyAt_44 : decode cX3_convoyAt 44 = .ok (.dup, 1) := by decide +kernel
theorem dX3_convoyAt_45 : decode cX3_convoyAt 45 = .ok (.ldc 201, 2) := by decide +kernel
theorem dX3_convoyAt_47 : decode cX3_convoyAt 47 = .ok (.invokespecial 203, 3) := by decide +kernel
theorem dX3_convoyAt_50 : decode cX3_convoyAt 50 = .ok (.athrow, 1) := by decide +kernel
theorem dX3_partsFor_0 : decode cX3_partsFor 0 = .ok (.aload_n 0, 1) := by decide +kernel
theorem dX3_partsFor_1 : decode cX3_partsFor 1 = .ok (.iload_n 1, 1) := by decide +kernel
theorem dX3_partsFor_2 : decode cX3_partsFor 2 = .ok (.invokevirtual 155, 3) := by decide +kernel
theorem dX3_partsFor_5 : decode cX3_partsFor 5 = .ok (.invokevirtual 173, 3) := by decide +kernel
theorem dX3_partsFor_8 : decode cX3_partsFor 8 = .ok (.astore_n 3, 1) := by decide +kernel
theorem dX3_partsFor_9 : decode cX3_partsFor 9 = .ok (.aload_n 0, 1) := by decide +kernel
theorem dX3_partsFor_10 : decode cX3_partsFor 10 = .ok (.iload_n 2, 1) := by decide +kernel
theorem dX3_partsFor_11 : decode cX3_partsFor 11 = .ok (.invokevirtual 101, 3) := by decide +kernel
theorem dX3_partsFor_14 : decode cX3_partsFor 14 = .ok (.aload_n 3, 1) := by decide +kernel
theorem dX3_partsFor_15 : decode cX3_partsFor 15 = .ok (.invokevirtual 204, 3) := by decide +kernel
theorem dX3_partsFor_18 : decode cX3_partsFor 18 = .ok (.aload_n 0, 1) := by decide +kernel
theorem dX3_partsFor_19 : decode cX3_partsFor 19 = .ok (.getfield 16, 3) := by decide +kernel
theorem dX3_partsFor_22 : decode cX3_partsFor 22 = .ok (.iload_n 2, 1) := by decide +kernel
theorem dX3_partsFor_23 : decode cX3_partsFor 23 = .ok (.iaload, 1) := by decide +kernel
theorem dX3_partsFor_24 : decode cX3_partsFor 24 = .ok (.if_icmp .le 13, 3) := by decide +kernel
theorem dX3_partsFor_27 : decode cX3_partsFor 27 = .ok (.new 114, 3) := by decide +kernel
theorem dX3_partsFor_30 : decode cX3_partsFor 30 = .ok (.dup, 1) := by decide +kernel
theorem dX3_partsFor_31 : decode cX3_partsFor 31 = .ok (.ldc 207, 2) := by decide +kernel
theorem dX3_partsFor_33 : decode cX3_partsFor 33 = .ok (.invokespecial 118, 3) := by decide +kernel
theorem dX3_partsFor_36 : decode cX3_partsFor 36 = .ok (.athrow, 1) := by decide +kernel
theorem dX3_partsFor_37 : decode cX3_partsFor 37 = .ok (.aload_n 3, 1) := by decide +kernel
theorem dX3_partsFor_38 : decode cX3_partsFor 38 = .ok (.aload_n 0, 1) := by decide +kernel
theorem dX3_partsFor_39 : decode cX3_partsFor 39 = .ok (.getfield 16, 3) := by decide +kernel
theorem dX3_partsFor_42 : decode cX3_partsFor 42 = .ok (.iload_n 2, 1) := by decide +kernel
theorem dX3_partsFor_43 : decode cX3_partsFor 43 = .ok (.iaload, 1) := by decide +kernel
theorem dX3_partsFor_44 : decode cX3_partsFor 44 = .ok (.invokevirtual 209, 3) := by decide +kernel
theorem dX3_partsFor_47 : decode cX3_partsFor 47 = .ok (.ireturn, 1) := by decide +kernel
theorem dX3_pass_0 : decode cX3_pass 0 = .ok (.aload_n 0, 1) := by decide +kernel
theorem dX3_pass_1 : decode cX3_pass 1 = .ok (.iload_n 1, 1) := by decide +kernel
theorem dX3_pass_2 : decode cX3_pass 2 = .ok (.invokevirtual 155, 3) := by decide +kernel
theorem dX3_pass_5 : decode cX3_pass 5 = .ok (.invokevirtual 173, 3) := by decide +kernel
theorem dX3_pass_8 : decode cX3_pass 8 = .ok (.astore_n 3, 1) := by decide +kernel
theorem dX3_pass_9 : decode cX3_pass 9 = .ok (.iload_n 2, 1) := by decide +kernel
theorem dX3_pass_10 : decode cX3_pass 10 = .ok (.ifCond .eq 12, 3) := by decide +kernel
theorem dX3_pass_13 : decode cX3_pass 13 = .ok (.aload_n 3, 1) := by decide +kernel
theorem dX3_pass_14 : decode cX3_pass 14 = .ok (.getfield 159, 3) := by decide +kernel
theorem dX3_pass_17 : decode cX3_pass 17 = .ok (.iconst 1, 1) := by decide +kernel
theorem dX3_pass_18 : decode cX3_pass 18 = .ok (.iadd, 1) := by decide +kernel
theorem dX3_pass_19 : decode cX3_pass 19 = .ok (.goto 9, 3) := by decide +kernel
theorem dX3_pass_22 : decode cX3_pass 22 = .ok (.aload_n 3, 1) := by decide +kernel
theorem dX3_pass_23 : decode cX3_pass 23 = .ok (.getfield 159, 3) := by decide +kernel
theorem dX3_pass_26 : decode cX3_pass 26 = .ok (.iconst 1, 1) := by decide +kernel
theorem dX3_pass_27 : decode cX3_pass 27 = .ok (.isub, 1) := by decide +kernel
theorem dX3_pass_28 : decode cX3_pass 28 = .ok (.istore 4, 2) := by decide +kernel
theorem dX3_pass_30 : decode cX3_pass 30 = .ok (.iload 4, 2) := by decide +kernel
theorem dX3_pass_32 : decode cX3_pass 32 = .ok (.ifCond .lt 15, 3) := by decide +kernel
theorem dX3_pass_35 : decode cX3_pass 35 = .ok (.iload 4, 2) := by decide +kernel
theorem dX3_pass_37 : decode cX3_pass 37 = .ok (.aload_n 0, 1) := by decide +kernel
theorem dX3_pass_38 : decode cX3_pass 38 = .ok (.getfield 12, 3) := by decide +kernel
theorem dX3_pass_41 : decode cX3_pass 41 = .ok (.getfield 67, 3) := by decide +kernel
theorem dX3_pass_44 : decode cX3_pass 44 = .ok (.if_icmp .lt 13, 3) := by decide +kernel
theorem dX3_pass_47 : decode cX3_pass 47 = .ok (.new 199, 3) := by decide +kernel
theorem dX3_pass_50 : decode cX3_pass 50 = .ok (.dup, 1) := by decide +kernel
theorem dX3_pass_51 : decode cX3_pass 51 = .ok (.ldc 212, 2) := by decide +kernel
theorem dX3_pass_53 : decode cX3_pass 53 = .ok (.invokespecial 203, 3) := by decide +kernel
theorem dX3_pass_56 : decode cX3_pass 56 = .ok (.athrow, 1) := by decide +kernel
theorem dX3_pass_57 : decode cX3_pass 57 = .ok (.aload_n 0, 1) := by decide +kernel
theorem dX3_pass_58 : decode cX3_pass 58 = .ok (.aload_n 3, 1) := by decide +kernel
theorem dX3_pass_59 : decode cX3_pass 59 = .ok (.iload 4, 2) := by decide +kernel
theorem dX3_pass_61 : decode cX3_pass 61 = .ok (.invokevirtual 214, 3) := by decide +kernel
theorem dX3_pass_64 : decode cX3_pass 64 = .ok (.ireturn, 1) := by decide +kernel
theorem dX3_voyage_0 : decode cX3_voyage 0 = .ok (.aload_n 0, 1) := by decide +kernel
theorem dX3_voyage_1 : decode cX3_voyage 1 = .ok (.iload_n 1, 1) := by decide +kernel
theorem dX3_voyage_2 : decode cX3_voyage 2 = .ok (.invokevirtual 155, 3) := by decide +kernel
theorem dX3_voyage_5 : decode cX3_voyage 5 = .ok (.invokevirtual 173, 3) := by decide +kernel
theorem dX3_voyage_8 : decode cX3_voyage 8 = .ok (.astore_n 3, 1) := by decide +kernel
theorem dX3_voyage_9 : decode cX3_voyage 9 = .ok (.aload_n 0, 1) := by decide +kernel
theorem dX3_voyage_10 : decode cX3_voyage 10 = .ok (.iload_n 2, 1) := by decide +kernel
theorem dX3_voyage_11 : decode cX3_voyage 11 = .ok (.invokevirtual 78, 3) := by decide +kernel
theorem dX3_voyage_14 : decode cX3_voyage 14 = .ok (.aload_n 3, 1) := by decide +kernel
theorem dX3_voyage_15 : decode cX3_voyage 15 = .ok (.getfield 159, 3) := by decide +kernel
theorem dX3_voyage_18 : decode cX3_voyage 18 = .ok (.iload_n 2, 1) := by decide +kernel
theorem dX3_voyage_19 : decode cX3_voyage 19 = .ok (.if_icmp .ne 13, 3) := by decide +kernel
theorem dX3_voyage_22 : decode cX3_voyage 22 = .ok (.new 70, 3) := by decide +kernel
theorem dX3_voyage_25 : decode cX3_voyage 25 = .ok (.dup, 1) := by decide +kernel
theorem dX3_voyage_26 : decode cX3_voyage 26 = .ok (.ldc 218, 2) := by decide +kernel
theorem dX3_voyage_28 : decode cX3_voyage 28 = .ok (.invokespecial 74, 3) := by decide +kernel
theorem dX3_voyage_31 : decode cX3_voyage 31 = .ok (.athrow, 1) := by decide +kernel
theorem dX3_voyage_32 : decode cX3_voyage 32 = .ok (.aload_n 0, 1) := by decide +kernel
theorem dX3_voyage_33 : decode cX3_voyage 33 = .ok (.aload_n 3, 1) := by decide +kernel
theorem dX3_voyage_34 : decode cX3_voyage 34 = .ok (.iload_n 2, 1) := by decide +kernel
theorem dX3_voyage_35 : decode cX3_voyage 35 = .ok (.invokevirtual 214, 3) := by decide +kernel
theorem dX3_voyage_38 : decode cX3_voyage 38 = .ok (.ireturn, 1) := by decide +kernel
theorem dX3_isPossible_0 : decode cX3_isPossible 0 = .ok (.aload_n 0, 1) := by decide +kernel
theorem dX3_isPossible_1 : decode cX3_isPossible 1 = .ok (.iload_n 1, 1) := by decide +kernel
theorem dX3_isPossible_2 : decode cX3_isPossible 2 = .ok (.invokevirtual 155, 3) := by decide +kernel
theorem dX3_isPossible_5 : decode cX3_isPossible 5 = .ok (.invokevirtual 173, 3) := by decide +kernel
theorem dX3_isPossible_8 : decode cX3_isPossible 8 = .ok (.astore_n 3, 1) := by decide +kernel
theorem dX3_isPossible_9 : decode cX3_isPossible 9 = .ok (.aload_n 0, 1) := by decide +kernel
theorem dX3_isPossible_10 : decode cX3_isPossible 10 = .ok (.iload_n 2, 1) := by decide +kernel
theorem dX3_isPossible_11 : decode cX3_isPossible 11 = .ok (.invokevirtual 78, 3) := by decide +kernel
theorem dX3_isPossible_14 : decode cX3_isPossible 14 = .ok (.aload_n 0, 1) := by decide +kernel
theorem dX3_isPossible_15 : decode cX3_isPossible 15 = .ok (.aload_n 3, 1) := by decide +kernel
theorem dX3_isPossible_16 : decode cX3_isPossible 16 = .ok (.iload_n 2, 1) := by decide +kernel
theorem dX3_isPossible_17 : decode cX3_isPossible 17 = .ok (.invokevirtual 220, 3) := by decide +kernel
theorem dX3_isPossible_20 : decode cX3_isPossible 20 = .ok (.ireturn, 1) := by decide +kernel
theorem dX3_waterFor_0 : decode cX3_waterFor 0 = .ok (.aload_n 0, 1) := by decide +kernel
theorem dX3_waterFor_1 : decode cX3_waterFor 1 = .ok (.iload_n 1, 1) := by decide +kernel
theorem dX3_waterFor_2 : decode cX3_waterFor 2 = .ok (.invokevirtual 155, 3) := by decide +kernel
theorem dX3_waterFor_5 : decode cX3_waterFor 5 = .ok (.invokevirtual 173, 3) := by decide +kernel
theorem dX3_waterFor_8 : decode cX3_waterFor 8 = .ok (.astore_n 3, 1) := by decide +kernel
theorem dX3_waterFor_9 : decode cX3_waterFor 9 = .ok (.aload_n 0, 1) := by decide +kernel
theorem dX3_waterFor_10 : decode cX3_waterFor 10 = .ok (.iload_n 2, 1) := by decide +kernel
theorem dX3_waterFor_11 : decode cX3_waterFor 11 = .ok (.invokevirtual 78, 3) := by decide +kernel
theorem dX3_waterFor_14 : decode cX3_waterFor 14 = .ok (.aload_n 0, 1) := by decide +kernel
theorem dX3_waterFor_15 : decode cX3_waterFor 15 = .ok (.getfield 12, 3) := by decide +kernel
theorem dX3_waterFor_18 : decode cX3_waterFor 18 = .ok (.invokevirtual 223, 3) := by decide +kernel
theorem dX3_waterFor_21 : decode cX3_waterFor 21 = .ok (.istore 4, 2) := by decide +kernel
theorem dX3_waterFor_23 : decode cX3_waterFor 23 = .ok (.aload_n 0, 1) := by decide +kernel
theorem dX3_waterFor_24 : decode cX3_waterFor 24 = .ok (.getfield 12, 3) := by decide +kernel
theorem dX3_waterFor_27 : decode cX3_waterFor 27 = .ok (.invokevirtual 226, 3) := by decide +kernel
theorem dX3_waterFor_30 : decode cX3_waterFor 30 = .ok (.aload_n 0, 1) := by decide +kernel
theorem dX3_waterFor_31 : decode cX3_waterFor 31 = .ok (.aload_n 3, 1) := by decide +kernel
theorem dX3_waterFor_32 : decode cX3_waterFor 32 = .ok (.iload_n 2, 1) := by decide +kernel
theorem dX3_waterFor_33 : decode cX3_waterFor 33 = .ok (.invokevirtual 229, 3) := by decide +kernel
theorem dX3_waterFor_36 : decode cX3_waterFor 36 = .ok (.istore 5, 2) := by decide +kernel
theorem dX3_waterFor_38 : decode cX3_waterFor 38 = .ok (.aload_n 0, 1) := by decide +kernel
theorem dX3_waterFor_39 : decode cX3_waterFor 39 = .ok (.getfield 12, 3) := by decide +kernel
theorem dX3_waterFor_42 : decode cX3_waterFor 42 = .ok (.invokevirtual 223, 3) := by decide +kernel
theorem dX3_waterFor_45 : decode cX3_waterFor 45 = .ok (.iload 4, 2) := by decide +kernel
theorem dX3_waterFor_47 : decode cX3_waterFor 47 = .ok (.isub, 1) := by decide +kernel
theorem dX3_waterFor_48 : decode cX3_waterFor 48 = .ok (.istore 6, 2) := by decide +kernel
theorem dX3_waterFor_50 : decode cX3_waterFor 50 = .ok (.aload_n 0, 1) := by decide +kernel
theorem dX3_waterFor_51 : decode cX3_waterFor 51 = .ok (.getfield 12, 3) := by decide +kernel
theorem dX3_waterFor_54 : decode cX3_waterFor 54 = .ok (.invokevirtual 232, 3) := by decide +kernel
theorem dX3_waterFor_57 : decode cX3_waterFor 57 = .ok (.iload 5, 2) := by decide +kernel
theorem dX3_waterFor_59 : decode cX3_waterFor 59 = .ok (.ifCond .ne 13, 3) := by decide +kernel
theorem dX3_waterFor_62 : decode cX3_waterFor 62 = .ok (.new 114, 3) := by decide +kernel
theorem dX3_waterFor_65 : decode cX3_waterFor 65 = .ok (.dup, 1) := by decide +kernel
theorem dX3_waterFor_66 : decode cX3_waterFor 66 = .ok (.ldc 235, 2) := by decide +kernel
theorem dX3_waterFor_68 : decode cX3_waterFor 68 = .ok (.invokespecial 118, 3) := by decide +kernel
theorem dX3_waterFor_71 : decode cX3_waterFor 71 = .ok (.athrow, 1) := by decide +kernel
theorem dX3_waterFor_72 : decode cX3_waterFor 72 = .ok (.iload 6, 2) := by decide +kernel
theorem dX3_waterFor_74 : decode cX3_waterFor 74 = .ok (.ireturn, 1) := by decide +kernel
theorem dX3_refusalReason_0 : decode cX3_refusalReason 0 = .ok (.aload_n 0, 1) := by decide +kernel
theorem dX3_refusalReason_1 : decode cX3_refusalReason 1 = .ok (.invokevirtual 237, 3) := by decide +kernel
theorem dX3_refusalReason_4 : decode cX3_refusalReason 4 = .ok (.aload_n 0, 1) := by decide +kernel
theorem dX3_refusalReason_5 : decode cX3_refusalReason 5 = .ok (.getfield 48, 3) := by decide +kernel
theorem dX3_refusalReason_8 : decode cX3_refusalReason 8 = .ok (.ireturn, 1) := by decide +kernel
theorem dX3_refusalLock_0 : decode cX3_refusalLock 0 = .ok (.aload_n 0, 1) := by decide +kernel
theorem dX3_refusalLock_1 : decode cX3_refusalLock 1 = .ok (.invokevirtual 237, 3) := by decide +kernel
theorem dX3_refusalLock_4 : decode cX3_refusalLock 4 = .ok (.aload_n 0, 1) := by decide +kernel
theorem dX3_refusalLock_5 : decode cX3_refusalLock 5 = .ok (.getfield 240, 3) := by decide +kernel
theorem dX3_refusalLock_8 : decode cX3_refusalLock 8 = .ok (.ireturn, 1) := by decide +kernel
theorem dX3_priceIn_0 : decode cX3_priceIn 0 = .ok (.aload_n 0, 1) := by decide +kernel
theorem dX3_priceIn_1 : decode cX3_priceIn 1 = .ok (.iload_n 1, 1) := by decide +kernel
theorem dX3_priceIn_2 : decode cX3_priceIn 2 = .ok (.invokevirtual 78, 3) := by decide +kernel
theorem dX3_priceIn_5 : decode cX3_priceIn 5 = .ok (.aload_n 0, 1) := by decide +kernel
theorem dX3_priceIn_6 : decode cX3_priceIn 6 = .ok (.getfield 23, 3) := by decide +kernel
theorem dX3_priceIn_9 : decode cX3_priceIn 9 = .ok (.iload_n 1, 1) := by decide +kernel
theorem dX3_priceIn_10 : decode cX3_priceIn 10 = .ok (.iaload, 1) := by decide +kernel
theorem dX3_priceIn_11 : decode cX3_priceIn 11 = .ok (.ireturn, 1) := by decide +kernel
theorem dX3_money_0 : decode cX3_money 0 = .ok (.aload_n 0, 1) := by decide +kernel
theorem dX3_money_1 : decode cX3_money 1 = .ok (.getfield 44, 3) := by decide +kernel
theorem dX3_money_4 : decode cX3_money 4 = .ok (.lreturn, 1) := by decide +kernel
theorem dX3_buy_0 : decode cX3_buy 0 = .ok (.aload_n 0, 1) := by decide +kernel
theorem dX3_buy_1 : decode cX3_buy 1 = .ok (.iload_n 1, 1) := by decide +kernel
theorem dX3_buy_2 : decode cX3_buy 2 = .ok (.invokevirtual 155, 3) := by decide +kernel
theorem dX3_buy_5 : decode cX3_buy 5 = .ok (.astore_n 3, 1) := by decide +kernel
theorem dX3_buy_6 : decode cX3_buy 6 = .ok (.iload_n 2, 1) := by decide +kernel
theorem dX3_buy_7 : decode cX3_buy 7 = .ok (.invokestatic 243, 3) := by decide +kernel
theorem dX3_buy_10 : decode cX3_buy 10 = .ok (.aload_n 0, 1) := by decide +kernel
theorem dX3_buy_11 : decode cX3_buy 11 = .ok (.aload_n 3, 1) := by decide +kernel
theorem dX3_buy_12 : decode cX3_buy 12 = .ok (.iload_n 2, 1) := by decide +kernel
theorem dX3_buy_13 : decode cX3_buy 13 = .ok (.invokevirtual 169, 3) := by decide +kernel
theorem dX3_buy_16 : decode cX3_buy 16 = .ok (.ifCond .ne 13, 3) := by decide +kernel
theorem dX3_buy_19 : decode cX3_buy 19 = .ok (.new 114, 3) := by decide +kernel
theorem dX3_buy_22 : decode cX3_buy 22 = .ok (.dup, 1) := by decide +kernel
theorem dX3_buy_23 : decode cX3_buy 23 = .ok (.ldc 150, 2) := by decide +kernel
theorem dX3_buy_25 : decode cX3_buy 25 = .ok (.invokespecial 118, 3) := by decide +kernel
theorem dX3_buy_28 : decode cX3_buy 28 = .ok (.athrow, 1) := by decide +kernel
theorem dX3_buy_29 : decode cX3_buy 29 = .ok (.iload_n 2, 1) := by decide +kernel
theorem dX3_buy_30 : decode cX3_buy 30 = .ok (.i2l, 1) := by decide +kernel
theorem dX3_buy_31 : decode cX3_buy 31 = .ok (.aload_n 0, 1) := by decide +kernel
theorem dX3_buy_32 : decode cX3_buy 32 = .ok (.getfield 23, 3) := by decide +kernel
theorem dX3_buy_35 : decode cX3_buy 35 = .ok (.aload_n 3, 1) := by decide +kernel
theorem dX3_buy_36 : decode cX3_buy 36 = .ok (.getfield 159, 3) := by decide +kernel
theorem dX3_buy_39 : decode cX3_buy 39 = .ok (.iaload, 1) := by decide +kernel
theorem dX3_buy_40 : decode cX3_buy 40 = .ok (.i2l, 1) := by decide +kernel
theorem dX3_buy_41 : decode cX3_buy 41 = .ok (.lmul, 1) := by decide +kernel
theorem dX3_buy_42 : decode cX3_buy 42 = .ok (.lstore 4, 2) := by decide +kernel
theorem dX3_buy_44 : decode cX3_buy 44 = .ok (.lload 4, 2) := by decide +kernel
theorem dX3_buy_46 : decode cX3_buy 46 = .ok (.aload_n 0, 1) := by decide +kernel
theorem dX3_buy_47 : decode cX3_buy 47 = .ok (.getfield 44, 3) := by decide +kernel
theorem dX3_buy_50 : decode cX3_buy 50 = .ok (.lcmp, 1) := by decide +kernel
theorem dX3_buy_51 : decode cX3_buy 51 = .ok (.ifCond .le 13, 3) := by decide +kernel
theorem dX3_buy_54 : decode cX3_buy 54 = .ok (.new 70, 3) := by decide +kernel
theorem dX3_buy_57 : decode cX3_buy 57 = .ok (.dup, 1) := by decide +kernel
theorem dX3_buy_58 : decode cX3_buy 58 = .ok (.ldc 246, 2) := by decide +kernel
theorem dX3_buy_60 : decode cX3_buy 60 = .ok (.invokespecial 74, 3) := by decide +kernel
theorem dX3_buy_63 : decode cX3_buy 63 = .ok (.athrow, 1) := by decide +kernel
theorem dX3_buy_64 : decode cX3_buy 64 = .ok (.aload_n 3, 1) := by decide +kernel
theorem dX3_buy_65 : decode cX3_buy 65 = .ok (.dup, 1) := by decide +kernel
theorem dX3_buy_66 : decode cX3_buy 66 = .ok (.getfield 162, 3) := by decide +kernel
theorem dX3_buy_69 : decode cX3_buy 69 = .ok (.iload_n 2, 1) := by decide +kernel
theorem dX3_buy_70 : decode cX3_buy 70 = .ok (.iadd, 1) := by decide +kernel
theorem dX3_buy_71 : decode cX3_buy 71 = .ok (.putfield 162, 3) := by decide +kernel
theorem dX3_buy_74 : decode cX3_buy 74 = .ok (.aload_n 0, 1) := by decide +kernel
theorem dX3_buy_75 : decode cX3_buy 75 = .ok (.dup, 1) := by decide +kernel
theorem dX3_buy_76 : decode cX3_buy 76 = .ok (.getfield 44, 3) := by decide +kernel
theorem dX3_buy_79 : decode cX3_buy 79 = .ok (.lload 4, 2) := by decide +kernel
theorem dX3_buy_81 : decode cX3_buy 81 = .ok (.lsub, 1) := by decide +kernel
theorem dX3_buy_82 : decode cX3_buy 82 = .ok (.putfield 44, 3) := by decide +kernel
theorem dX3_buy_85 : decode cX3_buy 85 = .ok (.aload_n 0, 1) := by decide +kernel
theorem dX3_buy_86 : decode cX3_buy 86 = .ok (.getfield 44, 3) := by decide +kernel
theorem dX3_buy_89 : decode cX3_buy 89 = .ok (.lreturn, 1) := by decide +kernel
theorem dX3_sell_0 : decode cX3_sell 0 = .ok (.aload_n 0, 1) := by decide +kernel
theorem dX3_sell_1 : decode cX3_sell 1 = .ok (.iload_n 1, 1) := by decide +kernel
theorem dX3_sell_2 : decode cX3_sell 2 = .ok (.invokevirtual 155, 3) := by decide +kernel
theorem dX3_sell_5 : decode cX3_sell 5 = .ok (.astore_n 3, 1) := by decide +kernel
theorem dX3_sell_6 : decode cX3_sell 6 = .ok (.iload_n 2, 1) := by decide +kernel
theorem dX3_sell_7 : decode cX3_sell 7 = .ok (.invokestatic 243, 3) := by decide +kernel
theorem dX3_sell_10 : decode cX3_sell 10 = .ok (.aload_n 3, 1) := by decide +kernel
theorem dX3_sell_11 : decode cX3_sell 11 = .ok (.getfield 162, 3) := by decide +kernel
theorem dX3_sell_14 : decode cX3_sell 14 = .ok (.iload_n 2, 1) := by decide +kernel
theorem dX3_sell_15 : decode cX3_sell 15 = .ok (.if_icmp .ge 13, 3) := by decide +kernel
theorem dX3_sell_18 : decode cX3_sell 18 = .ok (.new 70, 3) := by decide +kernel
theorem dX3_sell_21 : decode cX3_sell 21 = .ok (.dup, 1) := by decide +kernel
theorem dX3_sell_22 : decode cX3_sell 22 = .ok (.ldc 248, 2) := by decide +kernel
theorem dX3_sell_24 : decode cX3_sell 24 = .ok (.invokespecial 74, 3) := by decide +kernel
theorem dX3_sell_27 : decode cX3_sell 27 = .ok (.athrow, 1) := by decide +kernel
theorem dX3_sell_28 : decode cX3_sell 28 = .ok (.aload_n 0, 1) := by decide +kernel
theorem dX3_sell_29 : decode cX3_sell 29 = .ok (.aload_n 3, 1) := by decide +kernel
theorem dX3_sell_30 : decode cX3_sell 30 = .ok (.iload_n 2, 1) := by decide +kernel
theorem dX3_sell_31 : decode cX3_sell 31 = .ok (.invokevirtual 250, 3) := by decide +kernel
theorem dX3_sell_34 : decode cX3_sell 34 = .ok (.aload_n 0, 1) := by decide +kernel
theorem dX3_sell_35 : decode cX3_sell 35 = .ok (.getfield 44, 3) := by decide +kernel
theorem dX3_sell_38 : decode cX3_sell 38 = .ok (.lreturn, 1) := by decide +kernel
theorem dX3_sellToDraught_0 : decode cX3_sellToDraught 0 = .ok (.aload_n 0, 1) := by decide +kernel
theorem dX3_sellToDraught_1 : decode cX3_sellToDraught 1 = .ok (.iload_n 1, 1) := by decide +kernel
theorem dX3_sellToDraught_2 : decode cX3_sellToDraught 2 = .ok (.invokevirtual 155, 3) := by decide +kernel
theorem dX3_sellToDraught_5 : decode cX3_sellToDraught 5 = .ok (.astore_n 3, 1) := by decide +kernel
theorem dX3_sellToDraught_6 : decode cX3_sellToDraught 6 = .ok (.iload_n 2, 1) := by decide +kernel
theorem dX3_sellToDraught_7 : decode cX3_sellToDraught 7 = .ok (.iconst 1, 1) := by decide +kernel
theorem dX3_sellToDraught_8 : decode cX3_sellToDraught 8 = .ok (.bipush 60, 2) := by decide +kernel
theorem dX3_sellToDraught_10 : decode cX3_sellToDraught 10 = .ok (.invokestatic 56, 3) := by decide +kernel
theorem dX3_sellToDraught_13 : decode cX3_sellToDraught 13 = .ok (.ifCond .ne 13, 3) := by decide +kernel
theorem dX3_sellToDraught_16 : decode cX3_sellToDraught 16 = .ok (.new 60, 3) := by decide +kernel
theorem dX3_sellToDraught_19 : decode cX3_sellToDraught 19 = .ok (.dup, 1) := by decide +kernel
theorem dX3_sellToDraught_20 : decode cX3_sellToDraught 20 = .ok (.ldc 254, 2) := by decide +kernel
theorem dX3_sellToDraught_22 : decode cX3_sellToDraught 22 = .ok (.invokespecial 64, 3) := by decide +kernel
theorem dX3_sellToDraught_25 : decode cX3_sellToDraught 25 = .ok (.athrow, 1) := by decide +kernel
theorem dX3_sellToDraught_26 : decode cX3_sellToDraught 26 = .ok (.aload_n 3, 1) := by decide +kernel
theorem dX3_sellToDraught_27 : decode cX3_sellToDraught 27 = .ok (.getfield 256, 3) := by decide +kernel
theorem dX3_sellToDraught_30 : decode cX3_sellToDraught 30 = .ok (.iload_n 2, 1) := by decide +kernel
theorem dX3_sellToDraught_31 : decode cX3_sellToDraught 31 = .ok (.if_icmp .le 14, 3) := by decide +kernel
theorem dX3_sellToDraught_34 : decode cX3_sellToDraught 34 = .ok (.new 70, 3) := by decide +kernel
theorem dX3_sellToDraught_37 : decode cX3_sellToDraught 37 = .ok (.dup, 1) := by decide +kernel
theorem dX3_sellToDraught_38 : decode cX3_sellToDraught 38 = .ok (.ldc_w 259, 3) := by decide +kernel
theorem dX3_sellToDraught_41 : decode cX3_sellToDraught 41 = .ok (.invokespecial 74, 3) := by decide +kernel
theorem dX3_sellToDraught_44 : decode cX3_sellToDraught 44 = .ok (.athrow, 1) := by decide +kernel
theorem dX3_sellToDraught_45 : decode cX3_sellToDraught 45 = .ok (.iconst 0, 1) := by decide +kernel
theorem dX3_sellToDraught_46 : decode cX3_sellToDraught 46 = .ok (.aload_n 3, 1) := by decide +kernel
theorem dX3_sellToDraught_47 : decode cX3_sellToDraught 47 = .ok (.getfield 162, 3) := by decide +kernel
theorem dX3_sellToDraught_50 : decode cX3_sellToDraught 50 = .ok (.aload_n 3, 1) := by decide +kernel
theorem dX3_sellToDraught_51 : decode cX3_sellToDraught 51 = .ok (.iload_n 2, 1) := by decide +kernel
theorem dX3_sellToDraught_52 : decode cX3_sellToDraught 52 = .ok (.invokevirtual 261, 3) := by decide +kernel
theorem dX3_sellToDraught_55 : decode cX3_sellToDraught 55 = .ok (.isub, 1) := by decide +kernel
theorem dX3_sellToDraught_56 : decode cX3_sellToDraught 56 = .ok (.invokestatic 264, 3) := by decide +kernel
theorem dX3_sellToDraught_59 : decode cX3_sellToDraught 59 = .ok (.istore 4, 2) := by decide +kernel
theorem dX3_sellToDraught_61 : decode cX3_sellToDraught 61 = .ok (.aload_n 0, 1) := by decide +kernel
theorem dX3_sellToDraught_62 : decode cX3_sellToDraught 62 = .ok (.aload_n 3, 1) := by decide +kernel
theorem dX3_sellToDraught_63 : decode cX3_sellToDraught 63 = .ok (.iload 4, 2) := by decide +kernel
theorem dX3_sellToDraught_65 : decode cX3_sellToDraught 65 = .ok (.invokevirtual 250, 3) := by decide +kernel
theorem dX3_sellToDraught_68 : decode cX3_sellToDraught 68 = .ok (.iload 4, 2) := by decide +kernel
theorem dX3_sellToDraught_70 : decode cX3_sellToDraught 70 = .ok (.ireturn, 1) := by decide +kernel
theorem dX3_greatestLoad_0 : decode cX3_greatestLoad 0 = .ok (.aload_n 0, 1) := by decide +kernel
theorem dX3_greatestLoad_1 : decode cX3_greatestLoad 1 = .ok (.iload_n 1, 1) := by decide +kernel
theorem dX3_greatestLoad_2 : decode cX3_greatestLoad 2 = .ok (.invokevirtual 155, 3) := by decide +kernel
theorem dX3_greatestLoad_5 : decode cX3_greatestLoad 5 = .ok (.astore_n 2, 1) := by decide +kernel
theorem dX3_greatestLoad_6 : decode cX3_greatestLoad 6 = .ok (.aload_n 0, 1) := by decide +kernel
theorem dX3_greatestLoad_7 : decode cX3_greatestLoad 7 = .ok (.aload_n 2, 1) := by decide +kernel
theorem dX3_greatestLoad_8 : decode cX3_greatestLoad 8 = .ok (.iconst 0, 1) := by decide +kernel
theorem dX3_greatestLoad_9 : decode cX3_greatestLoad 9 = .ok (.invokevirtual 169, 3) := by decide +kernel
theorem dX3_greatestLoad_12 : decode cX3_greatestLoad 12 = .ok (.ifCond .ne 5, 3) := by decide +kernel
theorem dX3_greatestLoad_15 : decode cX3_greatestLoad 15 = .ok (.iconst 0, 1) := by decide +kernel
theorem dX3_greatestLoad_16 : decode cX3_greatestLoad 16 = .ok (.ireturn, 1) := by decide +kernel
theorem dX3_greatestLoad_17 : decode cX3_greatestLoad 17 = .ok (.aload_n 2, 1) := by decide +kernel
theorem dX3_greatestLoad_18 : decode cX3_greatestLoad 18 = .ok (.aload_n 0, 1) := by decide +kernel
theorem dX3_greatestLoad_19 : decode cX3_greatestLoad 19 = .ok (.getfield 12, 3) := by decide +kernel
theorem dX3_greatestLoad_22 : decode cX3_greatestLoad 22 = .ok (.aload_n 2, 1) := by decide +kernel
theorem dX3_greatestLoad_23 : decode cX3_greatestLoad 23 = .ok (.getfield 159, 3) := by decide +kernel
theorem dX3_greatestLoad_26 : decode cX3_greatestLoad 26 = .ok (.invokevirtual 98, 3) := by decide +kernel
theorem dX3_greatestLoad_29 : decode cX3_greatestLoad 29 = .ok (.iconst 1, 1) := by decide +kernel
theorem dX3_greatestLoad_30 : decode cX3_greatestLoad 30 = .ok (.isub, 1) := by decide +kernel
theorem dX3_greatestLoad_31 : decode cX3_greatestLoad 31 = .ok (.invokevirtual 261, 3) := by decide +kernel
theorem dX3_greatestLoad_34 : decode cX3_greatestLoad 34 = .ok (.aload_n 2, 1) := by decide +kernel
theorem dX3_greatestLoad_35 : decode cX3_greatestLoad 35 = .ok (.getfield 162, 3) := by decide +kernel
theorem dX3_greatestLoad_38 : decode cX3_greatestLoad 38 = .ok (.isub, 1) := by decide +kernel
theorem dX3_greatestLoad_39 : decode cX3_greatestLoad 39 = .ok (.ireturn, 1) := by decide +kernel
theorem dX3_worthIn_0 : decode cX3_worthIn 0 = .ok (.aload_n 0, 1) := by decide +kernel
theorem dX3_worthIn_1 : decode cX3_worthIn 1 = .ok (.iload_n 1, 1) := by decide +kernel
theorem dX3_worthIn_2 : decode cX3_worthIn 2 = .ok (.invokevirtual 155, 3) := by decide +kernel
theorem dX3_worthIn_5 : decode cX3_worthIn 5 = .ok (.astore_n 3, 1) := by decide +kernel
theorem dX3_worthIn_6 : decode cX3_worthIn 6 = .ok (.aload_n 0, 1) := by decide +kernel
theorem dX3_worthIn_7 : decode cX3_worthIn 7 = .ok (.iload_n 2, 1) := by decide +kernel
theorem dX3_worthIn_8 : decode cX3_worthIn 8 = .ok (.invokevirtual 78, 3) := by decide +kernel
theorem dX3_worthIn_11 : decode cX3_worthIn 11 = .ok (.aload_n 3, 1) := by decide +kernel
theorem dX3_worthIn_12 : decode cX3_worthIn 12 = .ok (.getfield 162, 3) := by decide +kernel
theorem dX3_worthIn_15 : decode cX3_worthIn 15 = .ok (.aload_n 0, 1) := by decide +kernel
theorem dX3_worthIn_16 : decode cX3_worthIn 16 = .ok (.getfield 23, 3) := by decide +kernel
theorem dX3_worthIn_19 : decode cX3_worthIn 19 = .ok (.iload_n 2, 1) := by decide +kernel
theorem dX3_worthIn_20 : decode cX3_worthIn 20 = .ok (.iaload, 1) := by decide +kernel
theorem dX3_worthIn_21 : decode cX3_worthIn 21 = .ok (.imul, 1) := by decide +kernel
theorem dX3_worthIn_22 : decode cX3_worthIn 22 = .ok (.ireturn, 1) := by decide +kernel
theorem dX3_bestReach_0 : decode cX3_bestReach 0 = .ok (.aload_n 0, 1) := by decide +kernel
theorem dX3_bestReach_1 : decode cX3_bestReach 1 = .ok (.iload_n 1, 1) := by decide +kernel
theorem dX3_bestReach_2 : decode cX3_bestReach 2 = .ok (.invokevirtual 155, 3) := by decide +kernel
theorem dX3_bestReach_5 : decode cX3_bestReach 5 = .ok (.astore_n 2, 1) := by decide +kernel
theorem dX3_bestReach_6 : decode cX3_bestReach 6 = .ok (.aload_n 2, 1) := by decide +kernel
theorem dX3_bestReach_7 : decode cX3_bestReach 7 = .ok (.invokevirtual 173, 3) := by decide +kernel
theorem dX3_bestReach_10 : decode cX3_bestReach 10 = .ok (.astore_n 3, 1) := by decide +kernel
theorem dX3_bestReach_11 : decode cX3_bestReach 11 = .ok (.aload_n 2, 1) := by decide +kernel
theorem dX3_bestReach_12 : decode cX3_bestReach 12 = .ok (.getfield 159, 3) := by decide +kernel
theorem dX3_bestReach_15 : decode cX3_bestReach 15 = .ok (.istore 4, 2) := by decide +kernel
theorem dX3_bestReach_17 : decode cX3_bestReach 17 = .ok (.iconst (-1), 1) := by decide +kernel
theorem dX3_bestReach_18 : decode cX3_bestReach 18 = .ok (.istore 5, 2) := by decide +kernel
theorem dX3_bestReach_20 : decode cX3_bestReach 20 = .ok (.iconst 0, 1) := by decide +kernel
theorem dX3_bestReach_21 : decode cX3_bestReach 21 = .ok (.istore 6, 2) := by decide +kernel
theorem dX3_bestReach_23 : decode cX3_bestReach 23 = .ok (.iload 6, 2) := by decide +kernel
theorem dX3_bestReach_25 : decode cX3_bestReach 25 = .ok (.aload_n 0, 1) := by decide +kernel
theorem dX3_bestReach_26 : decode cX3_bestReach 26 = .ok (.getfield 12, 3) := by decide +kernel
theorem dX3_bestReach_29 : decode cX3_bestReach 29 = .ok (.getfield 67, 3) := by decide +kernel
theorem dX3_bestReach_32 : decode cX3_bestReach 32 = .ok (.if_icmp .ge 48, 3) := by decide +kernel
theorem dX3_bestReach_35 : decode cX3_bestReach 35 = .ok (.aload_n 2, 1) := by decide +kernel
theorem dX3_bestReach_36 : decode cX3_bestReach 36 = .ok (.getfield 162, 3) := by decide +kernel
theorem dX3_bestReach_39 : decode cX3_bestReach 39 = .ok (.aload_n 0, 1) := by decide +kernel
theorem dX3_bestReach_40 : decode cX3_bestReach 40 = .ok (.getfield 23, 3) := by decide +kernel
theorem dX3_bestReach_43 : decode cX3_bestReach 43 = .ok (.iload 6, 2) := by decide +kernel
theorem dX3_bestReach_45 : decode cX3_bestReach 45 = .ok (.iaload, 1) := by decide +kernel
theorem dX3_bestReach_46 : decode cX3_bestReach 46 = .ok (.imul, 1) := by decide +kernel
theorem dX3_bestReach_47 : decode cX3_bestReach 47 = .ok (.istore 7, 2) := by decide +kernel
theorem dX3_bestReach_49 : decode cX3_bestReach 49 = .ok (.iload 7, 2) := by decide +kernel
theorem dX3_bestReach_51 : decode cX3_bestReach 51 = .ok (.iload 5, 2) := by decide +kernel
theorem dX3_bestReach_53 : decode cX3_bestReach 53 = .ok (.if_icmp .le 21, 3) := by decide +kernel
theorem dX3_bestReach_56 : decode cX3_bestReach 56 = .ok (.aload_n 0, 1) := by decide +kernel
theorem dX3_bestReach_57 : decode cX3_bestReach 57 = .ok (.aload_n 3, 1) := by decide +kernel
theorem dX3_bestReach_58 : decode cX3_bestReach 58 = .ok (.iload 6, 2) := by decide +kernel
theorem dX3_bestReach_60 : decode cX3_bestReach 60 = .ok (.invokevirtual 220, 3) := by decide +kernel
theorem dX3_bestReach_63 : decode cX3_bestReach 63 = .ok (.ifCond .eq 11, 3) := by decide +kernel
theorem dX3_bestReach_66 : decode cX3_bestReach 66 = .ok (.iload 6, 2) := by decide +kernel
theorem dX3_bestReach_68 : decode cX3_bestReach 68 = .ok (.istore 4, 2) := by decide +kernel
theorem dX3_bestReach_70 : decode cX3_bestReach 70 = .ok (.iload 7, 2) := by decide +kernel
theorem dX3_bestReach_72 : decode cX3_bestReach 72 = .ok (.istore 5, 2) := by decide +kernel
theorem dX3_bestReach_74 : decode cX3_bestReach 74 = .ok (.iinc 6 1, 3) := by decide +kernel
theorem dX3_bestReach_77 : decode cX3_bestReach 77 = .ok (.goto (-54), 3) := by decide +kernel
theorem dX3_bestReach_80 : decode cX3_bestReach 80 = .ok (.iload 4, 2) := by decide +kernel
theorem dX3_bestReach_82 : decode cX3_bestReach 82 = .ok (.ireturn, 1) := by decide +kernel
theorem dX3_cameTotal_0 : decode cX3_cameTotal 0 = .ok (.aload_n 0, 1) := by decide +kernel
theorem dX3_cameTotal_1 : decode cX3_cameTotal 1 = .ok (.getfield 12, 3) := by decide +kernel
theorem dX3_cameTotal_4 : decode cX3_cameTotal 4 = .ok (.iconst (-1), 1) := by decide +kernel
theorem dX3_cameTotal_5 : decode cX3_cameTotal 5 = .ok (.invokevirtual 85, 3) := by decide +kernel
theorem dX3_cameTotal_8 : decode cX3_cameTotal 8 = .ok (.ineg, 1) := by decide +kernel
theorem dX3_cameTotal_9 : decode cX3_cameTotal 9 = .ok (.ireturn, 1) := by decide +kernel
theorem dX3_seaTotal_0 : decode cX3_seaTotal 0 = .ok (.aload_n 0, 1) := by decide +kernel
theorem dX3_seaTotal_1 : decode cX3_seaTotal 1 = .ok (.getfield 12, 3) := by decide +kernel
theorem dX3_seaTotal_4 : decode cX3_seaTotal 4 = .ok (.bipush (-2), 2) := by decide +kernel
theorem dX3_seaTotal_6 : decode cX3_seaTotal 6 = .ok (.invokevirtual 85, 3) := by decide +kernel
theorem dX3_seaTotal_9 : decode cX3_seaTotal 9 = .ok (.ireturn, 1) := by decide +kernel
theorem dX3_airTotal_0 : decode cX3_airTotal 0 = .ok (.aload_n 0, 1) := by decide +kernel
theorem dX3_airTotal_1 : decode cX3_airTotal 1 = .ok (.getfield 12, 3) := by decide +kernel
theorem dX3_airTotal_4 : decode cX3_airTotal 4 = .ok (.bipush (-3), 2) := by decide +kernel
theorem dX3_airTotal_6 : decode cX3_airTotal 6 = .ok (.invokevirtual 85, 3) := by decide +kernel
theorem dX3_airTotal_9 : decode cX3_airTotal 9 = .ok (.ireturn, 1) := by decide +kernel
theorem dX3_heldTotal_0 : decode cX3_heldTotal 0 = .ok (.iconst 0, 1) := by decide +kernel
theorem dX3_heldTotal_1 : decode cX3_heldTotal 1 = .ok (.istore_n 1, 1) := by decide +kernel
theorem dX3_heldTotal_2 : decode cX3_heldTotal 2 = .ok (.iconst 0, 1) := by decide +kernel
theorem dX3_heldTotal_3 : decode cX3_heldTotal 3 = .ok (.istore_n 2, 1) := by decide +kernel
theorem dX3_heldTotal_4 : decode cX3_heldTotal 4 = .ok (.iload_n 2, 1) := by decide +kernel
theorem dX3_heldTotal_5 : decode cX3_heldTotal 5 = .ok (.aload_n 0, 1) := by decide +kernel
theorem dX3_heldTotal_6 : decode cX3_heldTotal 6 = .ok (.getfield 12, 3) := by decide +kernel
theorem dX3_heldTotal_9 : decode cX3_heldTotal 9 = .ok (.getfield 67, 3) := by decide +kernel
theorem dX3_heldTotal_12 : decode cX3_heldTotal 12 = .ok (.if_icmp .ge 20, 3) := by decide +kernel
theorem dX3_heldTotal_15 : decode cX3_heldTotal 15 = .ok (.iload_n 1, 1) := by decide +kernel
theorem dX3_heldTotal_16 : decode cX3_heldTotal 16 = .ok (.aload_n 0, 1) := by decide +kernel
theorem dX3_heldTotal_17 : decode cX3_heldTotal 17 = .ok (.getfield 12, 3) := by decide +kernel
theorem dX3_heldTotal_20 : decode cX3_heldTotal 20 = .ok (.iload_n 2, 1) := by decide +kernel
theorem dX3_heldTotal_21 : decode cX3_heldTotal 21 = .ok (.invokevirtual 85, 3) := by decide +kernel
theorem dX3_heldTotal_24 : decode cX3_heldTotal 24 = .ok (.iadd, 1) := by decide +kernel
theorem dX3_heldTotal_25 : decode cX3_heldTotal 25 = .ok (.istore_n 1, 1) := by decide +kernel
theorem dX3_heldTotal_26 : decode cX3_heldTotal 26 = .ok (.iinc 2 1, 3) := by decide +kernel
theorem dX3_heldTotal_29 : decode cX3_heldTotal 29 = .ok (.goto (-25), 3) := by decide +kernel
theorem dX3_heldTotal_32 : decode cX3_heldTotal 32 = .ok (.iconst 0, 1) := by decide +kernel
theorem dX3_heldTotal_33 : decode cX3_heldTotal 33 = .ok (.istore_n 2, 1) := by decide +kernel
theorem dX3_heldTotal_34 : decode cX3_heldTotal 34 = .ok (.iload_n 2, 1) := by decide +kernel
theorem dX3_heldTotal_35 : decode cX3_heldTotal 35 = .ok (.aload_n 0, 1) := by decide +kernel
theorem dX3_heldTotal_36 : decode cX3_heldTotal 36 = .ok (.getfield 12, 3) := by decide +kernel
theorem dX3_heldTotal_39 : decode cX3_heldTotal 39 = .ok (.getfield 67, 3) := by decide +kernel
theorem dX3_heldTotal_42 : decode cX3_heldTotal 42 = .ok (.iconst 1, 1) := by decide +kernel
theorem dX3_heldTotal_43 : decode cX3_heldTotal 43 = .ok (.isub, 1) := by decide +kernel
theorem dX3_heldTotal_44 : decode cX3_heldTotal 44 = .ok (.if_icmp .ge 23, 3) := by decide +kernel
theorem dX3_heldTotal_47 : decode cX3_heldTotal 47 = .ok (.iload_n 1, 1) := by decide +kernel
theorem dX3_heldTotal_48 : decode cX3_heldTotal 48 = .ok (.aload_n 0, 1) := by decide +kernel
theorem dX3_heldTotal_49 : decode cX3_heldTotal 49 = .ok (.getfield 12, 3) := by decide +kernel
theorem dX3_heldTotal_52 : decode cX3_heldTotal 52 = .ok (.bipush 10, 2) := by decide +kernel
theorem dX3_heldTotal_54 : decode cX3_heldTotal 54 = .ok (.iload_n 2, 1) := by decide +kernel
theorem dX3_heldTotal_55 : decode cX3_heldTotal 55 = .ok (.iadd, 1) := by decide +kernel
theorem dX3_heldTotal_56 : decode cX3_heldTotal 56 = .ok (.invokevirtual 85, 3) := by decide +kernel
theorem dX3_heldTotal_59 : decode cX3_heldTotal 59 = .ok (.iadd, 1) := by decide +kernel
theorem dX3_heldTotal_60 : decode cX3_heldTotal 60 = .ok (.istore_n 1, 1) := by decide +kernel
theorem dX3_heldTotal_61 : decode cX3_heldTotal 61 = .ok (.iinc 2 1, 3) := by decide +kernel
theorem dX3_heldTotal_64 : decode cX3_heldTotal 64 = .ok (.goto (-30), 3) := by decide +kernel
theorem dX3_heldTotal_67 : decode cX3_heldTotal 67 = .ok (.iload_n 1, 1) := by decide +kernel
theorem dX3_heldTotal_68 : decode cX3_heldTotal 68 = .ok (.ireturn, 1) := by decide +kernel
theorem dX3_movementCount_0 : decode cX3_movementCount 0 = .ok (.aload_n 0, 1) := by decide +kernel
theorem dX3_movementCount_1 : decode cX3_movementCount 1 = .ok (.getfield 12, 3) := by decide +kernel
theorem dX3_movementCount_4 : decode cX3_movementCount 4 = .ok (.getfield 89, 3) := by decide +kernel
theorem dX3_movementCount_7 : decode cX3_movementCount 7 = .ok (.getfield 267, 3) := by decide +kernel
theorem dX3_movementCount_10 : decode cX3_movementCount 10 = .ok (.ireturn, 1) := by decide +kernel
theorem dX3_movementFrom_0 : decode cX3_movementFrom 0 = .ok (.aload_n 0, 1) := by decide +kernel
theorem dX3_movementFrom_1 : decode cX3_movementFrom 1 = .ok (.iload_n 1, 1) := by decide +kernel
theorem dX3_movementFrom_2 : decode cX3_movementFrom 2 = .ok (.invokevirtual 270, 3) := by decide +kernel
theorem dX3_movementFrom_5 : decode cX3_movementFrom 5 = .ok (.aload_n 0, 1) := by decide +kernel
theorem dX3_movementFrom_6 : decode cX3_movementFrom 6 = .ok (.getfield 12, 3) := by decide +kernel
theorem dX3_movementFrom_9 : decode cX3_movementFrom 9 = .ok (.getfield 89, 3) := by decide +kernel
theorem dX3_movementFrom_12 : decode cX3_movementFrom 12 = .ok (.getfield 273, 3) := by decide +kernel
theorem dX3_movementFrom_15 : decode cX3_movementFrom 15 = .ok (.iload_n 1, 1) := by decide +kernel
theorem dX3_movementFrom_16 : decode cX3_movementFrom 16 = .ok (.iaload, 1) := by decide +kernel
theorem dX3_movementFrom_17 : decode cX3_movementFrom 17 = .ok (.ireturn, 1) := by decide +kernel
theorem dX3_movementTo_0 : decode cX3_movementTo 0 = .ok (.aload_n 0, 1) := by decide +kernel
theorem dX3_movementTo_1 : decode cX3_movementTo 1 = .ok (.iload_n 1, 1) := by decide +kernel
theorem dX3_movementTo_2 : decode cX3_movementTo 2 = .ok (.invokevirtual 270, 3) := by decide +kernel
theorem dX3_movementTo_5 : decode cX3_movementTo 5 = .ok (.aload_n 0, 1) := by decide +kernel
theorem dX3_movementTo_6 : decode cX3_movementTo 6 = .ok (.getfield 12, 3) := by decide +kernel
theorem dX3_movementTo_9 : decode cX3_movementTo 9 = .ok (.getfield 89, 3) := by decide +kernel
theorem dX3_movementTo_12 : decode cX3_movementTo 12 = .ok (.getfield 276, 3) := by decide +kernel
theorem dX3_movementTo_15 : decode cX3_movementTo 15 = .ok (.iload_n 1, 1) := by decide +kernel
theorem dX3_movementTo_16 : decode cX3_movementTo 16 = .ok (.iaload, 1) := by decide +kernel
theorem dX3_movementTo_17 : decode cX3_movementTo 17 = .ok (.ireturn, 1) := by decide +kernel
theorem dX3_movementVolume_0 : decode cX3_movementVolume 0 = .ok (.aload_n 0, 1) := by decide +kernel
theorem dX3_movementVolume_1 : decode cX3_movementVolume 1 = .ok (.iload_n 1, 1) := by decide +kernel
theorem dX3_movementVolume_2 : decode cX3_movementVolume 2 = .ok (.invokevirtual 270, 3) := by decide +kernel
theorem dX3_movementVolume_5 : decode cX3_movementVolume 5 = .ok (.aload_n 0, 1) := by decide +kernel
theorem dX3_movementVolume_6 : decode cX3_movementVolume 6 = .ok (.getfield 12, 3) := by decide +kernel
theorem dX3_movementVolume_9 : decode cX3_movementVolume 9 = .ok (.getfield 89, 3) := by decide +kernel
theorem dX3_movementVolume_12 : decode cX3_movementVolume 12 = .ok (.getfield 279, 3) := by decide +kernel
theorem dX3_movementVolume_15 : decode cX3_movementVolume 15 = .ok (.iload_n 1, 1) := by decide +kernel
theorem dX3_movementVolume_16 : decode cX3_movementVolume 16 = .ok (.iaload, 1) := by decide +kernel
theorem dX3_movementVolume_17 : decode cX3_movementVolume 17 = .ok (.ireturn, 1) := by decide +kernel
theorem dX3_meanLevel_0 : decode cX3_meanLevel 0 = .ok (.iconst 0, 1) := by decide +kernel
theorem dX3_meanLevel_1 : decode cX3_meanLevel 1 = .ok (.istore_n 1, 1) := by decide +kernel
theorem dX3_meanLevel_2 : decode cX3_meanLevel 2 = .ok (.iconst 0, 1) := by decide +kernel
theorem dX3_meanLevel_3 : decode cX3_meanLevel 3 = .ok (.istore_n 2, 1) := by decide +kernel
theorem dX3_meanLevel_4 : decode cX3_meanLevel 4 = .ok (.iload_n 2, 1) := by decide +kernel
theorem dX3_meanLevel_5 : decode cX3_meanLevel 5 = .ok (.aload_n 0, 1) := by decide +kernel
theorem dX3_meanLevel_6 : decode cX3_meanLevel 6 = .ok (.getfield 12, 3) := by decide +kernel
theorem dX3_meanLevel_9 : decode cX3_meanLevel 9 = .ok (.getfield 67, 3) := by decide +kernel
theorem dX3_meanLevel_12 : decode cX3_meanLevel 12 = .ok (.if_icmp .ge 20, 3) := by decide +kernel
theorem dX3_meanLevel_15 : decode cX3_meanLevel 15 = .ok (.iload_n 1, 1) := by decide +kernel
theorem dX3_meanLevel_16 : decode cX3_meanLevel 16 = .ok (.aload_n 0, 1) := by decide +kernel
theorem dX3_meanLevel_17 : decode cX3_meanLevel 17 = .ok (.getfield 12, 3) := by decide +kernel
theorem dX3_meanLevel_20 : decode cX3_meanLevel 20 = .ok (.iload_n 2, 1) := by decide +kernel
theorem dX3_meanLevel_21 : decode cX3_meanLevel 21 = .ok (.invokevirtual 98, 3) := by decide +kernel
theorem dX3_meanLevel_24 : decode cX3_meanLevel 24 = .ok (.iadd, 1) := by decide +kernel
theorem dX3_meanLevel_25 : decode cX3_meanLevel 25 = .ok (.istore_n 1, 1) := by decide +kernel
theorem dX3_meanLevel_26 : decode cX3_meanLevel 26 = .ok (.iinc 2 1, 3) := by decide +kernel
theorem dX3_meanLevel_29 : decode cX3_meanLevel 29 = .ok (.goto (-25), 3) := by decide +kernel
theorem dX3_meanLevel_32 : decode cX3_meanLevel 32 = .ok (.iload_n 1, 1) := by decide +kernel
theorem dX3_meanLevel_33 : decode cX3_meanLevel 33 = .ok (.i2d, 1) := by decide +kernel
theorem dX3_meanLevel_34 : decode cX3_meanLevel 34 = .ok (.aload_n 0, 1) := by decide +kernel
theorem dX3_meanLevel_35 : decode cX3_meanLevel 35 = .ok (.getfield 12, 3) := by decide +kernel
theorem dX3_meanLevel_38 : decode cX3_meanLevel 38 = .ok (.getfield 67, 3) := by decide +kernel
theorem dX3_meanLevel_41 : decode cX3_meanLevel 41 = .ok (.i2d, 1) := by decide +kernel
theorem dX3_meanLevel_42 : decode cX3_meanLevel 42 = .ok (.ddiv, 1) := by decide +kernel
theorem dX3_meanLevel_43 : decode cX3_meanLevel 43 = .ok (.dreturn, 1) := by decide +kernel
theorem dX3_isBalanced_0 : decode cX3_isBalanced 0 = .ok (.aload_n 0, 1) := by decide +kernel
theorem dX3_isBalanced_1 : decode cX3_isBalanced 1 = .ok (.invokevirtual 282, 3) := by decide +kernel
theorem dX3_isBalanced_4 : decode cX3_isBalanced 4 = .ok (.aload_n 0, 1) := by decide +kernel
theorem dX3_isBalanced_5 : decode cX3_isBalanced 5 = .ok (.invokevirtual 285, 3) := by decide +kernel
theorem dX3_isBalanced_8 : decode cX3_isBalanced 8 = .ok (.aload_n 0, 1) := by decide +kernel
theorem dX3_isBalanced_9 : decode cX3_isBalanced 9 = .ok (.invokevirtual 288, 3) := by decide +kernel
theorem dX3_isBalanced_12 : decode cX3_isBalanced 12 = .ok (.iadd, 1) := by decide +kernel
theorem dX3_isBalanced_13 : decode cX3_isBalanced 13 = .ok (.aload_n 0, 1) := by decide +kernel
theorem dX3_isBalanced_14 : decode cX3_isBalanced 14 = .ok (.invokevirtual 291, 3) := by decide +kernel
theorem dX3_isBalanced_17 : decode cX3_isBalanced 17 = .ok (.iadd, 1) := by decide +kernel
theorem dX3_isBalanced_18 : decode cX3_isBalanced 18 = .ok (.if_icmp .eq 5, 3) := by decide +kernel
theorem dX3_isBalanced_21 : decode cX3_isBalanced 21 = .ok (.iconst 0, 1) := by decide +kernel
theorem dX3_isBalanced_22 : decode cX3_isBalanced 22 = .ok (.ireturn, 1) := by decide +kernel
theorem dX3_isBalanced_23 : decode cX3_isBalanced 23 = .ok (.iconst 0, 1) := by decide +kernel
theorem dX3_isBalanced_24 : decode cX3_isBalanced 24 = .ok (.istore_n 1, 1) := by decide +kernel
theorem dX3_isBalanced_25 : decode cX3_isBalanced 25 = .ok (.iload_n 1, 1) := by decide +kernel
theorem dX3_isBalanced_26 : decode cX3_isBalanced 26 = .ok (.aload_n 0, 1) := by decide +kernel
theorem dX3_isBalanced_27 : decode cX3_isBalanced 27 = .ok (.getfield 12, 3) := by decide +kernel
theorem dX3_isBalanced_30 : decode cX3_isBalanced 30 = .ok (.getfield 67, 3) := by decide +kernel
theorem dX3_isBalanced_33 : decode cX3_isBalanced 33 = .ok (.if_icmp .ge 24, 3) := by decide +kernel
theorem dX3_isBalanced_36 : decode cX3_isBalanced 36 = .ok (.aload_n 0, 1) := by decide +kernel
theorem dX3_isBalanced_37 : decode cX3_isBalanced 37 = .ok (.iload_n 1, 1) := by decide +kernel
theorem dX3_isBalanced_38 : decode cX3_isBalanced 38 = .ok (.invokevirtual 294, 3) := by decide +kernel
theorem dX3_isBalanced_41 : decode cX3_isBalanced 41 = .ok (.aload_n 0, 1) := by decide +kernel
theorem dX3_isBalanced_42 : decode cX3_isBalanced 42 = .ok (.iload_n 1, 1) := by decide +kernel
theorem dX3_isBalanced_43 : decode cX3_isBalanced 43 = .ok (.invokevirtual 297, 3) := by decide +kernel
theorem dX3_isBalanced_46 : decode cX3_isBalanced 46 = .ok (.if_icmp .eq 5, 3) := by decide +kernel
theorem dX3_isBalanced_49 : decode cX3_isBalanced 49 = .ok (.iconst 0, 1) := by decide +kernel
theorem dX3_isBalanced_50 : decode cX3_isBalanced 50 = .ok (.ireturn, 1) := by decide +kernel
theorem dX3_isBalanced_51 : decode cX3_isBalanced 51 = .ok (.iinc 1 1, 3) := by decide +kernel
theorem dX3_isBalanced_54 : decode cX3_isBalanced 54 = .ok (.goto (-29), 3) := by decide +kernel
theorem dX3_isBalanced_57 : decode cX3_isBalanced 57 = .ok (.iconst 1, 1) := by decide +kernel
theorem dX3_isBalanced_58 : decode cX3_isBalanced 58 = .ok (.ireturn, 1) := by decide +kernel
theorem dX3_writeReach_0 : decode cX3_writeReach 0 = .ok (.aload_n 0, 1) := by decide +kernel
theorem dX3_writeReach_1 : decode cX3_writeReach 1 = .ok (.iload_n 1, 1) := by decide +kernel
theorem dX3_writeReach_2 : decode cX3_writeReach 2 = .ok (.invokevirtual 78, 3) := by decide +kernel
theorem dX3_writeReach_5 : decode cX3_writeReach 5 = .ok (.aload_n 0, 1) := by decide +kernel
theorem dX3_writeReach_6 : decode cX3_writeReach 6 = .ok (.getfield 38, 3) := by decide +kernel
theorem dX3_writeReach_9 : decode cX3_writeReach 9 = .ok (.iconst 0, 1) := by decide +kernel
theorem dX3_writeReach_10 : decode cX3_writeReach 10 = .ok (.invokevirtual 300, 3) := by decide +kernel
theorem dX3_writeReach_13 : decode cX3_writeReach 13 = .ok (.aload_n 0, 1) := by decide +kernel
theorem dX3_writeReach_14 : decode cX3_writeReach 14 = .ok (.getfield 38, 3) := by decide +kernel
theorem dX3_writeReach_17 : decode cX3_writeReach 17 = .ok (.iload_n 1, 1) := by decide +kernel
theorem dX3_writeReach_18 : decode cX3_writeReach 18 = .ok (.invokevirtual 303, 3) := by decide +kernel
theorem dX3_writeReach_21 : decode cX3_writeReach 21 = .ok (.ldc_w 307, 3) := by decide +kernel
theorem dX3_writeReach_24 : decode cX3_writeReach 24 = .ok (.invokevirtual 309, 3) := by decide +kernel
theorem dX3_writeReach_27 : decode cX3_writeReach 27 = .ok (.aload_n 0, 1) := by decide +kernel
theorem dX3_writeReach_28 : decode cX3_writeReach 28 = .ok (.getfield 12, 3) := by decide +kernel
theorem dX3_writeReach_31 : decode cX3_writeReach 31 = .ok (.iload_n 1, 1) := by decide +kernel
theorem dX3_writeReach_32 : decode cX3_writeReach 32 = .ok (.invokevirtual 98, 3) := by decide +kernel
theorem dX3_writeReach_35 : decode cX3_writeReach 35 = .ok (.invokevirtual 303, 3) := by decide +kernel
theorem dX3_writeReach_38 : decode cX3_writeReach 38 = .ok (.ldc_w 312, 3) := by decide +kernel
theorem dX3_writeReach_41 : decode cX3_writeReach 41 = .ok (.invokevirtual 309, 3) := by decide +kernel
theorem dX3_writeReach_44 : decode cX3_writeReach 44 = .ok (.pop, 1) := by decide +kernel
theorem dX3_writeReach_45 : decode cX3_writeReach 45 = .ok (.iconst 0, 1) := by decide +kernel
theorem dX3_writeReach_46 : decode cX3_writeReach 46 = .ok (.istore_n 2, 1) := by decide +kernel
theorem dX3_writeReach_47 : decode cX3_writeReach 47 = .ok (.iload_n 2, 1) := by decide +kernel
theorem dX3_writeReach_48 : decode cX3_writeReach 48 = .ok (.aload_n 0, 1) := by decide +kernel
theorem dX3_writeReach_49 : decode cX3_writeReach 49 = .ok (.getfield 145, 3) := by decide +kernel
theorem dX3_writeReach_52 : decode cX3_writeReach 52 = .ok (.if_icmp .ge 46, 3) := by decide +kernel
theorem dX3_writeReach_55 : decode cX3_writeReach 55 = .ok (.aload_n 0, 1) := by decide +kernel
theorem dX3_writeReach_56 : decode cX3_writeReach 56 = .ok (.getfield 31, 3) := by decide +kernel
theorem dX3_writeReach_59 : decode cX3_writeReach 59 = .ok (.iload_n 2, 1) := by decide +kernel
theorem dX3_writeReach_60 : decode cX3_writeReach 60 = .ok (.aaload, 1) := by decide +kernel
theorem dX3_writeReach_61 : decode cX3_writeReach 61 = .ok (.astore_n 3, 1) := by decide +kernel
theorem dX3_writeReach_62 : decode cX3_writeReach 62 = .ok (.aload_n 3, 1) := by decide +kernel
theorem dX3_writeReach_63 : decode cX3_writeReach 63 = .ok (.getfield 159, 3) := by decide +kernel
theorem dX3_writeReach_66 : decode cX3_writeReach 66 = .ok (.iload_n 1, 1) := by decide +kernel
theorem dX3_writeReach_67 : decode cX3_writeReach 67 = .ok (.if_icmp .ne 25, 3) := by decide +kernel
theorem dX3_writeReach_70 : decode cX3_writeReach 70 = .ok (.aload_n 3, 1) := by decide +kernel
theorem dX3_writeReach_71 : decode cX3_writeReach 71 = .ok (.getfield 191, 3) := by decide +kernel
theorem dX3_writeReach_74 : decode cX3_writeReach 74 = .ok (.ifnonnull 18, 3) := by decide +kernel
theorem dX3_writeReach_77 : decode cX3_writeReach 77 = .ok (.aload_n 0, 1) := by decide +kernel
theorem dX3_writeReach_78 : decode cX3_writeReach 78 = .ok (.getfield 38, 3) := by decide +kernel
theorem dX3_writeReach_81 : decode cX3_writeReach 81 = .ok (.bipush 32, 2) := by decide +kernel
theorem dX3_writeReach_83 : decode cX3_writeReach 83 = .ok (.invokevirtual 314, 3) := by decide +kernel
theorem dX3_writeReach_86 : decode cX3_writeReach 86 = .ok (.pop, 1) := by decide +kernel
theorem dX3_writeReach_87 : decode cX3_writeReach 87 = .ok (.aload_n 0, 1) := by decide +kernel
theorem dX3_writeReach_88 : decode cX3_writeReach 88 = .ok (.aload_n 3, 1) := by decide +kernel
theorem dX3_writeReach_89 : decode cX3_writeReach 89 = .ok (.invokevirtual 317, 3) := by decide +kernel
theorem dX3_writeReach_92 : decode cX3_writeReach 92 = .ok (.iinc 2 1, 3) := by decide +kernel
theorem dX3_writeReach_95 : decode cX3_writeReach 95 = .ok (.goto (-48), 3) := by decide +kernel
theorem dX3_writeReach_98 : decode cX3_writeReach 98 = .ok (.aload_n 0, 1) := by decide +kernel
theorem dX3_writeReach_99 : decode cX3_writeReach 99 = .ok (.getfield 38, 3) := by decide +kernel
theorem dX3_writeReach_102 : decode cX3_writeReach 102 = .ok (.invokevirtual 321, 3) := by decide +kernel
theorem dX3_writeReach_105 : decode cX3_writeReach 105 = .ok (.ireturn, 1) := by decide +kernel
theorem dX3_lineAt_0 : decode cX3_lineAt 0 = .ok (.iload_n 1, 1) := by decide +kernel
theorem dX3_lineAt_1 : decode cX3_lineAt 1 = .ok (.ifCond .lt 14, 3) := by decide +kernel
theorem dX3_lineAt_4 : decode cX3_lineAt 4 = .ok (.iload_n 1, 1) := by decide +kernel
theorem dX3_lineAt_5 : decode cX3_lineAt 5 = .ok (.aload_n 0, 1) := by decide +kernel
theorem dX3_lineAt_6 : decode cX3_lineAt 6 = .ok (.getfield 38, 3) := by decide +kernel
theorem dX3_lineAt_9 : decode cX3_lineAt 9 = .ok (.invokevirtual 321, 3) := by decide +kernel
theorem dX3_lineAt_12 : decode cX3_lineAt 12 = .ok (.if_icmp .lt 14, 3) := by decide +kernel
theorem dX3_lineAt_15 : decode cX3_lineAt 15 = .ok (.new 324, 3) := by decide +kernel
theorem dX3_lineAt_18 : decode cX3_lineAt 18 = .ok (.dup, 1) := by decide +kernel
theorem dX3_lineAt_19 : decode cX3_lineAt 19 = .ok (.ldc_w 326, 3) := by decide +kernel
theorem dX3_lineAt_22 : decode cX3_lineAt 22 = .ok (.invokespecial 328, 3) := by decide +kernel
theorem dX3_lineAt_25 : decode cX3_lineAt 25 = .ok (.athrow, 1) := by decide +kernel
theorem dX3_lineAt_26 : decode cX3_lineAt 26 = .ok (.aload_n 0, 1) := by decide +kernel
theorem dX3_lineAt_27 : decode cX3_lineAt 27 = .ok (.getfield 38, 3) := by decide +kernel
theorem dX3_lineAt_30 : decode cX3_lineAt 30 = .ok (.iload_n 1, 1) := by decide +kernel
theorem dX3_lineAt_31 : decode cX3_lineAt 31 = .ok (.invokevirtual 329, 3) := by decide +kernel
theorem dX3_lineAt_34 : decode cX3_lineAt 34 = .ok (.ireturn, 1) := by decide +kernel
theorem dX3_isWithin_0 : decode cX3_isWithin 0 = .ok (.iload_n 0, 1) := by decide +kernel
theorem dX3_isWithin_1 : decode cX3_isWithin 1 = .ok (.iload_n 1, 1) := by decide +kernel
theorem dX3_isWithin_2 : decode cX3_isWithin 2 = .ok (.if_icmp .lt 12, 3) := by decide +kernel
theorem dX3_isWithin_5 : decode cX3_isWithin 5 = .ok (.iload_n 0, 1) := by decide +kernel
theorem dX3_isWithin_6 : decode cX3_isWithin 6 = .ok (.iload_n 2, 1) := by decide +kernel
theorem dX3_isWithin_7 : decode cX3_isWithin 7 = .ok (.if_icmp .gt 7, 3) := by decide +kernel
theorem dX3_isWithin_10 : decode cX3_isWithin 10 = .ok (.iconst 1, 1) := by decide +kernel
theorem dX3_isWithin_11 : decode cX3_isWithin 11 = .ok (.goto 4, 3) := by decide +kernel
theorem dX3_isWithin_14 : decode cX3_isWithin 14 = .ok (.iconst 0, 1) := by decide +kernel
theorem dX3_isWithin_15 : decode cX3_isWithin 15 = .ok (.ireturn, 1) := by decide +kernel
theorem dX3_needReach_0 : decode cX3_needReach 0 = .ok (.iload_n 1, 1) := by decide +kernel
theorem dX3_needReach_1 : decode cX3_needReach 1 = .ok (.ifCond .lt 14, 3) := by decide +kernel
theorem dX3_needReach_4 : decode cX3_needReach 4 = .ok (.iload_n 1, 1) := by decide +kernel
theorem dX3_needReach_5 : decode cX3_needReach 5 = .ok (.aload_n 0, 1) := by decide +kernel
theorem dX3_needReach_6 : decode cX3_needReach 6 = .ok (.getfield 12, 3) := by decide +kernel
theorem dX3_needReach_9 : decode cX3_needReach 9 = .ok (.getfield 67, 3) := by decide +kernel
theorem dX3_needReach_12 : decode cX3_needReach 12 = .ok (.if_icmp .lt 14, 3) := by decide +kernel
theorem dX3_needReach_15 : decode cX3_needReach 15 = .ok (.new 324, 3) := by decide +kernel
theorem dX3_needReach_18 : decode cX3_needReach 18 = .ok (.dup, 1) := by decide +kernel
theorem dX3_needReach_19 : decode cX3_needReach 19 = .ok (.ldc_w 333, 3) := by decide +kernel
theorem dX3_needReach_22 : decode cX3_needReach 22 = .ok (.invokespecial 328, 3) := by decide +kernel
theorem dX3_needReach_25 : decode cX3_needReach 25 = .ok (.athrow, 1) := by decide +kernel
theorem dX3_needReach_26 : decode cX3_needReach 26 = .ok (.return_, 1) := by decide +kernel
theorem dX3_needLock_0 : decode cX3_needLock 0 = .ok (.iload_n 1, 1) := by decide +kernel
theorem dX3_needLock_1 : decode cX3_needLock 1 = .ok (.ifCond .lt 16, 3) := by decide +kernel
theorem dX3_needLock_4 : decode cX3_needLock 4 = .ok (.iload_n 1, 1) := by decide +kernel
theorem dX3_needLock_5 : decode cX3_needLock 5 = .ok (.aload_n 0, 1) := by decide +kernel
theorem dX3_needLock_6 : decode cX3_needLock 6 = .ok (.getfield 12, 3) := by decide +kernel
theorem dX3_needLock_9 : decode cX3_needLock 9 = .ok (.getfield 67, 3) := by decide +kernel
theorem dX3_needLock_12 : decode cX3_needLock 12 = .ok (.iconst 1, 1) := by decide +kernel
theorem dX3_needLock_13 : decode cX3_needLock 13 = .ok (.isub, 1) := by decide +kernel
theorem dX3_needLock_14 : decode cX3_needLock 14 = .ok (.if_icmp .lt 14, 3) := by decide +kernel
theorem dX3_needLock_17 : decode cX3_needLock 17 = .ok (.new 324, 3) := by decide +kernel
theorem dX3_needLock_20 : decode cX3_needLock 20 = .ok (.dup, 1) := by decide +kernel
theorem dX3_needLock_21 : decode cX3_needLock 21 = .ok (.ldc_w 335, 3) := by decide +kernel
theorem dX3_needLock_24 : decode cX3_needLock 24 = .ok (.invokespecial 328, 3) := by decide +kernel
theorem dX3_needLock_27 : decode cX3_needLock 27 = .ok (.athrow, 1) := by decide +kernel
theorem dX3_needLock_28 : decode cX3_needLock 28 = .ok (.return_, 1) := by decide +kernel
theorem dX3_needMovement_0 : decode cX3_needMovement 0 = .ok (.iload_n 1, 1) := by decide +kernel
theorem dX3_needMovement_1 : decode cX3_needMovement 1 = .ok (.ifCond .lt 17, 3) := by decide +kernel
theorem dX3_needMovement_4 : decode cX3_needMovement 4 = .ok (.iload_n 1, 1) := by decide +kernel
theorem dX3_needMovement_5 : decode cX3_needMovement 5 = .ok (.aload_n 0, 1) := by decide +kernel
theorem dX3_needMovement_6 : decode cX3_needMovement 6 = .ok (.getfield 12, 3) := by decide +kernel
theorem dX3_needMovement_9 : decode cX3_needMovement 9 = .ok (.getfield 89, 3) := by decide +kernel
theorem dX3_needMovement_12 : decode cX3_needMovement 12 = .ok (.getfield 267, 3) := by decide +kernel
theorem dX3_needMovement_15 : decode cX3_needMovement 15 = .ok (.if_icmp .lt 14, 3) := by decide +kernel
theorem dX3_needMovement_18 : decode cX3_needMovement 18 = .ok (.new 324, 3) := by decide +kernel
theorem dX3_needMovement_21 : decode cX3_needMovement 21 = .ok (.dup, 1) := by decide +kernel
theorem dX3_needMovement_22 : decode cX3_needMovement 22 = .ok (.ldc_w 337, 3) := by decide +kernel
theorem dX3_needMovement_25 : decode cX3_needMovement 25 = .ok (.invokespecial 328, 3) := by decide +kernel
theorem dX3_needMovement_28 : decode cX3_needMovement 28 = .ok (.athrow, 1) := by decide +kernel
theorem dX3_needMovement_29 : decode cX3_needMovement 29 = .ok (.return_, 1) := by decide +kernel
theorem dX3_needRefusal_0 : decode cX3_needRefusal 0 = .ok (.aload_n 0, 1) := by decide +kernel
theorem dX3_needRefusal_1 : decode cX3_needRefusal 1 = .ok (.getfield 48, 3) := by decide +kernel
theorem dX3_needRefusal_4 : decode cX3_needRefusal 4 = .ok (.ifCond .ne 14, 3) := by decide +kernel
theorem dX3_needRefusal_7 : decode cX3_needRefusal 7 = .ok (.new 199, 3) := by decide +kernel
theorem dX3_needRefusal_10 : decode cX3_needRefusal 10 = .ok (.dup, 1) := by decide +kernel
theorem dX3_needRefusal_11 : decode cX3_needRefusal 11 = .ok (.ldc_w 339, 3) := by decide +kernel
theorem dX3_needRefusal_14 : decode cX3_needRefusal 14 = .ok (.invokespecial 203, 3) := by decide +kernel
theorem dX3_needRefusal_17 : decode cX3_needRefusal 17 = .ok (.athrow, 1) := by decide +kernel
theorem dX3_needRefusal_18 : decode cX3_needRefusal 18 = .ok (.return_, 1) := by decide +kernel
theorem dX3_needTons_0 : decode cX3_needTons 0 = .ok (.iload_n 0, 1) := by decide +kernel
theorem dX3_needTons_1 : decode cX3_needTons 1 = .ok (.iconst 1, 1) := by decide +kernel
theorem dX3_needTons_2 : decode cX3_needTons 2 = .ok (.sipush 999, 3) := by decide +kernel
theorem dX3_needTons_5 : decode cX3_needTons 5 = .ok (.invokestatic 56, 3) := by decide +kernel
theorem dX3_needTons_8 : decode cX3_needTons 8 = .ok (.ifCond .ne 14, 3) := by decide +kernel
theorem dX3_needTons_11 : decode cX3_needTons 11 = .ok (.new 60, 3) := by decide +kernel
theorem dX3_needTons_14 : decode cX3_needTons 14 = .ok (.dup, 1) := by decide +kernel
theorem dX3_needTons_15 : decode cX3_needTons 15 = .ok (.ldc_w 341, 3) := by decide +kernel
theorem dX3_needTons_18 : decode cX3_needTons 18 = .ok (.invokespecial 64, 3) := by decide +kernel
theorem dX3_needTons_21 : decode cX3_needTons 21 = .ok (.athrow, 1) := by decide +kernel
theorem dX3_needTons_22 : decode cX3_needTons 22 = .ok (.return_, 1) := by decide +kernel
theorem dX3_bargeNumbered_0 : decode cX3_bargeNumbered 0 = .ok (.iload_n 1, 1) := by decide +kernel
theorem dX3_bargeNumbered_1 : decode cX3_bargeNumbered 1 = .ok (.ifCond .lt 11, 3) := by decide +kernel
theorem dX3_bargeNumbered_4 : decode cX3_bargeNumbered 4 = .ok (.iload_n 1, 1) := by decide +kernel
theorem dX3_bargeNumbered_5 : decode cX3_bargeNumbered 5 = .ok (.aload_n 0, 1) := by decide +kernel
theorem dX3_bargeNumbered_6 : decode cX3_bargeNumbered 6 = .ok (.getfield 145, 3) := by decide +kernel
theorem dX3_bargeNumbered_9 : decode cX3_bargeNumbered 9 = .ok (.if_icmp .lt 14, 3) := by decide +kernel
theorem dX3_bargeNumbered_12 : decode cX3_bargeNumbered 12 = .ok (.new 324, 3) := by decide +kernel
theorem dX3_bargeNumbered_15 : decode cX3_bargeNumbered 15 = .ok (.dup, 1) := by decide +kernel
theorem dX3_bargeNumbered_16 : decode cX3_bargeNumbered 16 = .ok (.ldc_w 343, 3) := by decide +kernel
theorem dX3_bargeNumbered_19 : decode cX3_bargeNumbered 19 = .ok (.invokespecial 328, 3) := by decide +kernel
theorem dX3_bargeNumbered_22 : decode cX3_bargeNumbered 22 = .ok (.athrow, 1) := by decide +kernel
theorem dX3_bargeNumbered_23 : decode cX3_bargeNumbered 23 = .ok (.aload_n 0, 1) := by decide +kernel
theorem dX3_bargeNumbered_24 : decode cX3_bargeNumbered 24 = .ok (.getfield 31, 3) := by decide +kernel
theorem dX3_bargeNumbered_27 : decode cX3_bargeNumbered 27 = .ok (.iload_n 1, 1) := by decide +kernel
theorem dX3_bargeNumbered_28 : decode cX3_bargeNumbered 28 = .ok (.aaload, 1) := by decide +kernel
theorem dX3_bargeNumbered_29 : decode cX3_bargeNumbered 29 = .ok (.areturn, 1) := by decide +kernel
theorem dX3_openReach_0 : decode cX3_openReach 0 = .ok (.aload_n 0, 1) := by decide +kernel
theorem dX3_openReach_1 : decode cX3_openReach 1 = .ok (.getfield 12, 3) := by decide +kernel
theorem dX3_openReach_4 : decode cX3_openReach 4 = .ok (.iload_n 1, 1) := by decide +kernel
theorem dX3_openReach_5 : decode cX3_openReach 5 = .ok (.invokevirtual 345, 3) := by decide +kernel
theorem dX3_openReach_8 : decode cX3_openReach 8 = .ok (.istore_n 3, 1) := by decide +kernel
theorem dX3_openReach_9 : decode cX3_openReach 9 = .ok (.aload_n 0, 1) := by decide +kernel
theorem dX3_openReach_10 : decode cX3_openReach 10 = .ok (.getfield 12, 3) := by decide +kernel
theorem dX3_openReach_13 : decode cX3_openReach 13 = .ok (.iconst (-1), 1) := by decide +kernel
theorem dX3_openReach_14 : decode cX3_openReach 14 = .ok (.iload_n 3, 1) := by decide +kernel
theorem dX3_openReach_15 : decode cX3_openReach 15 = .ok (.iload_n 1, 1) := by decide +kernel
theorem dX3_openReach_16 : decode cX3_openReach 16 = .ok (.iload_n 2, 1) := by decide +kernel
theorem dX3_openReach_17 : decode cX3_openReach 17 = .ok (.imul, 1) := by decide +kernel
theorem dX3_openReach_18 : decode cX3_openReach 18 = .ok (.invokevirtual 127, 3) := by decide +kernel
theorem dX3_openReach_21 : decode cX3_openReach 21 = .ok (.aload_n 0, 1) := by decide +kernel
theorem dX3_openReach_22 : decode cX3_openReach 22 = .ok (.getfield 23, 3) := by decide +kernel
theorem dX3_openReach_25 : decode cX3_openReach 25 = .ok (.iload_n 3, 1) := by decide +kernel
theorem dX3_openReach_26 : decode cX3_openReach 26 = .ok (.bipush 100, 2) := by decide +kernel
theorem dX3_openReach_28 : decode cX3_openReach 28 = .ok (.iastore, 1) := by decide +kernel
theorem dX3_openReach_29 : decode cX3_openReach 29 = .ok (.aload_n 0, 1) := by decide +kernel
theorem dX3_openReach_30 : decode cX3_openReach 30 = .ok (.getfield 26, 3) := by decide +kernel
theorem dX3_openReach_33 : decode cX3_openReach 33 = .ok (.iload_n 3, 1) := by decide +kernel
theorem dX3_openReach_34 : decode cX3_openReach 34 = .ok (.iload_n 2, 1) := by decide +kernel
theorem dX3_openReach_35 : decode cX3_openReach 35 = .ok (.iastore, 1) := by decide +kernel
theorem dX3_openReach_36 : decode cX3_openReach 36 = .ok (.iload_n 3, 1) := by decide +kernel
theorem dX3_openReach_37 : decode cX3_openReach 37 = .ok (.ireturn, 1) := by decide +kernel
theorem dX3_changedPrice_0 : decode cX3_changedPrice 0 = .ok (.iload_n 0, 1) := by decide +kernel
theorem dX3_changedPrice_1 : decode cX3_changedPrice 1 = .ok (.bipush 9, 2) := by decide +kernel
theorem dX3_changedPrice_3 : decode cX3_changedPrice 3 = .ok (.iadd, 1) := by decide +kernel
theorem dX3_changedPrice_4 : decode cX3_changedPrice 4 = .ok (.bipush 10, 2) := by decide +kernel
theorem dX3_changedPrice_6 : decode cX3_changedPrice 6 = .ok (.idiv, 1) := by decide +kernel
theorem dX3_changedPrice_7 : decode cX3_changedPrice 7 = .ok (.istore_n 3, 1) := by decide +kernel
theorem dX3_changedPrice_8 : decode cX3_changedPrice 8 = .ok (.iload_n 2, 1) := by decide +kernel
theorem dX3_changedPrice_9 : decode cX3_changedPrice 9 = .ok (.iload_n 1, 1) := by decide +kernel
theorem dX3_changedPrice_10 : decode cX3_changedPrice 10 = .ok (.if_icmp .ge 13, 3) := by decide +kernel
theorem dX3_changedPrice_13 : decode cX3_changedPrice 13 = .ok (.iload_n 0, 1) := by decide +kernel
theorem dX3_changedPrice_14 : decode cX3_changedPrice 14 = .ok (.iload_n 3, 1) := by decide +kernel
theorem dX3_changedPrice_15 : decode cX3_changedPrice 15 = .ok (.iadd, 1) := by decide +kernel
theorem dX3_changedPrice_16 : decode cX3_changedPrice 16 = .ok (.sipush 9999, 3) := by decide +kernel
theorem dX3_changedPrice_19 : decode cX3_changedPrice 19 = .ok (.invokestatic 131, 3) := by decide +kernel
theorem dX3_changedPrice_22 : decode cX3_changedPrice 22 = .ok (.ireturn, 1) := by decide +kernel
theorem dX3_changedPrice_23 : decode cX3_changedPrice 23 = .ok (.iload_n 2, 1) := by decide +kernel
theorem dX3_changedPrice_24 : decode cX3_changedPrice 24 = .ok (.iload_n 1, 1) := by decide +kernel
theorem dX3_changedPrice_25 : decode cX3_changedPrice 25 = .ok (.if_icmp .le 11, 3) := by decide +kernel
theorem dX3_changedPrice_28 : decode cX3_changedPrice 28 = .ok (.iload_n 0, 1) := by decide +kernel
theorem dX3_changedPrice_29 : decode cX3_changedPrice 29 = .ok (.iload_n 3, 1) := by decide +kernel
theorem dX3_changedPrice_30 : decode cX3_changedPrice 30 = .ok (.isub, 1) := by decide +kernel
theorem dX3_changedPrice_31 : decode cX3_changedPrice 31 = .ok (.iconst 1, 1) := by decide +kernel
theorem dX3_changedPrice_32 : decode cX3_changedPrice 32 = .ok (.invokestatic 264, 3) := by decide +kernel
theorem dX3_changedPrice_35 : decode cX3_changedPrice 35 = .ok (.ireturn, 1) := by decide +kernel
theorem dX3_changedPrice_36 : decode cX3_changedPrice 36 = .ok (.iload_n 0, 1) := by decide +kernel
theorem dX3_changedPrice_37 : decode cX3_changedPrice 37 = .ok (.ireturn, 1) := by decide +kernel
theorem dX3_floatsWith_0 : decode cX3_floatsWith 0 = .ok (.aload_n 1, 1) := by decide +kernel
theorem dX3_floatsWith_1 : decode cX3_floatsWith 1 = .ok (.aload_n 1, 1) := by decide +kernel
theorem dX3_floatsWith_2 : decode cX3_floatsWith 2 = .ok (.getfield 162, 3) := by decide +kernel
theorem dX3_floatsWith_5 : decode cX3_floatsWith 5 = .ok (.iload_n 2, 1) := by decide +kernel
theorem dX3_floatsWith_6 : decode cX3_floatsWith 6 = .ok (.iadd, 1) := by decide +kernel
theorem dX3_floatsWith_7 : decode cX3_floatsWith 7 = .ok (.invokevirtual 348, 3) := by decide +kernel
theorem dX3_floatsWith_10 : decode cX3_floatsWith 10 = .ok (.aload_n 0, 1) := by decide +kernel
theorem dX3_floatsWith_11 : decode cX3_floatsWith 11 = .ok (.getfield 12, 3) := by decide +kernel
theorem dX3_floatsWith_14 : decode cX3_floatsWith 14 = .ok (.aload_n 1, 1) := by decide +kernel
theorem dX3_floatsWith_15 : decode cX3_floatsWith 15 = .ok (.getfield 159, 3) := by decide +kernel
theorem dX3_floatsWith_18 : decode cX3_floatsWith 18 = .ok (.invokevirtual 98, 3) := by decide +kernel
theorem dX3_floatsWith_21 : decode cX3_floatsWith 21 = .ok (.if_icmp .ge 7, 3) := by decide +kernel
theorem dX3_floatsWith_24 : decode cX3_floatsWith 24 = .ok (.iconst 1, 1) := by decide +kernel
theorem dX3_floatsWith_25 : decode cX3_floatsWith 25 = .ok (.goto 4, 3) := by decide +kernel
theorem dX3_floatsWith_28 : decode cX3_floatsWith 28 = .ok (.iconst 0, 1) := by decide +kernel
theorem dX3_floatsWith_29 : decode cX3_floatsWith 29 = .ok (.ireturn, 1) := by decide +kernel
theorem dX3_unload_0 : decode cX3_unload 0 = .ok (.aload_n 1, 1) := by decide +kernel
theorem dX3_unload_1 : decode cX3_unload 1 = .ok (.dup, 1) := by decide +kernel
theorem dX3_unload_2 : decode cX3_unload 2 = .ok (.getfield 162, 3) := by decide +kernel
theorem dX3_unload_5 : decode cX3_unload 5 = .ok (.iload_n 2, 1) := by decide +kernel
theorem dX3_unload_6 : decode cX3_unload 6 = .ok (.isub, 1) := by decide +kernel
theorem dX3_unload_7 : decode cX3_unload 7 = .ok (.putfield 162, 3) := by decide +kernel
theorem dX3_unload_10 : decode cX3_unload 10 = .ok (.aload_n 0, 1) := by decide +kernel
theorem dX3_unload_11 : decode cX3_unload 11 = .ok (.dup, 1) := by decide +kernel
theorem dX3_unload_12 : decode cX3_unload 12 = .ok (.getfield 44, 3) := by decide +kernel
theorem dX3_unload_15 : decode cX3_unload 15 = .ok (.iload_n 2, 1) := by decide +kernel
theorem dX3_unload_16 : decode cX3_unload 16 = .ok (.i2l, 1) := by decide +kernel
theorem dX3_unload_17 : decode cX3_unload 17 = .ok (.aload_n 0, 1) := by decide +kernel
theorem dX3_unload_18 : decode cX3_unload 18 = .ok (.getfield 23, 3) := by decide +kernel
theorem dX3_unload_21 : decode cX3_unload 21 = .ok (.aload_n 1, 1) := by decide +kernel
theorem dX3_unload_22 : decode cX3_unload 22 = .ok (.getfield 159, 3) := by decide +kernel
theorem dX3_unload_25 : decode cX3_unload 25 = .ok (.iaload, 1) := by decide +kernel
theorem dX3_unload_26 : decode cX3_unload 26 = .ok (.i2l, 1) := by decide +kernel
theorem dX3_unload_27 : decode cX3_unload 27 = .ok (.lmul, 1) := by decide +kernel
theorem dX3_unload_28 : decode cX3_unload 28 = .ok (.ladd, 1) := by decide +kernel
theorem dX3_unload_29 : decode cX3_unload 29 = .ok (.putfield 44, 3) := by decide +kernel
theorem dX3_unload_32 : decode cX3_unload 32 = .ok (.return_, 1) := by decide +kernel
theorem dX3_appendConvoy_0 : decode cX3_appendConvoy 0 = .ok (.aload_n 0, 1) := by decide +kernel
theorem dX3_appendConvoy_1 : decode cX3_appendConvoy 1 = .ok (.getfield 38, 3) := by decide +kernel
theorem dX3_appendConvoy_4 : decode cX3_appendConvoy 4 = .ok (.aload_n 1, 1) := by decide +kernel
theorem dX3_appendConvoy_5 : decode cX3_appendConvoy 5 = .ok (.getfield 196, 3) := by decide +kernel
theorem dX3_appendConvoy_8 : decode cX3_appendConvoy 8 = .ok (.invokevirtual 303, 3) := by decide +kernel
theorem dX3_appendConvoy_11 : decode cX3_appendConvoy 11 = .ok (.pop, 1) := by decide +kernel
theorem dX3_appendConvoy_12 : decode cX3_appendConvoy 12 = .ok (.aload_n 1, 1) := by decide +kernel
theorem dX3_appendConvoy_13 : decode cX3_appendConvoy 13 = .ok (.getfield 187, 3) := by decide +kernel
theorem dX3_appendConvoy_16 : decode cX3_appendConvoy 16 = .ok (.astore_n 2, 1) := by decide +kernel
theorem dX3_appendConvoy_17 : decode cX3_appendConvoy 17 = .ok (.aload_n 2, 1) := by decide +kernel
theorem dX3_appendConvoy_18 : decode cX3_appendConvoy 18 = .ok (.ifnull 28, 3) := by decide +kernel
theorem dX3_appendConvoy_21 : decode cX3_appendConvoy 21 = .ok (.aload_n 0, 1) := by decide +kernel
theorem dX3_appendConvoy_22 : decode cX3_appendConvoy 22 = .ok (.getfield 38, 3) := by decide +kernel
theorem dX3_appendConvoy_25 : decode cX3_appendConvoy 25 = .ok (.bipush 43, 2) := by decide +kernel
theorem dX3_appendConvoy_27 : decode cX3_appendConvoy 27 = .ok (.invokevirtual 314, 3) := by decide +kernel
theorem dX3_appendConvoy_30 : decode cX3_appendConvoy 30 = .ok (.aload_n 2, 1) := by decide +kernel
theorem dX3_appendConvoy_31 : decode cX3_appendConvoy 31 = .ok (.getfield 196, 3) := by decide +kernel
theorem dX3_appendConvoy_34 : decode cX3_appendConvoy 34 = .ok (.invokevirtual 303, 3) := by decide +kernel
theorem dX3_appendConvoy_37 : decode cX3_appendConvoy 37 = .ok (.pop, 1) := by decide +kernel
theorem dX3_appendConvoy_38 : decode cX3_appendConvoy 38 = .ok (.aload_n 2, 1) := by decide +kernel
theorem dX3_appendConvoy_39 : decode cX3_appendConvoy 39 = .ok (.getfield 187, 3) := by decide +kernel
theorem dX3_appendConvoy_42 : decode cX3_appendConvoy 42 = .ok (.astore_n 2, 1) := by decide +kernel
theorem dX3_appendConvoy_43 : decode cX3_appendConvoy 43 = .ok (.goto (-26), 3) := by decide +kernel
theorem dX3_appendConvoy_46 : decode cX3_appendConvoy 46 = .ok (.return_, 1) := by decide +kernel
theorem dX3_carry_0 : decode cX3_carry 0 = .ok (.aload_n 0, 1) := by decide +kernel
theorem dX3_carry_1 : decode cX3_carry 1 = .ok (.getfield 12, 3) := by decide +kernel
theorem dX3_carry_4 : decode cX3_carry 4 = .ok (.invokevirtual 226, 3) := by decide +kernel
theorem dX3_carry_7 : decode cX3_carry 7 = .ok (.aload_n 0, 1) := by decide +kernel
theorem dX3_carry_8 : decode cX3_carry 8 = .ok (.aload_n 1, 1) := by decide +kernel
theorem dX3_carry_9 : decode cX3_carry 9 = .ok (.iload_n 2, 1) := by decide +kernel
theorem dX3_carry_10 : decode cX3_carry 10 = .ok (.invokevirtual 229, 3) := by decide +kernel
theorem dX3_carry_13 : decode cX3_carry 13 = .ok (.ifCond .ne 37, 3) := by decide +kernel
theorem dX3_carry_16 : decode cX3_carry 16 = .ok (.aload_n 0, 1) := by decide +kernel
theorem dX3_carry_17 : decode cX3_carry 17 = .ok (.getfield 12, 3) := by decide +kernel
theorem dX3_carry_20 : decode cX3_carry 20 = .ok (.invokevirtual 232, 3) := by decide +kernel
theorem dX3_carry_23 : decode cX3_carry 23 = .ok (.aload_n 0, 1) := by decide +kernel
theorem dX3_carry_24 : decode cX3_carry 24 = .ok (.aload_n 0, 1) := by decide +kernel
theorem dX3_carry_25 : decode cX3_carry 25 = .ok (.getfield 351, 3) := by decide +kernel
theorem dX3_carry_28 : decode cX3_carry 28 = .ok (.putfield 48, 3) := by decide +kernel
theorem dX3_carry_31 : decode cX3_carry 31 = .ok (.aload_n 0, 1) := by decide +kernel
theorem dX3_carry_32 : decode cX3_carry 32 = .ok (.aload_n 0, 1) := by decide +kernel
theorem dX3_carry_33 : decode cX3_carry 33 = .ok (.getfield 354, 3) := by decide +kernel
theorem dX3_carry_36 : decode cX3_carry 36 = .ok (.putfield 240, 3) := by decide +kernel
theorem dX3_carry_39 : decode cX3_carry 39 = .ok (.new 114, 3) := by decide +kernel
theorem dX3_carry_42 : decode cX3_carry 42 = .ok (.dup, 1) := by decide +kernel
theorem dX3_carry_43 : decode cX3_carry 43 = .ok (.ldc_w 357, 3) := by decide +kernel
theorem dX3_carry_46 : decode cX3_carry 46 = .ok (.invokespecial 118, 3) := by decide +kernel
theorem dX3_carry_49 : decode cX3_carry 49 = .ok (.athrow, 1) := by decide +kernel
theorem dX3_carry_50 : decode cX3_carry 50 = .ok (.iconst 0, 1) := by decide +kernel
theorem dX3_carry_51 : decode cX3_carry 51 = .ok (.istore_n 3, 1) := by decide +kernel
theorem dX3_carry_52 : decode cX3_carry 52 = .ok (.aload_n 1, 1) := by decide +kernel
theorem dX3_carry_53 : decode cX3_carry 53 = .ok (.getfield 159, 3) := by decide +kernel
theorem dX3_carry_56 : decode cX3_carry 56 = .ok (.iload_n 2, 1) := by decide +kernel
theorem dX3_carry_57 : decode cX3_carry 57 = .ok (.invokestatic 131, 3) := by decide +kernel
theorem dX3_carry_60 : decode cX3_carry 60 = .ok (.istore 4, 2) := by decide +kernel
theorem dX3_carry_62 : decode cX3_carry 62 = .ok (.iload 4, 2) := by decide +kernel
theorem dX3_carry_64 : decode cX3_carry 64 = .ok (.aload_n 1, 1) := by decide +kernel
theorem dX3_carry_65 : decode cX3_carry 65 = .ok (.getfield 159, 3) := by decide +kernel
theorem dX3_carry_68 : decode cX3_carry 68 = .ok (.iload_n 2, 1) := by decide +kernel
theorem dX3_carry_69 : decode cX3_carry 69 = .ok (.invokestatic 264, 3) := by decide +kernel
theorem dX3_carry_72 : decode cX3_carry 72 = .ok (.if_icmp .ge 23, 3) := by decide +kernel
theorem dX3_carry_75 : decode cX3_carry 75 = .ok (.iload_n 3, 1) := by decide +kernel
theorem dX3_carry_76 : decode cX3_carry 76 = .ok (.aload_n 1, 1) := by decide +kernel
theorem dX3_carry_77 : decode cX3_carry 77 = .ok (.aload_n 0, 1) := by decide +kernel
theorem dX3_carry_78 : decode cX3_carry 78 = .ok (.getfield 16, 3) := by decide +kernel
theorem dX3_carry_81 : decode cX3_carry 81 = .ok (.iload 4, 2) := by decide +kernel
theorem dX3_carry_83 : decode cX3_carry 83 = .ok (.iaload, 1) := by decide +kernel
theorem dX3_carry_84 : decode cX3_carry 84 = .ok (.invokevirtual 209, 3) := by decide +kernel
theorem dX3_carry_87 : decode cX3_carry 87 = .ok (.iadd, 1) := by decide +kernel
theorem dX3_carry_88 : decode cX3_carry 88 = .ok (.istore_n 3, 1) := by decide +kernel
theorem dX3_carry_89 : decode cX3_carry 89 = .ok (.iinc 4 1, 3) := by decide +kernel
theorem dX3_carry_92 : decode cX3_carry 92 = .ok (.goto (-30), 3) := by decide +kernel
theorem dX3_carry_95 : decode cX3_carry 95 = .ok (.aload_n 1, 1) := by decide +kernel
theorem dX3_carry_96 : decode cX3_carry 96 = .ok (.astore 4, 2) := by decide +kernel
theorem dX3_carry_98 : decode cX3_carry 98 = .ok (.aload 4, 2) := by decide +kernel
theorem dX3_carry_100 : decode cX3_carry 100 = .ok (.ifnull 19, 3) := by decide +kernel
theorem dX3_carry_103 : decode cX3_carry 103 = .ok (.aload 4, 2) := by decide +kernel
theorem dX3_carry_105 : decode cX3_carry 105 = .ok (.iload_n 2, 1) := by decide +kernel
theorem dX3_carry_106 : decode cX3_carry 106 = .ok (.putfield 159, 3) := by decide +kernel
theorem dX3_carry_109 : decode cX3_carry 109 = .ok (.aload 4, 2) := by decide +kernel
theorem dX3_carry_111 : decode cX3_carry 111 = .ok (.getfield 187, 3) := by decide +kernel
theorem dX3_carry_114 : decode cX3_carry 114 = .ok (.astore 4, 2) := by decide +kernel
theorem dX3_carry_116 : decode cX3_carry 116 = .ok (.goto (-18), 3) := by decide +kernel
theorem dX3_carry_119 : decode cX3_carry 119 = .ok (.iload_n 3, 1) := by decide +kernel
theorem dX3_carry_120 : decode cX3_carry 120 = .ok (.ireturn, 1) := by decide +kernel
theorem dX3_canReach_0 : decode cX3_canReach 0 = .ok (.aload_n 0, 1) := by decide +kernel
theorem dX3_canReach_1 : decode cX3_canReach 1 = .ok (.getfield 12, 3) := by decide +kernel
theorem dX3_canReach_4 : decode cX3_canReach 4 = .ok (.invokevirtual 226, 3) := by decide +kernel
theorem dX3_canReach_7 : decode cX3_canReach 7 = .ok (.aload_n 0, 1) := by decide +kernel
theorem dX3_canReach_8 : decode cX3_canReach 8 = .ok (.aload_n 1, 1) := by decide +kernel
theorem dX3_canReach_9 : decode cX3_canReach 9 = .ok (.iload_n 2, 1) := by decide +kernel
theorem dX3_canReach_10 : decode cX3_canReach 10 = .ok (.invokevirtual 229, 3) := by decide +kernel
theorem dX3_canReach_13 : decode cX3_canReach 13 = .ok (.istore_n 3, 1) := by decide +kernel
theorem dX3_canReach_14 : decode cX3_canReach 14 = .ok (.aload_n 0, 1) := by decide +kernel
theorem dX3_canReach_15 : decode cX3_canReach 15 = .ok (.getfield 12, 3) := by decide +kernel
theorem dX3_canReach_18 : decode cX3_canReach 18 = .ok (.invokevirtual 232, 3) := by decide +kernel
theorem dX3_canReach_21 : decode cX3_canReach 21 = .ok (.iload_n 3, 1) := by decide +kernel
theorem dX3_canReach_22 : decode cX3_canReach 22 = .ok (.ireturn, 1) := by decide +kernel
theorem dX3_tryVoyage_0 : decode cX3_tryVoyage 0 = .ok (.aload_n 1, 1) := by decide +kernel
theorem dX3_tryVoyage_1 : decode cX3_tryVoyage 1 = .ok (.getfield 159, 3) := by decide +kernel
theorem dX3_tryVoyage_4 : decode cX3_tryVoyage 4 = .ok (.istore_n 3, 1) := by decide +kernel
theorem dX3_tryVoyage_5 : decode cX3_tryVoyage 5 = .ok (.iload_n 2, 1) := by decide +kernel
theorem dX3_tryVoyage_6 : decode cX3_tryVoyage 6 = .ok (.iload_n 3, 1) := by decide +kernel
theorem dX3_tryVoyage_7 : decode cX3_tryVoyage 7 = .ok (.if_icmp .le 7, 3) := by decide +kernel
theorem dX3_tryVoyage_10 : decode cX3_tryVoyage 10 = .ok (.iconst 1, 1) := by decide +kernel
theorem dX3_tryVoyage_11 : decode cX3_tryVoyage 11 = .ok (.goto 4, 3) := by decide +kernel
theorem dX3_tryVoyage_14 : decode cX3_tryVoyage 14 = .ok (.iconst 0, 1) := by decide +kernel
theorem dX3_tryVoyage_15 : decode cX3_tryVoyage 15 = .ok (.istore 4, 2) := by decide +kernel
theorem dX3_tryVoyage_17 : decode cX3_tryVoyage 17 = .ok (.iload_n 2, 1) := by decide +kernel
theorem dX3_tryVoyage_18 : decode cX3_tryVoyage 18 = .ok (.iload_n 3, 1) := by decide +kernel
theorem dX3_tryVoyage_19 : decode cX3_tryVoyage 19 = .ok (.isub, 1) := by decide +kernel
theorem dX3_tryVoyage_20 : decode cX3_tryVoyage 20 = .ok (.invokestatic 359, 3) := by decide +kernel
theorem dX3_tryVoyage_23 : decode cX3_tryVoyage 23 = .ok (.istore 5, 2) := by decide +kernel
theorem dX3_tryVoyage_25 : decode cX3_tryVoyage 25 = .ok (.iconst 0, 1) := by decide +kernel
theorem dX3_tryVoyage_26 : decode cX3_tryVoyage 26 = .ok (.istore 6, 2) := by decide +kernel
theorem dX3_tryVoyage_28 : decode cX3_tryVoyage 28 = .ok (.iload 6, 2) := by decide +kernel
theorem dX3_tryVoyage_30 : decode cX3_tryVoyage 30 = .ok (.iload 5, 2) := by decide +kernel
theorem dX3_tryVoyage_32 : decode cX3_tryVoyage 32 = .ok (.if_icmp .ge 59, 3) := by decide +kernel
theorem dX3_tryVoyage_35 : decode cX3_tryVoyage 35 = .ok (.iload 4, 2) := by decide +kernel
theorem dX3_tryVoyage_37 : decode cX3_tryVoyage 37 = .ok (.ifCond .eq 10, 3) := by decide +kernel
theorem dX3_tryVoyage_40 : decode cX3_tryVoyage 40 = .ok (.iload_n 3, 1) := by decide +kernel
theorem dX3_tryVoyage_41 : decode cX3_tryVoyage 41 = .ok (.iload 6, 2) := by decide +kernel
theorem dX3_tryVoyage_43 : decode cX3_tryVoyage 43 = .ok (.iadd, 1) := by decide +kernel
theorem dX3_tryVoyage_44 : decode cX3_tryVoyage 44 = .ok (.goto 9, 3) := by decide +kernel
theorem dX3_tryVoyage_47 : decode cX3_tryVoyage 47 = .ok (.iload_n 3, 1) := by decide +kernel
theorem dX3_tryVoyage_48 : decode cX3_tryVoyage 48 = .ok (.iconst 1, 1) := by decide +kernel
theorem dX3_tryVoyage_49 : decode cX3_tryVoyage 49 = .ok (.isub, 1) := by decide +kernel
theorem dX3_tryVoyage_50 : decode cX3_tryVoyage 50 = .ok (.iload 6, 2) := by decide +kernel
theorem dX3_tryVoyage_52 : decode cX3_tryVoyage 52 = .ok (.isub, 1) := by decide +kernel
theorem dX3_tryVoyage_53 : decode cX3_tryVoyage 53 = .ok (.istore 7, 2) := by decide +kernel
theorem dX3_tryVoyage_55 : decode cX3_tryVoyage 55 = .ok (.aload_n 0, 1) := by decide +kernel
theorem dX3_tryVoyage_56 : decode cX3_tryVoyage 56 = .ok (.aload_n 1, 1) := by decide +kernel
theorem dX3_tryVoyage_57 : decode cX3_tryVoyage 57 = .ok (.iload 7, 2) := by decide +kernel
theorem dX3_tryVoyage_59 : decode cX3_tryVoyage 59 = .ok (.iload 4, 2) := by decide +kernel
theorem dX3_tryVoyage_61 : decode cX3_tryVoyage 61 = .ok (.invokevirtual 362, 3) := by decide +kernel
theorem dX3_tryVoyage_64 : decode cX3_tryVoyage 64 = .ok (.istore 8, 2) := by decide +kernel
theorem dX3_tryVoyage_66 : decode cX3_tryVoyage 66 = .ok (.iload 8, 2) := by decide +kernel
theorem dX3_tryVoyage_68 : decode cX3_tryVoyage 68 = .ok (.ifCond .eq 17, 3) := by decide +kernel
theorem dX3_tryVoyage_71 : decode cX3_tryVoyage 71 = .ok (.aload_n 0, 1) := by decide +kernel
theorem dX3_tryVoyage_72 : decode cX3_tryVoyage 72 = .ok (.iload 8, 2) := by decide +kernel
theorem dX3_tryVoyage_74 : decode cX3_tryVoyage 74 = .ok (.putfield 351, 3) := by decide +kernel
theorem dX3_tryVoyage_77 : decode cX3_tryVoyage 77 = .ok (.aload_n 0, 1) := by decide +kernel
theorem dX3_tryVoyage_78 : decode cX3_tryVoyage 78 = .ok (.iload 7, 2) := by decide +kernel
theorem dX3_tryVoyage_80 : decode cX3_tryVoyage 80 = .ok (.putfield 354, 3) := by decide +kernel
theorem dX3_tryVoyage_83 : decode cX3_tryVoyage 83 = .ok (.iconst 0, 1) := by decide +kernel
theorem dX3_tryVoyage_84 : decode cX3_tryVoyage 84 = .ok (.ireturn, 1) := by decide +kernel
theorem dX3_tryVoyage_85 : decode cX3_tryVoyage 85 = .ok (.iinc 6 1, 3) := by decide +kernel
theorem dX3_tryVoyage_88 : decode cX3_tryVoyage 88 = .ok (.goto (-60), 3) := by decide +kernel
theorem dX3_tryVoyage_91 : decode cX3_tryVoyage 91 = .ok (.iconst 1, 1) := by decide +kernel
theorem dX3_tryVoyage_92 : decode cX3_tryVoyage 92 = .ok (.ireturn, 1) := by decide +kernel
theorem dX3_tryPassage_0 : decode cX3_tryPassage 0 = .ok (.aload_n 0, 1) := by decide +kernel
theorem dX3_tryPassage_1 : decode cX3_tryPassage 1 = .ok (.getfield 16, 3) := by decide +kernel
theorem dX3_tryPassage_4 : decode cX3_tryPassage 4 = .ok (.iload_n 2, 1) := by decide +kernel
theorem dX3_tryPassage_5 : decode cX3_tryPassage 5 = .ok (.iaload, 1) := by decide +kernel
theorem dX3_tryPassage_6 : decode cX3_tryPassage 6 = .ok (.istore 4, 2) := by decide +kernel
theorem dX3_tryPassage_8 : decode cX3_tryPassage 8 = .ok (.aload_n 1, 1) := by decide +kernel
theorem dX3_tryPassage_9 : decode cX3_tryPassage 9 = .ok (.invokevirtual 204, 3) := by decide +kernel
theorem dX3_tryPassage_12 : decode cX3_tryPassage 12 = .ok (.iload 4, 2) := by decide +kernel
theorem dX3_tryPassage_14 : decode cX3_tryPassage 14 = .ok (.if_icmp .le 5, 3) := by decide +kernel
theorem dX3_tryPassage_17 : decode cX3_tryPassage 17 = .ok (.iconst 1, 1) := by decide +kernel
theorem dX3_tryPassage_18 : decode cX3_tryPassage 18 = .ok (.ireturn, 1) := by decide +kernel
theorem dX3_tryPassage_19 : decode cX3_tryPassage 19 = .ok (.aload_n 1, 1) := by decide +kernel
theorem dX3_tryPassage_20 : decode cX3_tryPassage 20 = .ok (.aconst_null, 1) := by decide +kernel
theorem dX3_tryPassage_21 : decode cX3_tryPassage 21 = .ok (.invokevirtual 366, 3) := by decide +kernel
theorem dX3_tryPassage_24 : decode cX3_tryPassage 24 = .ok (.aload_n 0, 1) := by decide +kernel
theorem dX3_tryPassage_25 : decode cX3_tryPassage 25 = .ok (.getfield 20, 3) := by decide +kernel
theorem dX3_tryPassage_28 : decode cX3_tryPassage 28 = .ok (.iload_n 2, 1) := by decide +kernel
theorem dX3_tryPassage_29 : decode cX3_tryPassage 29 = .ok (.iaload, 1) := by decide +kernel
theorem dX3_tryPassage_30 : decode cX3_tryPassage 30 = .ok (.if_icmp .le 5, 3) := by decide +kernel
theorem dX3_tryPassage_33 : decode cX3_tryPassage 33 = .ok (.iconst 2, 1) := by decide +kernel
theorem dX3_tryPassage_34 : decode cX3_tryPassage 34 = .ok (.ireturn, 1) := by decide +kernel
theorem dX3_tryPassage_35 : decode cX3_tryPassage 35 = .ok (.iload_n 3, 1) := by decide +kernel
theorem dX3_tryPassage_36 : decode cX3_tryPassage 36 = .ok (.ifCond .eq 7, 3) := by decide +kernel
theorem dX3_tryPassage_39 : decode cX3_tryPassage 39 = .ok (.iload_n 2, 1) := by decide +kernel
theorem dX3_tryPassage_40 : decode cX3_tryPassage 40 = .ok (.goto 6, 3) := by decide +kernel
theorem dX3_tryPassage_43 : decode cX3_tryPassage 43 = .ok (.iload_n 2, 1) := by decide +kernel
theorem dX3_tryPassage_44 : decode cX3_tryPassage 44 = .ok (.iconst 1, 1) := by decide +kernel
theorem dX3_tryPassage_45 : decode cX3_tryPassage 45 = .ok (.iadd, 1) := by decide +kernel
theorem dX3_tryPassage_46 : decode cX3_tryPassage 46 = .ok (.istore 5, 2) := by decide +kernel
theorem dX3_tryPassage_48 : decode cX3_tryPassage 48 = .ok (.iload_n 3, 1) := by decide +kernel
theorem dX3_tryPassage_49 : decode cX3_tryPassage 49 = .ok (.ifCond .eq 9, 3) := by decide +kernel
theorem dX3_tryPassage_52 : decode cX3_tryPassage 52 = .ok (.iload_n 2, 1) := by decide +kernel
theorem dX3_tryPassage_53 : decode cX3_tryPassage 53 = .ok (.iconst 1, 1) := by decide +kernel
theorem dX3_tryPassage_54 : decode cX3_tryPassage 54 = .ok (.iadd, 1) := by decide +kernel
theorem dX3_tryPassage_55 : decode cX3_tryPassage 55 = .ok (.goto 4, 3) := by decide +kernel
theorem dX3_tryPassage_58 : decode cX3_tryPassage 58 = .ok (.iload_n 2, 1) := by decide +kernel
theorem dX3_tryPassage_59 : decode cX3_tryPassage 59 = .ok (.istore 6, 2) := by decide +kernel
theorem dX3_tryPassage_61 : decode cX3_tryPassage 61 = .ok (.aload_n 1, 1) := by decide +kernel
theorem dX3_tryPassage_62 : decode cX3_tryPassage 62 = .ok (.astore 7, 2) := by decide +kernel
theorem dX3_tryPassage_64 : decode cX3_tryPassage 64 = .ok (.aload 7, 2) := by decide +kernel
theorem dX3_tryPassage_66 : decode cX3_tryPassage 66 = .ok (.ifnull 128, 3) := by decide +kernel
theorem dX3_tryPassage_69 : decode cX3_tryPassage 69 = .ok (.aload 7, 2) := by decide +kernel
theorem dX3_tryPassage_71 : decode cX3_tryPassage 71 = .ok (.aload 7, 2) := by decide +kernel
theorem dX3_tryPassage_73 : decode cX3_tryPassage 73 = .ok (.iload 4, 2) := by decide +kernel
theorem dX3_tryPassage_75 : decode cX3_tryPassage 75 = .ok (.invokevirtual 370, 3) := by decide +kernel
theorem dX3_tryPassage_78 : decode cX3_tryPassage 78 = .ok (.invokevirtual 366, 3) := by decide +kernel
theorem dX3_tryPassage_81 : decode cX3_tryPassage 81 = .ok (.istore 8, 2) := by decide +kernel
theorem dX3_tryPassage_83 : decode cX3_tryPassage 83 = .ok (.iload 8, 2) := by decide +kernel
theorem dX3_tryPassage_85 : decode cX3_tryPassage 85 = .ok (.aload_n 0, 1) := by decide +kernel
theorem dX3_tryPassage_86 : decode cX3_tryPassage 86 = .ok (.getfield 12, 3) := by decide +kernel
theorem dX3_tryPassage_89 : decode cX3_tryPassage 89 = .ok (.iload 5, 2) := by decide +kernel
theorem dX3_tryPassage_91 : decode cX3_tryPassage 91 = .ok (.invokevirtual 98, 3) := by decide +kernel
theorem dX3_tryPassage_94 : decode cX3_tryPassage 94 = .ok (.if_icmp .lt 5, 3) := by decide +kernel
theorem dX3_tryPassage_97 : decode cX3_tryPassage 97 = .ok (.iconst 3, 1) := by decide +kernel
theorem dX3_tryPassage_98 : decode cX3_tryPassage 98 = .ok (.ireturn, 1) := by decide +kernel
theorem dX3_tryPassage_99 : decode cX3_tryPassage 99 = .ok (.iload_n 3, 1) := by decide +kernel
theorem dX3_tryPassage_100 : decode cX3_tryPassage 100 = .ok (.ifCond .ne 22, 3) := by decide +kernel
theorem dX3_tryPassage_103 : decode cX3_tryPassage 103 = .ok (.aload_n 0, 1) := by decide +kernel
theorem dX3_tryPassage_104 : decode cX3_tryPassage 104 = .ok (.getfield 12, 3) := by decide +kernel
theorem dX3_tryPassage_107 : decode cX3_tryPassage 107 = .ok (.iload_n 2, 1) := by decide +kernel
theorem dX3_tryPassage_108 : decode cX3_tryPassage 108 = .ok (.invokevirtual 104, 3) := by decide +kernel
theorem dX3_tryPassage_111 : decode cX3_tryPassage 111 = .ok (.ifCond .eq 11, 3) := by decide +kernel
theorem dX3_tryPassage_114 : decode cX3_tryPassage 114 = .ok (.aload_n 0, 1) := by decide +kernel
theorem dX3_tryPassage_115 : decode cX3_tryPassage 115 = .ok (.getfield 12, 3) := by decide +kernel
theorem dX3_tryPassage_118 : decode cX3_tryPassage 118 = .ok (.iload_n 2, 1) := by decide +kernel
theorem dX3_tryPassage_119 : decode cX3_tryPassage 119 = .ok (.invokevirtual 108, 3) := by decide +kernel
theorem dX3_tryPassage_122 : decode cX3_tryPassage 122 = .ok (.aload_n 0, 1) := by decide +kernel
theorem dX3_tryPassage_123 : decode cX3_tryPassage 123 = .ok (.getfield 12, 3) := by decide +kernel
theorem dX3_tryPassage_126 : decode cX3_tryPassage 126 = .ok (.iload_n 2, 1) := by decide +kernel
theorem dX3_tryPassage_127 : decode cX3_tryPassage 127 = .ok (.invokevirtual 104, 3) := by decide +kernel
theorem dX3_tryPassage_130 : decode cX3_tryPassage 130 = .ok (.ifCond .ne 24, 3) := by decide +kernel
theorem dX3_tryPassage_133 : decode cX3_tryPassage 133 = .ok (.aload_n 0, 1) := by decide +kernel
theorem dX3_tryPassage_134 : decode cX3_tryPassage 134 = .ok (.getfield 12, 3) := by decide +kernel
theorem dX3_tryPassage_137 : decode cX3_tryPassage 137 = .ok (.iload_n 2, 1) := by decide +kernel
theorem dX3_tryPassage_138 : decode cX3_tryPassage 138 = .ok (.invokevirtual 111, 3) := by decide +kernel
theorem dX3_tryPassage_141 : decode cX3_tryPassage 141 = .ok (.ifCond .ne 5, 3) := by decide +kernel
theorem dX3_tryPassage_144 : decode cX3_tryPassage 144 = .ok (.iconst 4, 1) := by decide +kernel
theorem dX3_tryPassage_145 : decode cX3_tryPassage 145 = .ok (.ireturn, 1) := by decide +kernel
theorem dX3_tryPassage_146 : decode cX3_tryPassage 146 = .ok (.aload_n 0, 1) := by decide +kernel
theorem dX3_tryPassage_147 : decode cX3_tryPassage 147 = .ok (.getfield 12, 3) := by decide +kernel
theorem dX3_tryPassage_150 : decode cX3_tryPassage 150 = .ok (.iload_n 2, 1) := by decide +kernel
theorem dX3_tryPassage_151 : decode cX3_tryPassage 151 = .ok (.invokevirtual 119, 3) := by decide +kernel
theorem dX3_tryPassage_154 : decode cX3_tryPassage 154 = .ok (.iload_n 3, 1) := by decide +kernel
theorem dX3_tryPassage_155 : decode cX3_tryPassage 155 = .ok (.ifCond .eq 11, 3) := by decide +kernel
theorem dX3_tryPassage_158 : decode cX3_tryPassage 158 = .ok (.aload_n 0, 1) := by decide +kernel
theorem dX3_tryPassage_159 : decode cX3_tryPassage 159 = .ok (.getfield 12, 3) := by decide +kernel
theorem dX3_tryPassage_162 : decode cX3_tryPassage 162 = .ok (.iload_n 2, 1) := by decide +kernel
theorem dX3_tryPassage_163 : decode cX3_tryPassage 163 = .ok (.invokevirtual 108, 3) := by decide +kernel
theorem dX3_tryPassage_166 : decode cX3_tryPassage 166 = .ok (.iload 8, 2) := by decide +kernel
theorem dX3_tryPassage_168 : decode cX3_tryPassage 168 = .ok (.aload_n 0, 1) := by decide +kernel
theorem dX3_tryPassage_169 : decode cX3_tryPassage 169 = .ok (.getfield 12, 3) := by decide +kernel
theorem dX3_tryPassage_172 : decode cX3_tryPassage 172 = .ok (.iload 6, 2) := by decide +kernel
theorem dX3_tryPassage_174 : decode cX3_tryPassage 174 = .ok (.invokevirtual 98, 3) := by decide +kernel
theorem dX3_tryPassage_177 : decode cX3_tryPassage 177 = .ok (.if_icmp .lt 5, 3) := by decide +kernel
theorem dX3_tryPassage_180 : decode cX3_tryPassage 180 = .ok (.iconst 5, 1) := by decide +kernel
theorem dX3_tryPassage_181 : decode cX3_tryPassage 181 = .ok (.ireturn, 1) := by decide +kernel
theorem dX3_tryPassage_182 : decode cX3_tryPassage 182 = .ok (.aload 7, 2) := by decide +kernel
theorem dX3_tryPassage_184 : decode cX3_tryPassage 184 = .ok (.iload 4, 2) := by decide +kernel
theorem dX3_tryPassage_186 : decode cX3_tryPassage 186 = .ok (.invokevirtual 370, 3) := by decide +kernel
theorem dX3_tryPassage_189 : decode cX3_tryPassage 189 = .ok (.astore 7, 2) := by decide +kernel
theorem dX3_tryPassage_191 : decode cX3_tryPassage 191 = .ok (.goto (-127), 3) := by decide +kernel
theorem dX3_tryPassage_194 : decode cX3_tryPassage 194 = .ok (.iconst 0, 1) := by decide +kernel
theorem dX3_tryPassage_195 : decode cX3_tryPassage 195 = .ok (.ireturn, 1) := by decide +kernel
end
section
theorem dX4_init_0 : decode cX4_init 0 = .ok (.aload_n 0, 1) := by decide +kernel
theorem dX4_init_1 : decode cX4_init 1 = .ok (.invokespecial 1, 3) := by decide +kernel
theorem dX4_init_4 : decode cX4_init 4 = .ok (.aload_n 0, 1) := by decide +kernel
theorem dX4_init_5 : decode cX4_init 5 = .ok (.iconst 1, 1) := by decide +kernel
theorem dX4_init_6 : decode cX4_init 6 = .ok (.putfield 7, 3) := by decide +kernel
theorem dX4_init_9 : decode cX4_init 9 = .ok (.aload_n 0, 1) := by decide +kernel
theorem dX4_init_10 : decode cX4_init 10 = .ok (.bipush 6, 2) := by decide +kernel
theorem dX4_init_12 : decode cX4_init 12 = .ok (.newarray .int, 2) := by decide +kernel
theorem dX4_init_14 : decode cX4_init 14 = .ok (.dup, 1) := by decide +kernel
theorem dX4_init_15 : decode cX4_init 15 = .ok (.iconst 0, 1) := by decide +kernel
theorem dX4_init_16 : decode cX4_init 16 = .ok (.bipush 20, 2) := by decide +kernel
theorem dX4_init_18 : decode cX4_init 18 = .ok (.iastore, 1) := by decide +kernel
theorem dX4_init_19 : decode cX4_init 19 = .ok (.dup, 1) := by decide +kernel
theorem dX4_init_20 : decode cX4_init 20 = .ok (.iconst 1, 1) := by decide +kernel
theorem dX4_init_21 : decode cX4_init 21 = .ok (.iconst 0, 1) := by decide +kernel
theorem dX4_init_22 : decode cX4_init 22 = .ok (.iastore, 1) := by decide +kernel
theorem dX4_init_23 : decode cX4_init 23 = .ok (.dup, 1) := by decide +kernel
theorem dX4_init_24 : decode cX4_init 24 = .ok (.iconst 2, 1) := by decide +kernel
theorem dX4_init_25 : decode cX4_init 25 = .ok (.iconst 0, 1) := by decide +kernel
theorem dX4_init_26 : decode cX4_init 26 = .ok (.iastore, 1) := by decide +kernel
theorem dX4_init_27 : decode cX4_init 27 = .ok (.dup, 1) := by decide +kernel
theorem dX4_init_28 : decode cX4_init 28 = .ok (.iconst 3, 1) := by decide +kernel
theorem dX4_init_29 : decode cX4_init 29 = .ok (.iconst 0, 1) := by decide +kernel
theorem dX4_init_30 : decode cX4_init 30 = .ok (.iastore, 1) := by decide +kernel
theorem dX4_init_31 : decode cX4_init 31 = .ok (.dup, 1) := by decide +kernel
theorem dX4_init_32 : decode cX4_init 32 = .ok (.iconst 4, 1) := by decide +kernel
theorem dX4_init_33 : decode cX4_init 33 = .ok (.iconst 0, 1) := by decide +kernel
theorem dX4_init_34 : decode cX4_init 34 = .ok (.iastore, 1) := by decide +kernel
theorem dX4_init_35 : decode cX4_init 35 = .ok (.dup, 1) := by decide +kernel
theorem dX4_init_36 : decode cX4_init 36 = .ok (.iconst 5, 1) := by decide +kernel
theorem dX4_init_37 : decode cX4_init 37 = .ok (.iconst 0, 1) := by decide +kernel
theorem dX4_init_38 : decode cX4_init 38 = .ok (.iastore, 1) := by decide +kernel
theorem dX4_init_39 : decode cX4_init 39 = .ok (.putfield 13, 3) := by decide +kernel
theorem dX4_init_42 : decode cX4_init 42 = .ok (.aload_n 0, 1) := by decide +kernel
theorem dX4_init_43 : decode cX4_init 43 = .ok (.bipush 6, 2) := by decide +kernel
theorem dX4_init_45 : decode cX4_init 45 = .ok (.newarray .int, 2) := by decide +kernel
theorem dX4_init_47 : decode cX4_init 47 = .ok (.dup, 1) := by decide +kernel
theorem dX4_init_48 : decode cX4_init 48 = .ok (.iconst 0, 1) := by decide +kernel
theorem dX4_init_49 : decode cX4_init 49 = .ok (.sipush 600, 3) := by decide +kernel
theorem dX4_init_52 : decode cX4_init 52 = .ok (.iastore, 1) := by decide +kernel
theorem dX4_init_53 : decode cX4_init 53 = .ok (.dup, 1) := by decide +kernel
theorem dX4_init_54 : decode cX4_init 54 = .ok (.iconst 1, 1) := by decide +kernel
theorem dX4_init_55 : decode cX4_init 55 = .ok (.iconst 0, 1) := by decide +kernel
theorem dX4_init_56 : decode cX4_init 56 = .ok (.iastore, 1) := by decide +kernel
theorem dX4_init_57 : decode cX4_init 57 = .ok (.dup, 1) := by decide +kernel
theorem dX4_init_58 : decode cX4_init 58 = .ok (.iconst 2, 1) := by decide +kernel
theorem dX4_init_59 : decode cX4_init 59 = .ok (.iconst 0, 1) := by decide +kernel
theorem dX4_init_60 : decode cX4_init 60 = .ok (.iastore, 1) := by decide +kernel
theorem dX4_init_61 : decode cX4_init 61 = .ok (.dup, 1) := by decide +kernel
theorem dX4_init_62 : decode cX4_init 62 = .ok (.iconst 3, 1) := by decide +kernel
theorem dX4_init_63 : decode cX4_init 63 = .ok (.iconst 0, 1) := by decide +kernel
theorem dX4_init_64 : decode cX4_init 64 = .ok (.iastore, 1) := by decide +kernel
theorem dX4_init_65 : decode cX4_init 65 = .ok (.dup, 1) := by decide +kernel
theorem dX4_init_66 : decode cX4_init 66 = .ok (.iconst 4, 1) := by decide +kernel
theorem dX4_init_67 : decode cX4_init 67 = .ok (.iconst 0, 1) := by decide +kernel
theorem dX4_init_68 : decode cX4_init 68 = .ok (.iastore, 1) := by decide +kernel
theorem dX4_init_69 : decode cX4_init 69 = .ok (.dup, 1) := by decide +kernel
theorem dX4_init_70 : decode cX4_init 70 = .ok (.iconst 5, 1) := by decide +kernel
theorem dX4_init_71 : decode cX4_init 71 = .ok (.iconst 0, 1) := by decide +kernel
theorem dX4_init_72 : decode cX4_init 72 = .ok (.iastore, 1) := by decide +kernel
theorem dX4_init_73 : decode cX4_init 73 = .ok (.putfield 17, 3) := by decide +kernel
theorem dX4_init_76 : decode cX4_init 76 = .ok (.aload_n 0, 1) := by decide +kernel
theorem dX4_init_77 : decode cX4_init 77 = .ok (.bipush 6, 2) := by decide +kernel
theorem dX4_init_79 : decode cX4_init 79 = .ok (.newarray .int, 2) := by decide +kernel
theorem dX4_init_81 : decode cX4_init 81 = .ok (.dup, 1) := by decide +kernel
theorem dX4_init_82 : decode cX4_init 82 = .ok (.iconst 0, 1) := by decide +kernel
theorem dX4_init_83 : decode cX4_init 83 = .ok (.bipush 30, 2) := by decide +kernel
theorem dX4_init_85 : decode cX4_init 85 = .ok (.iastore, 1) := by decide +kernel
theorem dX4_init_86 : decode cX4_init 86 = .ok (.dup, 1) := by decide +kernel
theorem dX4_init_87 : decode cX4_init 87 = .ok (.iconst 1, 1) := by decide +kernel
theorem dX4_init_88 : decode cX4_init 88 = .ok (.iconst 0, 1) := by decide +kernel
theorem dX4_init_89 : decode cX4_init 89 = .ok (.iastore, 1) := by decide +kernel
theorem dX4_init_90 : decode cX4_init 90 = .ok (.dup, 1) := by decide +kernel
theorem dX4_init_91 : decode cX4_init 91 = .ok (.iconst 2, 1) := by decide +kernel
theorem dX4_init_92 : decode cX4_init 92 = .ok (.iconst 0, 1) := by decide +kernel
theorem dX4_init_93 : decode cX4_init 93 = .ok (.iastore, 1) := by decide +kernel
theorem dX4_init_94 : decode cX4_init 94 = .ok (.dup, 1) := by decide +kernel
theorem dX4_init_95 : decode cX4_init 95 = .ok (.iconst 3, 1) := by decide +kernel
theorem dX4_init_96 : decode cX4_init 96 = .ok (.iconst 0, 1) := by decide +kernel
theorem dX4_init_97 : decode cX4_init 97 = .ok (.iastore, 1) := by decide +kernel
theorem dX4_init_98 : decode cX4_init 98 = .ok (.dup, 1) := by decide +kernel
theorem dX4_init_99 : decode cX4_init 99 = .ok (.iconst 4, 1) := by decide +kernel
theorem dX4_init_100 : decode cX4_init 100 = .ok (.iconst 0, 1) := by decide +kernel
theorem dX4_init_101 : decode cX4_init 101 = .ok (.iastore, 1) := by decide +kernel
theorem dX4_init_102 : decode cX4_init 102 = .ok (.dup, 1) := by decide +kernel
theorem dX4_init_103 : decode cX4_init 103 = .ok (.iconst 5, 1) := by decide +kernel
theorem dX4_init_104 : decode cX4_init 104 = .ok (.iconst 0, 1) := by decide +kernel
theorem dX4_init_105 : decode cX4_init 105 = .ok (.iastore, 1) := by decide +kernel
theorem dX4_init_106 : decode cX4_init 106 = .ok (.putfield 20, 3) := by decide +kernel
theorem dX4_init_109 : decode cX4_init 109 = .ok (.aload_n 0, 1) := by decide +kernel
theorem dX4_init_110 : decode cX4_init 110 = .ok (.bipush 6, 2) := by decide +kernel
theorem dX4_init_112 : decode cX4_init 112 = .ok (.newarray .int, 2) := by decide +kernel
theorem dX4_init_114 : decode cX4_init 114 = .ok (.dup, 1) := by decide +kernel
theorem dX4_init_115 : decode cX4_init 115 = .ok (.iconst 0, 1) := by decide +kernel
theorem dX4_init_116 : decode cX4_init 116 = .ok (.bipush 100, 2) := by decide +kernel
theorem dX4_init_118 : decode cX4_init 118 = .ok (.iastore, 1) := by decide +kernel
theorem dX4_init_119 : decode cX4_init 119 = .ok (.dup, 1) := by decide +kernel
theorem dX4_init_120 : decode cX4_init 120 = .ok (.iconst 1, 1) := by decide +kernel
theorem dX4_init_121 : decode cX4_init 121 = .ok (.iconst 0, 1) := by decide +kernel
theorem dX4_init_122 : decode cX4_init 122 = .ok (.iastore, 1) := by decide +kernel
theorem dX4_init_123 : decode cX4_init 123 = .ok (.dup, 1) := by decide +kernel
theorem dX4_init_124 : decode cX4_init 124 = .ok (.iconst 2, 1) := by decide +kernel
theorem dX4_init_125 : decode cX4_init 125 = .ok (.iconst 0, 1) := by decide +kernel
theorem dX4_init_126 : decode cX4_init 126 = .ok (.iastore, 1) := by decide +kernel
theorem dX4_init_127 : decode cX4_init 127 = .ok (.dup, 1) := by decide +kernel
theorem dX4_init_128 : decode cX4_init 128 = .ok (.iconst 3, 1) := by decide +kernel
theorem dX4_init_129 : decode cX4_init 129 = .ok (.iconst 0, 1) := by decide +kernel
theorem dX4_init_130 : decode cX4_init 130 = .ok (.iastore, 1) := by decide +kernel
theorem dX4_init_131 : decode cX4_init 131 = .ok (.dup, 1) := by decide +kernel
theorem dX4_init_132 : decode cX4_init 132 = .ok (.iconst 4, 1) := by decide +kernel
theorem dX4_init_133 : decode cX4_init 133 = .ok (.iconst 0, 1) := by decide +kernel
theorem dX4_init_134 : decode cX4_init 134 = .ok (.iastore, 1) := by decide +kernel
theorem dX4_init_135 : decode cX4_init 135 = .ok (.dup, 1) := by decide +kernel
theorem dX4_init_136 : decode cX4_init 136 = .ok (.iconst 5, 1) := by decide +kernel
theorem dX4_init_137 : decode cX4_init 137 = .ok (.iconst 0, 1) := by decide +kernel
theorem dX4_init_138 : decode cX4_init 138 = .ok (.iastore, 1) := by decide +kernel
theorem dX4_init_139 : decode cX4_init 139 = .ok (.putfield 23, 3) := by decide +kernel
theorem dX4_init_142 : decode cX4_init 142 = .ok (.aload_n 0, 1) := by decide +kernel
theorem dX4_init_143 : decode cX4_init 143 = .ok (.iconst 5, 1) := by decide +kernel
theorem dX4_init_144 : decode cX4_init 144 = .ok (.newarray .int, 2) := by decide +kernel
theorem dX4_init_146 : decode cX4_init 146 = .ok (.putfield 26, 3) := by decide +kernel
theorem dX4_init_149 : decode cX4_init 149 = .ok (.aload_n 0, 1) := by decide +kernel
theorem dX4_init_150 : decode cX4_init 150 = .ok (.iconst 5, 1) := by decide +kernel
theorem dX4_init_151 : decode cX4_init 151 = .ok (.newarray .int, 2) := by decide +kernel
theorem dX4_init_153 : decode cX4_init 153 = .ok (.putfield 29, 3) := by decide +kernel
theorem dX4_init_156 : decode cX4_init 156 = .ok (.aload_n 0, 1) := by decide +kernel
theorem dX4_init_157 : decode cX4_init 157 = .ok (.iconst 5, 1) := by decide +kernel
theorem dX4_init_158 : decode cX4_init 158 = .ok (.newarray .int, 2) := by decide +kernel
theorem dX4_init_160 : decode cX4_init 160 = .ok (.putfield 32, 3) := by decide +kernel
theorem dX4_init_163 : decode cX4_init 163 = .ok (.aload_n 0, 1) := by decide +kernel
theorem dX4_init_164 : decode cX4_init 164 = .ok (.iconst 5, 1) := by decide +kernel
theorem dX4_init_165 : decode cX4_init 165 = .ok (.newarray .int, 2) := by decide +kernel
theorem dX4_init_167 : decode cX4_init 167 = .ok (.putfield 35, 3) := by decide +kernel
theorem dX4_init_170 : decode cX4_init 170 = .ok (.aload_n 0, 1) := by decide +kernel
theorem dX4_init_171 : decode cX4_init 171 = .ok (.iconst 5, 1) := by decide +kernel
theorem dX4_init_172 : decode cX4_init 172 = .ok (.newarray .boolean, 2) := by decide +kernel
theorem dX4_init_174 : decode cX4_init 174 = .ok (.putfield 38, 3) := by decide +kernel
theorem dX4_init_177 : decode cX4_init 177 = .ok (.aload_n 0, 1) := by decide +kernel
theorem dX4_init_178 : decode cX4_init 178 = .ok (.bipush 8, 2) := by decide +kernel
theorem dX4_init_180 : decode cX4_init 180 = .ok (.newarray .int, 2) := by decide +kernel
theorem dX4_init_182 : decode cX4_init 182 = .ok (.putfield 42, 3) := by decide +kernel
theorem dX4_init_185 : decode cX4_init 185 = .ok (.aload_n 0, 1) := by decide +kernel
theorem dX4_init_186 : decode cX4_init 186 = .ok (.bipush 8, 2) := by decide +kernel
theorem dX4_init_188 : decode cX4_init 188 = .ok (.newarray .int, 2) := by decide +kernel
theorem dX4_init_190 : decode cX4_init 190 = .ok (.putfield 45, 3) := by decide +kernel
theorem dX4_init_193 : decode cX4_init 193 = .ok (.aload_n 0, 1) := by decide +kernel
theorem dX4_init_194 : decode cX4_init 194 = .ok (.bipush 8, 2) := by decide +kernel
theorem dX4_init_196 : decode cX4_init 196 = .ok (.newarray .int, 2) := by decide +kernel
theorem dX4_init_198 : decode cX4_init 198 = .ok (.putfield 48, 3) := by decide +kernel
theorem dX4_init_201 : decode cX4_init 201 = .ok (.aload_n 0, 1) := by decide +kernel
theorem dX4_init_202 : decode cX4_init 202 = .ok (.bipush 8, 2) := by decide +kernel
theorem dX4_init_204 : decode cX4_init 204 = .ok (.newarray .int, 2) := by decide +kernel
theorem dX4_init_206 : decode cX4_init 206 = .ok (.putfield 51, 3) := by decide +kernel
theorem dX4_init_209 : decode cX4_init 209 = .ok (.aload_n 0, 1) := by decide +kernel
theorem dX4_init_210 : decode cX4_init 210 = .ok (.bipush 8, 2) := by decide +kernel
theorem dX4_init_212 : decode cX4_init 212 = .ok (.newarray .int, 2) := by decide +kernel
theorem dX4_init_214 : decode cX4_init 214 = .ok (.putfield 54, 3) := by decide +kernel
theorem dX4_init_217 : decode cX4_init 217 = .ok (.aload_n 0, 1) := by decide +kernel
theorem dX4_init_218 : decode cX4_init 218 = .ok (.bipush 8, 2) := by decide +kernel
theorem dX4_init_220 : decode cX4_init 220 = .ok (.newarray .int, 2) := by decide +kernel
theorem dX4_init_222 : decode cX4_init 222 = .ok (.putfield 57, 3) := by decide +kernel
theorem dX4_init_225 : decode cX4_init 225 = .ok (.aload_n 0, 1) := by decide +kernel
theorem dX4_init_226 : decode cX4_init 226 = .ok (.bipush 8, 2) := by decide +kernel
theorem dX4_init_228 : decode cX4_init 228 = .ok (.newarray .int, 2) := by decide +kernel
theorem dX4_init_230 : decode cX4_init 230 = .ok (.putfield 60, 3) := by decide +kernel
theorem dX4_init_233 : decode cX4_init 233 = .ok (.aload_n 0, 1) := by decide +kernel
theorem dX4_init_234 : decode cX4_init 234 = .ok (.ldc2_w 63, 3) := by decide +kernel
theorem dX4_init_237 : decode cX4_init 237 = .ok (.putfield 65, 3) := by decide +kernel
theorem dX4_init_240 : decode cX4_init 240 = .ok (.aload_n 0, 1) := by decide +kernel
theorem dX4_init_241 : decode cX4_init 241 = .ok (.sipush 600, 3) := by decide +kernel
theorem dX4_init_244 : decode cX4_init 244 = .ok (.putfield 69, 3) := by decide +kernel
theorem dX4_init_247 : decode cX4_init 247 = .ok (.aload_n 0, 1) := by decide +kernel
theorem dX4_init_248 : decode cX4_init 248 = .ok (.iconst 1, 1) := by decide +kernel
theorem dX4_init_249 : decode cX4_init 249 = .ok (.putfield 72, 3) := by decide +kernel
theorem dX4_init_252 : decode cX4_init 252 = .ok (.aload_n 0, 1) := by decide +kernel
theorem dX4_init_253 : decode cX4_init 253 = .ok (.ldc 75, 2) := by decide +kernel
theorem dX4_init_255 : decode cX4_init 255 = .ok (.newarray .int, 2) := by decide +kernel
theorem dX4_init_257 : decode cX4_init 257 = .ok (.putfield 76, 3) := by decide +kernel
theorem dX4_init_260 : decode cX4_init 260 = .ok (.aload_n 0, 1) := by decide +kernel
theorem dX4_init_261 : decode cX4_init 261 = .ok (.ldc 75, 2) := by decide +kernel
theorem dX4_init_263 : decode cX4_init 263 = .ok (.newarray .int, 2) := by decide +kernel
theorem dX4_init_265 : decode cX4_init 265 = .ok (.putfield 79, 3) := by decide +kernel
theorem dX4_init_268 : decode cX4_init 268 = .ok (.aload_n 0, 1) := by decide +kernel
theorem dX4_init_269 : decode cX4_init 269 = .ok (.ldc 75, 2) := by decide +kernel
theorem dX4_init_271 : decode cX4_init 271 = .ok (.newarray .int, 2) := by decide +kernel
theorem dX4_init_273 : decode cX4_init 273 = .ok (.putfield 82, 3) := by decide +kernel
theorem dX4_init_276 : decode cX4_init 276 = .ok (.aload_n 0, 1) := by decide +kernel
theorem dX4_init_277 : decode cX4_init 277 = .ok (.bipush 6, 2) := by decide +kernel
theorem dX4_init_279 : decode cX4_init 279 = .ok (.newarray .int, 2) := by decide +kernel
theorem dX4_init_281 : decode cX4_init 281 = .ok (.putfield 85, 3) := by decide +kernel
theorem dX4_init_284 : decode cX4_init 284 = .ok (.aload_n 0, 1) := by decide +kernel
theorem dX4_init_285 : decode cX4_init 285 = .ok (.iconst 5, 1) := by decide +kernel
theorem dX4_init_286 : decode cX4_init 286 = .ok (.newarray .int, 2) := by decide +kernel
theorem dX4_init_288 : decode cX4_init 288 = .ok (.putfield 88, 3) := by decide +kernel
theorem dX4_init_291 : decode cX4_init 291 = .ok (.aload_n 0, 1) := by decide +kernel
theorem dX4_init_292 : decode cX4_init 292 = .ok (.bipush 8, 2) := by decide +kernel
theorem dX4_init_294 : decode cX4_init 294 = .ok (.newarray .int, 2) := by decide +kernel
theorem dX4_init_296 : decode cX4_init 296 = .ok (.putfield 91, 3) := by decide +kernel
theorem dX4_init_299 : decode cX4_init 299 = .ok (.aload_n 0, 1) := by decide +kernel
theorem dX4_init_300 : decode cX4_init 300 = .ok (.iconst 5, 1) := by decide +kernel
theorem dX4_init_301 : decode cX4_init 301 = .ok (.newarray .boolean, 2) := by decide +kernel
theorem dX4_init_303 : decode cX4_init 303 = .ok (.putfield 94, 3) := by decide +kernel
theorem dX4_init_306 : decode cX4_init 306 = .ok (.aload_n 0, 1) := by decide +kernel
theorem dX4_init_307 : decode cX4_init 307 = .ok (.bipush 40, 2) := by decide +kernel
theorem dX4_init_309 : decode cX4_init 309 = .ok (.newarray .char, 2) := by decide +kernel
theorem dX4_init_311 : decode cX4_init 311 = .ok (.putfield 97, 3) := by decide +kernel
theorem dX4_init_314 : decode cX4_init 314 = .ok (.aload_n 0, 1) := by decide +kernel
theorem dX4_init_315 : decode cX4_init 315 = .ok (.getfield 76, 3) := by decide +kernel
theorem dX4_init_318 : decode cX4_init 318 = .ok (.iconst 0, 1) := by decide +kernel
theorem dX4_init_319 : decode cX4_init 319 = .ok (.iconst (-1), 1) := by decide +kernel
theorem dX4_init_320 : decode cX4_init 320 = .ok (.iastore, 1) := by decide +kernel
theorem dX4_init_321 : decode cX4_init 321 = .ok (.aload_n 0, 1) := by decide +kernel
theorem dX4_init_322 : decode cX4_init 322 = .ok (.getfield 82, 3) := by decide +kernel
theorem dX4_init_325 : decode cX4_init 325 = .ok (.iconst 0, 1) := by decide +kernel
theorem dX4_init_326 : decode cX4_init 326 = .ok (.sipush 600, 3) := by decide +kernel
theorem dX4_init_329 : decode cX4_init 329 = .ok (.iastore, 1) := by decide +kernel
theorem dX4_init_330 : decode cX4_init 330 = .ok (.return_, 1) := by decide +kernel
theorem dX4_thrown_0 : decode cX4_thrown 0 = .ok (.aload_n 0, 1) := by decide +kernel
theorem dX4_thrown_1 : decode cX4_thrown 1 = .ok (.getfield 101, 3) := by decide +kernel
theorem dX4_thrown_4 : decode cX4_thrown 4 = .ok (.ireturn, 1) := by decide +kernel
theorem dX4_in_0 : decode cX4_in 0 = .ok (.iload_n 0, 1) := by decide +kernel
theorem dX4_in_1 : decode cX4_in 1 = .ok (.iload_n 1, 1) := by decide +kernel
theorem dX4_in_2 : decode cX4_in 2 = .ok (.if_icmp .lt 12, 3) := by decide +kernel
theorem dX4_in_5 : decode cX4_in 5 = .ok (.iload_n 0, 1) := by decide +kernel
theorem dX4_in_6 : decode cX4_in 6 = .ok (.iload_n 2, 1) := by decide +kernel
theorem dX4_in_7 : decode cX4_in 7 = .ok (.if_icmp .gt 7, 3) := by decide +kernel
theorem dX4_in_10 : decode cX4_in 10 = .ok (.iconst 1, 1) := by decide +kernel
theorem dX4_in_11 : decode cX4_in 11 = .ok (.goto 4, 3) := by decide +kernel
theorem dX4_in_14 : decode cX4_in 14 = .ok (.iconst 0, 1) := by decide +kernel
theorem dX4_in_15 : decode cX4_in 15 = .ok (.ireturn, 1) := by decide +kernel
theorem dX4_fails_0 : decode cX4_fails 0 = .ok (.aload_n 0, 1) := by decide +kernel
theorem dX4_fails_1 : decode cX4_fails 1 = .ok (.iload_n 1, 1) := by decide +kernel
theorem dX4_fails_2 : decode cX4_fails 2 = .ok (.putfield 101, 3) := by decide +kernel
theorem dX4_fails_5 : decode cX4_fails 5 = .ok (.iconst 0, 1) := by decide +kernel
theorem dX4_fails_6 : decode cX4_fails 6 = .ok (.ireturn, 1) := by decide +kernel
theorem dX4_tells_0 : decode cX4_tells 0 = .ok (.aload_n 0, 1) := by decide +kernel
theorem dX4_tells_1 : decode cX4_tells 1 = .ok (.iconst 0, 1) := by decide +kernel
theorem dX4_tells_2 : decode cX4_tells 2 = .ok (.putfield 101, 3) := by decide +kernel
theorem dX4_tells_5 : decode cX4_tells 5 = .ok (.iload_n 1, 1) := by decide +kernel
theorem dX4_tells_6 : decode cX4_tells 6 = .ok (.ireturn, 1) := by decide +kernel
theorem dX4_isReach_0 : decode cX4_isReach 0 = .ok (.iload_n 1, 1) := by decide +kernel
theorem dX4_isReach_1 : decode cX4_isReach 1 = .ok (.iconst 0, 1) := by decide +kernel
theorem dX4_isReach_2 : decode cX4_isReach 2 = .ok (.aload_n 0, 1) := by decide +kernel
theorem dX4_isReach_3 : decode cX4_isReach 3 = .ok (.getfield 7, 3) := by decide +kernel
theorem dX4_isReach_6 : decode cX4_isReach 6 = .ok (.iconst 1, 1) := by decide +kernel
theorem dX4_isReach_7 : decode cX4_isReach 7 = .ok (.isub, 1) := by decide +kernel
theorem dX4_isReach_8 : decode cX4_isReach 8 = .ok (.invokestatic 104, 3) := by decide +kernel
theorem dX4_isReach_11 : decode cX4_isReach 11 = .ok (.ireturn, 1) := by decide +kernel
theorem dX4_isLock_0 : decode cX4_isLock 0 = .ok (.iload_n 1, 1) := by decide +kernel
theorem dX4_isLock_1 : decode cX4_isLock 1 = .ok (.iconst 0, 1) := by decide +kernel
theorem dX4_isLock_2 : decode cX4_isLock 2 = .ok (.aload_n 0, 1) := by decide +kernel
theorem dX4_isLock_3 : decode cX4_isLock 3 = .ok (.getfield 7, 3) := by decide +kernel
theorem dX4_isLock_6 : decode cX4_isLock 6 = .ok (.iconst 2, 1) := by decide +kernel
theorem dX4_isLock_7 : decode cX4_isLock 7 = .ok (.isub, 1) := by decide +kernel
theorem dX4_isLock_8 : decode cX4_isLock 8 = .ok (.invokestatic 104, 3) := by decide +kernel
theorem dX4_isLock_11 : decode cX4_isLock 11 = .ok (.ireturn, 1) := by decide +kernel
theorem dX4_isBarge_0 : decode cX4_isBarge 0 = .ok (.iload_n 1, 1) := by decide +kernel
theorem dX4_isBarge_1 : decode cX4_isBarge 1 = .ok (.iconst 0, 1) := by decide +kernel
theorem dX4_isBarge_2 : decode cX4_isBarge 2 = .ok (.aload_n 0, 1) := by decide +kernel
theorem dX4_isBarge_3 : decode cX4_isBarge 3 = .ok (.getfield 108, 3) := by decide +kernel
theorem dX4_isBarge_6 : decode cX4_isBarge 6 = .ok (.iconst 1, 1) := by decide +kernel
theorem dX4_isBarge_7 : decode cX4_isBarge 7 = .ok (.isub, 1) := by decide +kernel
theorem dX4_isBarge_8 : decode cX4_isBarge 8 = .ok (.invokestatic 104, 3) := by decide +kernel
theorem dX4_isBarge_11 : decode cX4_isBarge 11 = .ok (.ireturn, 1) := by decide +kernel
theorem dX4_level_0 : decode cX4_level 0 = .ok (.aload_n 0, 1) := by decide +kernel
theorem dX4_level_1 : decode cX4_level 1 = .ok (.getfield 17, 3) := by decide +kernel
theorem dX4_level_4 : decode cX4_level 4 = .ok (.iload_n 1, 1) := by decide +kernel
theorem dX4_level_5 : decode cX4_level 5 = .ok (.iaload, 1) := by decide +kernel
theorem dX4_level_6 : decode cX4_level 6 = .ok (.aload_n 0, 1) := by decide +kernel
theorem dX4_level_7 : decode cX4_level 7 = .ok (.getfield 13, 3) := by decide +kernel
theorem dX4_level_10 : decode cX4_level 10 = .ok (.iload_n 1, 1) := by decide +kernel
theorem dX4_level_11 : decode cX4_level 11 = .ok (.iaload, 1) := by decide +kernel
theorem dX4_level_12 : decode cX4_level 12 = .ok (.idiv, 1) := by decide +kernel
theorem dX4_level_13 : decode cX4_level 13 = .ok (.ireturn, 1) := by decide +kernel
theorem dX4_records_0 : decode cX4_records 0 = .ok (.iload_n 3, 1) := by decide +kernel
theorem dX4_records_1 : decode cX4_records 1 = .ok (.iconst 1, 1) := by decide +kernel
theorem dX4_records_2 : decode cX4_records 2 = .ok (.if_icmp .ge 4, 3) := by decide +kernel
theorem dX4_records_5 : decode cX4_records 5 = .ok (.return_, 1) := by decide +kernel
theorem dX4_records_6 : decode cX4_records 6 = .ok (.aload_n 0, 1) := by decide +kernel
theorem dX4_records_7 : decode cX4_records 7 = .ok (.getfield 76, 3) := by decide +kernel
theorem dX4_records_10 : decode cX4_records 10 = .ok (.aload_n 0, 1) := by decide +kernel
theorem dX4_records_11 : decode cX4_records 11 = .ok (.getfield 72, 3) := by decide +kernel
theorem dX4_records_14 : decode cX4_records 14 = .ok (.iload_n 1, 1) := by decide +kernel
theorem dX4_records_15 : decode cX4_records 15 = .ok (.iastore, 1) := by decide +kernel
theorem dX4_records_16 : decode cX4_records 16 = .ok (.aload_n 0, 1) := by decide +kernel
theorem dX4_records_17 : decode cX4_records 17 = .ok (.getfield 79, 3) := by decide +kernel
theorem dX4_records_20 : decode cX4_records 20 = .ok (.aload_n 0, 1) := by decide +kernel
theorem dX4_records_21 : decode cX4_records 21 = .ok (.getfield 72, 3) := by decide +kernel
theorem dX4_records_24 : decode cX4_records 24 = .ok (.iload_n 2, 1) := by decide +kernel
theorem dX4_records_25 : decode cX4_records 25 = .ok (.iastore, 1) := by decide +kernel
theorem dX4_records_26 : decode cX4_records 26 = .ok (.aload_n 0, 1) := by decide +kernel
theorem dX4_records_27 : decode cX4_records 27 = .ok (.getfield 82, 3) := by decide +kernel
theorem dX4_records_30 : decode cX4_records 30 = .ok (.aload_n 0, 1) := by decide +kernel
theorem dX4_records_31 : decode cX4_records 31 = .ok (.getfield 72, 3) := by decide +kernel
theorem dX4_records_34 : decode cX4_records 34 = .ok (.iload_n 3, 1) := by decide +kernel
theorem dX4_records_35 : decode cX4_records 35 = .ok (.iastore, 1) := by decide +kernel
theorem dX4_records_36 : decode cX4_records 36 = .ok (.aload_n 0, 1) := by decide +kernel
theorem dX4_records_37 : decode cX4_records 37 = .ok (.dup, 1) := by decide +kernel
theorem dX4_records_38 : decode cX4_records 38 = .ok (.getfield 72, 3) := by decide +kernel
theorem dX4_records_41 : decode cX4_records 41 = .ok (.iconst 1, 1) := by decide +kernel
theorem dX4_records_42 : decode cX4_records 42 = .ok (.iadd, 1) := by decide +kernel
theorem dX4_records_43 : decode cX4_records 43 = .ok (.putfield 72, 3) := by decide +kernel
theorem dX4_records_46 : decode cX4_records 46 = .ok (.return_, 1) := by decide +kernel
theorem dX4_comes_0 : decode cX4_comes 0 = .ok (.iload_n 1, 1) := by decide +kernel
theorem dX4_comes_1 : decode cX4_comes 1 = .ok (.istore 4, 2) := by decide +kernel
theorem dX4_comes_3 : decode cX4_comes 3 = .ok (.iload_n 3, 1) := by decide +kernel
theorem dX4_comes_4 : decode cX4_comes 4 = .ok (.istore 5, 2) := by decide +kernel
theorem dX4_comes_6 : decode cX4_comes 6 = .ok (.iload_n 2, 1) := by decide +kernel
theorem dX4_comes_7 : decode cX4_comes 7 = .ok (.istore 6, 2) := by decide +kernel
theorem dX4_comes_9 : decode cX4_comes 9 = .ok (.iload 5, 2) := by decide +kernel
theorem dX4_comes_11 : decode cX4_comes 11 = .ok (.ifCond .le 103, 3) := by decide +kernel
theorem dX4_comes_14 : decode cX4_comes 14 = .ok (.iload 6, 2) := by decide +kernel
theorem dX4_comes_16 : decode cX4_comes 16 = .ok (.aload_n 0, 1) := by decide +kernel
theorem dX4_comes_17 : decode cX4_comes 17 = .ok (.getfield 7, 3) := by decide +kernel
theorem dX4_comes_20 : decode cX4_comes 20 = .ok (.if_icmp .ne 25, 3) := by decide +kernel
theorem dX4_comes_23 : decode cX4_comes 23 = .ok (.aload_n 0, 1) := by decide +kernel
theorem dX4_comes_24 : decode cX4_comes 24 = .ok (.iload 4, 2) := by decide +kernel
theorem dX4_comes_26 : decode cX4_comes 26 = .ok (.bipush (-2), 2) := by decide +kernel
theorem dX4_comes_28 : decode cX4_comes 28 = .ok (.iload 5, 2) := by decide +kernel
theorem dX4_comes_30 : decode cX4_comes 30 = .ok (.invokevirtual 111, 3) := by decide +kernel
theorem dX4_comes_33 : decode cX4_comes 33 = .ok (.aload_n 0, 1) := by decide +kernel
theorem dX4_comes_34 : decode cX4_comes 34 = .ok (.dup, 1) := by decide +kernel
theorem dX4_comes_35 : decode cX4_comes 35 = .ok (.getfield 115, 3) := by decide +kernel
theorem dX4_comes_38 : decode cX4_comes 38 = .ok (.iload 5, 2) := by decide +kernel
theorem dX4_comes_40 : decode cX4_comes 40 = .ok (.iadd, 1) := by decide +kernel
theorem dX4_comes_41 : decode cX4_comes 41 = .ok (.putfield 115, 3) := by decide +kernel
theorem dX4_comes_44 : decode cX4_comes 44 = .ok (.return_, 1) := by decide +kernel
theorem dX4_comes_45 : decode cX4_comes 45 = .ok (.aload_n 0, 1) := by decide +kernel
theorem dX4_comes_46 : decode cX4_comes 46 = .ok (.iload 4, 2) := by decide +kernel
theorem dX4_comes_48 : decode cX4_comes 48 = .ok (.iload 6, 2) := by decide +kernel
theorem dX4_comes_50 : decode cX4_comes 50 = .ok (.iload 5, 2) := by decide +kernel
theorem dX4_comes_52 : decode cX4_comes 52 = .ok (.invokevirtual 111, 3) := by decide +kernel
theorem dX4_comes_55 : decode cX4_comes 55 = .ok (.aload_n 0, 1) := by decide +kernel
theorem dX4_comes_56 : decode cX4_comes 56 = .ok (.getfield 17, 3) := by decide +kernel
theorem dX4_comes_59 : decode cX4_comes 59 = .ok (.iload 6, 2) := by decide +kernel
theorem dX4_comes_61 : decode cX4_comes 61 = .ok (.dup2, 1) := by decide +kernel
theorem dX4_comes_62 : decode cX4_comes 62 = .ok (.iaload, 1) := by decide +kernel
theorem dX4_comes_63 : decode cX4_comes 63 = .ok (.iload 5, 2) := by decide +kernel
theorem dX4_comes_65 : decode cX4_comes 65 = .ok (.iadd, 1) := by decide +kernel
theorem dX4_comes_66 : decode cX4_comes 66 = .ok (.iastore, 1) := by decide +kernel
theorem dX4_comes_67 : decode cX4_comes 67 = .ok (.iload 6, 2) := by decide +kernel
theorem dX4_comes_69 : decode cX4_comes 69 = .ok (.istore 4, 2) := by decide +kernel
theorem dX4_comes_71 : decode cX4_comes 71 = .ok (.aload_n 0, 1) := by decide +kernel
theorem dX4_comes_72 : decode cX4_comes 72 = .ok (.getfield 17, 3) := by decide +kernel
theorem dX4_comes_75 : decode cX4_comes 75 = .ok (.iload 6, 2) := by decide +kernel
theorem dX4_comes_77 : decode cX4_comes 77 = .ok (.iaload, 1) := by decide +kernel
theorem dX4_comes_78 : decode cX4_comes 78 = .ok (.bipush 60, 2) := by decide +kernel
theorem dX4_comes_80 : decode cX4_comes 80 = .ok (.aload_n 0, 1) := by decide +kernel
theorem dX4_comes_81 : decode cX4_comes 81 = .ok (.getfield 13, 3) := by decide +kernel
theorem dX4_comes_84 : decode cX4_comes 84 = .ok (.iload 6, 2) := by decide +kernel
theorem dX4_comes_86 : decode cX4_comes 86 = .ok (.iaload, 1) := by decide +kernel
theorem dX4_comes_87 : decode cX4_comes 87 = .ok (.imul, 1) := by decide +kernel
theorem dX4_comes_88 : decode cX4_comes 88 = .ok (.isub, 1) := by decide +kernel
theorem dX4_comes_89 : decode cX4_comes 89 = .ok (.istore 5, 2) := by decide +kernel
theorem dX4_comes_91 : decode cX4_comes 91 = .ok (.iload 5, 2) := by decide +kernel
theorem dX4_comes_93 : decode cX4_comes 93 = .ok (.ifCond .le 15, 3) := by decide +kernel
theorem dX4_comes_96 : decode cX4_comes 96 = .ok (.aload_n 0, 1) := by decide +kernel
theorem dX4_comes_97 : decode cX4_comes 97 = .ok (.getfield 17, 3) := by decide +kernel
theorem dX4_comes_100 : decode cX4_comes 100 = .ok (.iload 6, 2) := by decide +kernel
theorem dX4_comes_102 : decode cX4_comes 102 = .ok (.dup2, 1) := by decide +kernel
theorem dX4_comes_103 : decode cX4_comes 103 = .ok (.iaload, 1) := by decide +kernel
theorem dX4_comes_104 : decode cX4_comes 104 = .ok (.iload 5, 2) := by decide +kernel
theorem dX4_comes_106 : decode cX4_comes 106 = .ok (.isub, 1) := by decide +kernel
theorem dX4_comes_107 : decode cX4_comes 107 = .ok (.iastore, 1) := by decide +kernel
theorem dX4_comes_108 : decode cX4_comes 108 = .ok (.iinc 6 1, 3) := by decide +kernel
theorem dX4_comes_111 : decode cX4_comes 111 = .ok (.goto (-102), 3) := by decide +kernel
theorem dX4_comes_114 : decode cX4_comes 114 = .ok (.return_, 1) := by decide +kernel
theorem dX4_fills_0 : decode cX4_fills 0 = .ok (.aload_n 0, 1) := by decide +kernel
theorem dX4_fills_1 : decode cX4_fills 1 = .ok (.iload_n 1, 1) := by decide +kernel
theorem dX4_fills_2 : decode cX4_fills 2 = .ok (.bipush 10, 2) := by decide +kernel
theorem dX4_fills_4 : decode cX4_fills 4 = .ok (.iload_n 1, 1) := by decide +kernel
theorem dX4_fills_5 : decode cX4_fills 5 = .ok (.iadd, 1) := by decide +kernel
theorem dX4_fills_6 : decode cX4_fills 6 = .ok (.aload_n 0, 1) := by decide +kernel
theorem dX4_fills_7 : decode cX4_fills 7 = .ok (.getfield 26, 3) := by decide +kernel
theorem dX4_fills_10 : decode cX4_fills 10 = .ok (.iload_n 1, 1) := by decide +kernel
theorem dX4_fills_11 : decode cX4_fills 11 = .ok (.iaload, 1) := by decide +kernel
theorem dX4_fills_12 : decode cX4_fills 12 = .ok (.invokevirtual 111, 3) := by decide +kernel
theorem dX4_fills_15 : decode cX4_fills 15 = .ok (.aload_n 0, 1) := by decide +kernel
theorem dX4_fills_16 : decode cX4_fills 16 = .ok (.getfield 17, 3) := by decide +kernel
theorem dX4_fills_19 : decode cX4_fills 19 = .ok (.iload_n 1, 1) := by decide +kernel
theorem dX4_fills_20 : decode cX4_fills 20 = .ok (.dup2, 1) := by decide +kernel
theorem dX4_fills_21 : decode cX4_fills 21 = .ok (.iaload, 1) := by decide +kernel
theorem dX4_fills_22 : decode cX4_fills 22 = .ok (.aload_n 0, 1) := by decide +kernel
theorem dX4_fills_23 : decode cX4_fills 23 = .ok (.getfield 26, 3) := by decide +kernel
theorem dX4_fills_26 : decode cX4_fills 26 = .ok (.iload_n 1, 1) := by decide +kernel
theorem dX4_fills_27 : decode cX4_fills 27 = .ok (.iaload, 1) := by decide +kernel
theorem dX4_fills_28 : decode cX4_fills 28 = .ok (.isub, 1) := by decide +kernel
theorem dX4_fills_29 : decode cX4_fills 29 = .ok (.iastore, 1) := by decide +kernel
theorem dX4_fills_30 : decode cX4_fills 30 = .ok (.aload_n 0, 1) := by decide +kernel
theorem dX4_fills_31 : decode cX4_fills 31 = .ok (.getfield 38, 3) := by decide +kernel
theorem dX4_fills_34 : decode cX4_fills 34 = .ok (.iload_n 1, 1) := by decide +kernel
theorem dX4_fills_35 : decode cX4_fills 35 = .ok (.iconst 1, 1) := by decide +kernel
theorem dX4_fills_36 : decode cX4_fills 36 = .ok (.bastore, 1) := by decide +kernel
theorem dX4_fills_37 : decode cX4_fills 37 = .ok (.return_, 1) := by decide +kernel
theorem dX4_empties_0 : decode cX4_empties 0 = .ok (.aload_n 0, 1) := by decide +kernel
theorem dX4_empties_1 : decode cX4_empties 1 = .ok (.getfield 38, 3) := by decide +kernel
theorem dX4_empties_4 : decode cX4_empties 4 = .ok (.iload_n 1, 1) := by decide +kernel
theorem dX4_empties_5 : decode cX4_empties 5 = .ok (.iconst 0, 1) := by decide +kernel
theorem dX4_empties_6 : decode cX4_empties 6 = .ok (.bastore, 1) := by decide +kernel
theorem dX4_empties_7 : decode cX4_empties 7 = .ok (.aload_n 0, 1) := by decide +kernel
theorem dX4_empties_8 : decode cX4_empties 8 = .ok (.getfield 35, 3) := by decide +kernel
theorem dX4_empties_11 : decode cX4_empties 11 = .ok (.iload_n 1, 1) := by decide +kernel
theorem dX4_empties_12 : decode cX4_empties 12 = .ok (.dup2, 1) := by decide +kernel
theorem dX4_empties_13 : decode cX4_empties 13 = .ok (.iaload, 1) := by decide +kernel
theorem dX4_empties_14 : decode cX4_empties 14 = .ok (.aload_n 0, 1) := by decide +kernel
theorem dX4_empties_15 : decode cX4_empties 15 = .ok (.getfield 26, 3) := by decide +kernel
theorem dX4_empties_18 : decode cX4_empties 18 = .ok (.iload_n 1, 1) := by decide +kernel
theorem dX4_empties_19 : decode cX4_empties 19 = .ok (.iaload, 1) := by decide +kernel
theorem dX4_empties_20 : decode cX4_empties 20 = .ok (.iadd, 1) := by decide +kernel
theorem dX4_empties_21 : decode cX4_empties 21 = .ok (.iastore, 1) := by decide +kernel
theorem dX4_empties_22 : decode cX4_empties 22 = .ok (.aload_n 0, 1) := by decide +kernel
theorem dX4_empties_23 : decode cX4_empties 23 = .ok (.bipush 10, 2) := by decide +kernel
theorem dX4_empties_25 : decode cX4_empties 25 = .ok (.iload_n 1, 1) := by decide +kernel
theorem dX4_empties_26 : decode cX4_empties 26 = .ok (.iadd, 1) := by decide +kernel
theorem dX4_empties_27 : decode cX4_empties 27 = .ok (.iload_n 1, 1) := by decide +kernel
theorem dX4_empties_28 : decode cX4_empties 28 = .ok (.iconst 1, 1) := by decide +kernel
theorem dX4_empties_29 : decode cX4_empties 29 = .ok (.iadd, 1) := by decide +kernel
theorem dX4_empties_30 : decode cX4_empties 30 = .ok (.aload_n 0, 1) := by decide +kernel
theorem dX4_empties_31 : decode cX4_empties 31 = .ok (.getfield 26, 3) := by decide +kernel
theorem dX4_empties_34 : decode cX4_empties 34 = .ok (.iload_n 1, 1) := by decide +kernel
theorem dX4_empties_35 : decode cX4_empties 35 = .ok (.iaload, 1) := by decide +kernel
theorem dX4_empties_36 : decode cX4_empties 36 = .ok (.invokevirtual 118, 3) := by decide +kernel
theorem dX4_empties_39 : decode cX4_empties 39 = .ok (.return_, 1) := by decide +kernel
theorem dX4_addReach_0 : decode cX4_addReach 0 = .ok (.iload_n 1, 1) := by decide +kernel
theorem dX4_addReach_1 : decode cX4_addReach 1 = .ok (.iconst 1, 1) := by decide +kernel
theorem dX4_addReach_2 : decode cX4_addReach 2 = .ok (.bipush 50, 2) := by decide +kernel
theorem dX4_addReach_4 : decode cX4_addReach 4 = .ok (.invokestatic 104, 3) := by decide +kernel
theorem dX4_addReach_7 : decode cX4_addReach 7 = .ok (.ifCond .eq 48, 3) := by decide +kernel
theorem dX4_addReach_10 : decode cX4_addReach 10 = .ok (.iload_n 2, 1) := by decide +kernel
theorem dX4_addReach_11 : decode cX4_addReach 11 = .ok (.iconst 0, 1) := by decide +kernel
theorem dX4_addReach_12 : decode cX4_addReach 12 = .ok (.bipush 60, 2) := by decide +kernel
theorem dX4_addReach_14 : decode cX4_addReach 14 = .ok (.invokestatic 104, 3) := by decide +kernel
theorem dX4_addReach_17 : decode cX4_addReach 17 = .ok (.ifCond .eq 38, 3) := by decide +kernel
theorem dX4_addReach_20 : decode cX4_addReach 20 = .ok (.iload_n 3, 1) := by decide +kernel
theorem dX4_addReach_21 : decode cX4_addReach 21 = .ok (.iconst 1, 1) := by decide +kernel
theorem dX4_addReach_22 : decode cX4_addReach 22 = .ok (.sipush 200, 3) := by decide +kernel
theorem dX4_addReach_25 : decode cX4_addReach 25 = .ok (.invokestatic 104, 3) := by decide +kernel
theorem dX4_addReach_28 : decode cX4_addReach 28 = .ok (.ifCond .eq 27, 3) := by decide +kernel
theorem dX4_addReach_31 : decode cX4_addReach 31 = .ok (.iload 4, 2) := by decide +kernel
theorem dX4_addReach_33 : decode cX4_addReach 33 = .ok (.bipush 10, 2) := by decide +kernel
theorem dX4_addReach_35 : decode cX4_addReach 35 = .ok (.sipush 200, 3) := by decide +kernel
theorem dX4_addReach_38 : decode cX4_addReach 38 = .ok (.invokestatic 104, 3) := by decide +kernel
theorem dX4_addReach_41 : decode cX4_addReach 41 = .ok (.ifCond .eq 14, 3) := by decide +kernel
theorem dX4_addReach_44 : decode cX4_addReach 44 = .ok (.iload 5, 2) := by decide +kernel
theorem dX4_addReach_46 : decode cX4_addReach 46 = .ok (.iconst 5, 1) := by decide +kernel
theorem dX4_addReach_47 : decode cX4_addReach 47 = .ok (.bipush 60, 2) := by decide +kernel
theorem dX4_addReach_49 : decode cX4_addReach 49 = .ok (.invokestatic 104, 3) := by decide +kernel
theorem dX4_addReach_52 : decode cX4_addReach 52 = .ok (.ifCond .ne 9, 3) := by decide +kernel
theorem dX4_addReach_55 : decode cX4_addReach 55 = .ok (.aload_n 0, 1) := by decide +kernel
theorem dX4_addReach_56 : decode cX4_addReach 56 = .ok (.iconst 1, 1) := by decide +kernel
theorem dX4_addReach_57 : decode cX4_addReach 57 = .ok (.invokevirtual 121, 3) := by decide +kernel
theorem dX4_addReach_60 : decode cX4_addReach 60 = .ok (.ireturn, 1) := by decide +kernel
theorem dX4_addReach_61 : decode cX4_addReach 61 = .ok (.aload_n 0, 1) := by decide +kernel
theorem dX4_addReach_62 : decode cX4_addReach 62 = .ok (.getfield 7, 3) := by decide +kernel
theorem dX4_addReach_65 : decode cX4_addReach 65 = .ok (.bipush 6, 2) := by decide +kernel
theorem dX4_addReach_67 : decode cX4_addReach 67 = .ok (.if_icmp .ne 9, 3) := by decide +kernel
theorem dX4_addReach_70 : decode cX4_addReach 70 = .ok (.aload_n 0, 1) := by decide +kernel
theorem dX4_addReach_71 : decode cX4_addReach 71 = .ok (.iconst 2, 1) := by decide +kernel
theorem dX4_addReach_72 : decode cX4_addReach 72 = .ok (.invokevirtual 121, 3) := by decide +kernel
theorem dX4_addReach_75 : decode cX4_addReach 75 = .ok (.ireturn, 1) := by decide +kernel
theorem dX4_addReach_76 : decode cX4_addReach 76 = .ok (.aload_n 0, 1) := by decide +kernel
theorem dX4_addReach_77 : decode cX4_addReach 77 = .ok (.getfield 7, 3) := by decide +kernel
theorem dX4_addReach_80 : decode cX4_addReach 80 = .ok (.iconst 1, 1) := by decide +kernel
theorem dX4_addReach_81 : decode cX4_addReach 81 = .ok (.isub, 1) := by decide +kernel
theorem dX4_addReach_82 : decode cX4_addReach 82 = .ok (.istore 6, 2) := by decide +kernel
theorem dX4_addReach_84 : decode cX4_addReach 84 = .ok (.aload_n 0, 1) := by decide +kernel
theorem dX4_addReach_85 : decode cX4_addReach 85 = .ok (.getfield 26, 3) := by decide +kernel
theorem dX4_addReach_88 : decode cX4_addReach 88 = .ok (.iload 6, 2) := by decide +kernel
theorem dX4_addReach_90 : decode cX4_addReach 90 = .ok (.iload_n 3, 1) := by decide +kernel
theorem dX4_addReach_91 : decode cX4_addReach 91 = .ok (.iastore, 1) := by decide +kernel
theorem dX4_addReach_92 : decode cX4_addReach 92 = .ok (.aload_n 0, 1) := by decide +kernel
theorem dX4_addReach_93 : decode cX4_addReach 93 = .ok (.getfield 29, 3) := by decide +kernel
theorem dX4_addReach_96 : decode cX4_addReach 96 = .ok (.iload 6, 2) := by decide +kernel
theorem dX4_addReach_98 : decode cX4_addReach 98 = .ok (.iload 4, 2) := by decide +kernel
theorem dX4_addReach_100 : decode cX4_addReach 100 = .ok (.iastore, 1) := by decide +kernel
theorem dX4_addReach_101 : decode cX4_addReach 101 = .ok (.aload_n 0, 1) := by decide +kernel
theorem dX4_addReach_102 : decode cX4_addReach 102 = .ok (.getfield 32, 3) := by decide +kernel
theorem dX4_addReach_105 : decode cX4_addReach 105 = .ok (.iload 6, 2) := by decide +kernel
theorem dX4_addReach_107 : decode cX4_addReach 107 = .ok (.iload 5, 2) := by decide +kernel
theorem dX4_addReach_109 : decode cX4_addReach 109 = .ok (.iastore, 1) := by decide +kernel
theorem dX4_addReach_110 : decode cX4_addReach 110 = .ok (.aload_n 0, 1) := by decide +kernel
theorem dX4_addReach_111 : decode cX4_addReach 111 = .ok (.getfield 13, 3) := by decide +kernel
theorem dX4_addReach_114 : decode cX4_addReach 114 = .ok (.aload_n 0, 1) := by decide +kernel
theorem dX4_addReach_115 : decode cX4_addReach 115 = .ok (.getfield 7, 3) := by decide +kernel
theorem dX4_addReach_118 : decode cX4_addReach 118 = .ok (.iload_n 1, 1) := by decide +kernel
theorem dX4_addReach_119 : decode cX4_addReach 119 = .ok (.iastore, 1) := by decide +kernel
theorem dX4_addReach_120 : decode cX4_addReach 120 = .ok (.aload_n 0, 1) := by decide +kernel
theorem dX4_addReach_121 : decode cX4_addReach 121 = .ok (.getfield 20, 3) := by decide +kernel
theorem dX4_addReach_124 : decode cX4_addReach 124 = .ok (.aload_n 0, 1) := by decide +kernel
theorem dX4_addReach_125 : decode cX4_addReach 125 = .ok (.getfield 7, 3) := by decide +kernel
theorem dX4_addReach_128 : decode cX4_addReach 128 = .ok (.iload_n 2, 1) := by decide +kernel
theorem dX4_addReach_129 : decode cX4_addReach 129 = .ok (.iastore, 1) := by decide +kernel
theorem dX4_addReach_130 : decode cX4_addReach 130 = .ok (.aload_n 0, 1) := by decide +kernel
theorem dX4_addReach_131 : decode cX4_addReach 131 = .ok (.getfield 23, 3) := by decide +kernel
theorem dX4_addReach_134 : decode cX4_addReach 134 = .ok (.aload_n 0, 1) := by decide +kernel
theorem dX4_addReach_135 : decode cX4_addReach 135 = .ok (.getfield 7, 3) := by decide +kernel
theorem dX4_addReach_138 : decode cX4_addReach 138 = .ok (.bipush 100, 2) := by decide +kernel
theorem dX4_addReach_140 : decode cX4_addReach 140 = .ok (.iastore, 1) := by decide +kernel
theorem dX4_addReach_141 : decode cX4_addReach 141 = .ok (.aload_n 0, 1) := by decide +kernel
theorem dX4_addReach_142 : decode cX4_addReach 142 = .ok (.getfield 17, 3) := by decide +kernel
theorem dX4_addReach_145 : decode cX4_addReach 145 = .ok (.aload_n 0, 1) := by decide +kernel
theorem dX4_addReach_146 : decode cX4_addReach 146 = .ok (.getfield 7, 3) := by decide +kernel
theorem dX4_addReach_149 : decode cX4_addReach 149 = .ok (.iload_n 1, 1) := by decide +kernel
theorem dX4_addReach_150 : decode cX4_addReach 150 = .ok (.iload_n 2, 1) := by decide +kernel
theorem dX4_addReach_151 : decode cX4_addReach 151 = .ok (.imul, 1) := by decide +kernel
theorem dX4_addReach_152 : decode cX4_addReach 152 = .ok (.iastore, 1) := by decide +kernel
theorem dX4_addReach_153 : decode cX4_addReach 153 = .ok (.aload_n 0, 1) := by decide +kernel
theorem dX4_addReach_154 : decode cX4_addReach 154 = .ok (.dup, 1) := by decide +kernel
theorem dX4_addReach_155 : decode cX4_addReach 155 = .ok (.getfield 69, 3) := by decide +kernel
theorem dX4_addReach_158 : decode cX4_addReach 158 = .ok (.iload_n 1, 1) := by decide +kernel
theorem dX4_addReach_159 : decode cX4_addReach 159 = .ok (.iload_n 2, 1) := by decide +kernel
theorem dX4_addReach_160 : decode cX4_addReach 160 = .ok (.imul, 1) := by decide +kernel
theorem dX4_addReach_161 : decode cX4_addReach 161 = .ok (.iadd, 1) := by decide +kernel
theorem dX4_addReach_162 : decode cX4_addReach 162 = .ok (.putfield 69, 3) := by decide +kernel
theorem dX4_addReach_165 : decode cX4_addReach 165 = .ok (.aload_n 0, 1) := by decide +kernel
theorem dX4_addReach_166 : decode cX4_addReach 166 = .ok (.iconst (-1), 1) := by decide +kernel
theorem dX4_addReach_167 : decode cX4_addReach 167 = .ok (.aload_n 0, 1) := by decide +kernel
theorem dX4_addReach_168 : decode cX4_addReach 168 = .ok (.getfield 7, 3) := by decide +kernel
theorem dX4_addReach_171 : decode cX4_addReach 171 = .ok (.iload_n 1, 1) := by decide +kernel
theorem dX4_addReach_172 : decode cX4_addReach 172 = .ok (.iload_n 2, 1) := by decide +kernel
theorem dX4_addReach_173 : decode cX4_addReach 173 = .ok (.imul, 1) := by decide +kernel
theorem dX4_addReach_174 : decode cX4_addReach 174 = .ok (.invokevirtual 111, 3) := by decide +kernel
theorem dX4_addReach_177 : decode cX4_addReach 177 = .ok (.aload_n 0, 1) := by decide +kernel
theorem dX4_addReach_178 : decode cX4_addReach 178 = .ok (.dup, 1) := by decide +kernel
theorem dX4_addReach_179 : decode cX4_addReach 179 = .ok (.getfield 7, 3) := by decide +kernel
theorem dX4_addReach_182 : decode cX4_addReach 182 = .ok (.iconst 1, 1) := by decide +kernel
theorem dX4_addReach_183 : decode cX4_addReach 183 = .ok (.iadd, 1) := by decide +kernel
theorem dX4_addReach_184 : decode cX4_addReach 184 = .ok (.putfield 7, 3) := by decide +kernel
theorem dX4_addReach_187 : decode cX4_addReach 187 = .ok (.aload_n 0, 1) := by decide +kernel
theorem dX4_addReach_188 : decode cX4_addReach 188 = .ok (.aload_n 0, 1) := by decide +kernel
theorem dX4_addReach_189 : decode cX4_addReach 189 = .ok (.getfield 7, 3) := by decide +kernel
theorem dX4_addReach_192 : decode cX4_addReach 192 = .ok (.iconst 1, 1) := by decide +kernel
theorem dX4_addReach_193 : decode cX4_addReach 193 = .ok (.isub, 1) := by decide +kernel
theorem dX4_addReach_194 : decode cX4_addReach 194 = .ok (.invokevirtual 125, 3) := by decide +kernel
theorem dX4_addReach_197 : decode cX4_addReach 197 = .ok (.ireturn, 1) := by decide +kernel
theorem dX4_reachCount_0 : decode cX4_reachCount 0 = .ok (.aload_n 0, 1) := by decide +kernel
theorem dX4_reachCount_1 : decode cX4_reachCount 1 = .ok (.aload_n 0, 1) := by decide +kernel
theorem dX4_reachCount_2 : decode cX4_reachCount 2 = .ok (.getfield 7, 3) := by decide +kernel
theorem dX4_reachCount_5 : decode cX4_reachCount 5 = .ok (.invokevirtual 125, 3) := by decide +kernel
theorem dX4_reachCount_8 : decode cX4_reachCount 8 = .ok (.ireturn, 1) := by decide +kernel
theorem dX4_areaOf_0 : decode cX4_areaOf 0 = .ok (.aload_n 0, 1) := by decide +kernel
theorem dX4_areaOf_1 : decode cX4_areaOf 1 = .ok (.iload_n 1, 1) := by decide +kernel
theorem dX4_areaOf_2 : decode cX4_areaOf 2 = .ok (.invokevirtual 128, 3) := by decide +kernel
theorem dX4_areaOf_5 : decode cX4_areaOf 5 = .ok (.ifCond .eq 16, 3) := by decide +kernel
theorem dX4_areaOf_8 : decode cX4_areaOf 8 = .ok (.aload_n 0, 1) := by decide +kernel
theorem dX4_areaOf_9 : decode cX4_areaOf 9 = .ok (.aload_n 0, 1) := by decide +kernel
theorem dX4_areaOf_10 : decode cX4_areaOf 10 = .ok (.getfield 13, 3) := by decide +kernel
theorem dX4_areaOf_13 : decode cX4_areaOf 13 = .ok (.iload_n 1, 1) := by decide +kernel
theorem dX4_areaOf_14 : decode cX4_areaOf 14 = .ok (.iaload, 1) := by decide +kernel
theorem dX4_areaOf_15 : decode cX4_areaOf 15 = .ok (.invokevirtual 125, 3) := by decide +kernel
theorem dX4_areaOf_18 : decode cX4_areaOf 18 = .ok (.goto 8, 3) := by decide +kernel
theorem dX4_areaOf_21 : decode cX4_areaOf 21 = .ok (.aload_n 0, 1) := by decide +kernel
theorem dX4_areaOf_22 : decode cX4_areaOf 22 = .ok (.iconst 1, 1) := by decide +kernel
theorem dX4_areaOf_23 : decode cX4_areaOf 23 = .ok (.invokevirtual 121, 3) := by decide +kernel
theorem dX4_areaOf_26 : decode cX4_areaOf 26 = .ok (.ireturn, 1) := by decide +kernel
theorem dX4_volumeOf_0 : decode cX4_volumeOf 0 = .ok (.aload_n 0, 1) := by decide +kernel
theorem dX4_volumeOf_1 : decode cX4_volumeOf 1 = .ok (.iload_n 1, 1) := by decide +kernel
theorem dX4_volumeOf_2 : decode cX4_volumeOf 2 = .ok (.invokevirtual 128, 3) := by decide +kernel
theorem dX4_volumeOf_5 : decode cX4_volumeOf 5 = .ok (.ifCond .eq 16, 3) := by decide +kernel
theorem dX4_volumeOf_8 : decode cX4_volumeOf 8 = .ok (.aload_n 0, 1) := by decide +kernel
theorem dX4_volumeOf_9 : decode cX4_volumeOf 9 = .ok (.aload_n 0, 1) := by decide +kernel
theorem dX4_volumeOf_10 : decode cX4_volumeOf 10 = .ok (.getfield 17, 3) := by decide +kernel
theorem dX4_volumeOf_13 : decode cX4_volumeOf 13 = .ok (.iload_n 1, 1) := by decide +kernel
theorem dX4_volumeOf_14 : decode cX4_volumeOf 14 = .ok (.iaload, 1) := by decide +kernel
theorem dX4_volumeOf_15 : decode cX4_volumeOf 15 = .ok (.invokevirtual 125, 3) := by decide +kernel
theorem dX4_volumeOf_18 : decode cX4_volumeOf 18 = .ok (.goto 8, 3) := by decide +kernel
theorem dX4_volumeOf_21 : decode cX4_volumeOf 21 = .ok (.aload_n 0, 1) := by decide +kernel
theorem dX4_volumeOf_22 : decode cX4_volumeOf 22 = .ok (.iconst 1, 1) := by decide +kernel
theorem dX4_volumeOf_23 : decode cX4_volumeOf 23 = .ok (.invokevirtual 121, 3) := by decide +kernel
theorem dX4_volumeOf_26 : decode cX4_volumeOf 26 = .ok (.ireturn, 1) := by decide +kernel
theorem dX4_bySteps_0 : decode cX4_bySteps 0 = .ok (.iconst 0, 1) := by decide +kernel
theorem dX4_bySteps_1 : decode cX4_bySteps 1 = .ok (.istore_n 2, 1) := by decide +kernel
theorem dX4_bySteps_2 : decode cX4_bySteps 2 = .ok (.iconst 0, 1) := by decide +kernel
theorem dX4_bySteps_3 : decode cX4_bySteps 3 = .ok (.istore_n 3, 1) := by decide +kernel
theorem dX4_bySteps_4 : decode cX4_bySteps 4 = .ok (.iload_n 3, 1) := by decide +kernel
theorem dX4_bySteps_5 : decode cX4_bySteps 5 = .ok (.aload_n 0, 1) := by decide +kernel
theorem dX4_bySteps_6 : decode cX4_bySteps 6 = .ok (.getfield 72, 3) := by decide +kernel
theorem dX4_bySteps_9 : decode cX4_bySteps 9 = .ok (.if_icmp .ge 55, 3) := by decide +kernel
theorem dX4_bySteps_12 : decode cX4_bySteps 12 = .ok (.iload_n 2, 1) := by decide +kernel
theorem dX4_bySteps_13 : decode cX4_bySteps 13 = .ok (.aload_n 0, 1) := by decide +kernel
theorem dX4_bySteps_14 : decode cX4_bySteps 14 = .ok (.getfield 79, 3) := by decide +kernel
theorem dX4_bySteps_17 : decode cX4_bySteps 17 = .ok (.iload_n 3, 1) := by decide +kernel
theorem dX4_bySteps_18 : decode cX4_bySteps 18 = .ok (.iaload, 1) := by decide +kernel
theorem dX4_bySteps_19 : decode cX4_bySteps 19 = .ok (.iload_n 1, 1) := by decide +kernel
theorem dX4_bySteps_20 : decode cX4_bySteps 20 = .ok (.if_icmp .ne 12, 3) := by decide +kernel
theorem dX4_bySteps_23 : decode cX4_bySteps 23 = .ok (.aload_n 0, 1) := by decide +kernel
theorem dX4_bySteps_24 : decode cX4_bySteps 24 = .ok (.getfield 82, 3) := by decide +kernel
theorem dX4_bySteps_27 : decode cX4_bySteps 27 = .ok (.iload_n 3, 1) := by decide +kernel
theorem dX4_bySteps_28 : decode cX4_bySteps 28 = .ok (.iaload, 1) := by decide +kernel
theorem dX4_bySteps_29 : decode cX4_bySteps 29 = .ok (.goto 4, 3) := by decide +kernel
theorem dX4_bySteps_32 : decode cX4_bySteps 32 = .ok (.iconst 0, 1) := by decide +kernel
theorem dX4_bySteps_33 : decode cX4_bySteps 33 = .ok (.iadd, 1) := by decide +kernel
theorem dX4_bySteps_34 : decode cX4_bySteps 34 = .ok (.istore_n 2, 1) := by decide +kernel
theorem dX4_bySteps_35 : decode cX4_bySteps 35 = .ok (.iload_n 2, 1) := by decide +kernel
theorem dX4_bySteps_36 : decode cX4_bySteps 36 = .ok (.aload_n 0, 1) := by decide +kernel
theorem dX4_bySteps_37 : decode cX4_bySteps 37 = .ok (.getfield 76, 3) := by decide +kernel
theorem dX4_bySteps_40 : decode cX4_bySteps 40 = .ok (.iload_n 3, 1) := by decide +kernel
theorem dX4_bySteps_41 : decode cX4_bySteps 41 = .ok (.iaload, 1) := by decide +kernel
theorem dX4_bySteps_42 : decode cX4_bySteps 42 = .ok (.iload_n 1, 1) := by decide +kernel
theorem dX4_bySteps_43 : decode cX4_bySteps 43 = .ok (.if_icmp .ne 12, 3) := by decide +kernel
theorem dX4_bySteps_46 : decode cX4_bySteps 46 = .ok (.aload_n 0, 1) := by decide +kernel
theorem dX4_bySteps_47 : decode cX4_bySteps 47 = .ok (.getfield 82, 3) := by decide +kernel
theorem dX4_bySteps_50 : decode cX4_bySteps 50 = .ok (.iload_n 3, 1) := by decide +kernel
theorem dX4_bySteps_51 : decode cX4_bySteps 51 = .ok (.iaload, 1) := by decide +kernel
theorem dX4_bySteps_52 : decode cX4_bySteps 52 = .ok (.goto 4, 3) := by decide +kernel
theorem dX4_bySteps_55 : decode cX4_bySteps 55 = .ok (.iconst 0, 1) := by decide +kernel
theorem dX4_bySteps_56 : decode cX4_bySteps 56 = .ok (.isub, 1) := by decide +kernel
theorem dX4_bySteps_57 : decode cX4_bySteps 57 = .ok (.istore_n 2, 1) := by decide +kernel
theorem dX4_bySteps_58 : decode cX4_bySteps 58 = .ok (.iinc 3 1, 3) := by decide +kernel
theorem dX4_bySteps_61 : decode cX4_bySteps 61 = .ok (.goto (-57), 3) := by decide +kernel
theorem dX4_bySteps_64 : decode cX4_bySteps 64 = .ok (.iload_n 2, 1) := by decide +kernel
theorem dX4_bySteps_65 : decode cX4_bySteps 65 = .ok (.ireturn, 1) := by decide +kernel
theorem dX4_volumeBySteps_0 : decode cX4_volumeBySteps 0 = .ok (.aload_n 0, 1) := by decide +kernel
theorem dX4_volumeBySteps_1 : decode cX4_volumeBySteps 1 = .ok (.iload_n 1, 1) := by decide +kernel
theorem dX4_volumeBySteps_2 : decode cX4_volumeBySteps 2 = .ok (.invokevirtual 128, 3) := by decide +kernel
theorem dX4_volumeBySteps_5 : decode cX4_volumeBySteps 5 = .ok (.ifCond .eq 15, 3) := by decide +kernel
theorem dX4_volumeBySteps_8 : decode cX4_volumeBySteps 8 = .ok (.aload_n 0, 1) := by decide +kernel
theorem dX4_volumeBySteps_9 : decode cX4_volumeBySteps 9 = .ok (.aload_n 0, 1) := by decide +kernel
theorem dX4_volumeBySteps_10 : decode cX4_volumeBySteps 10 = .ok (.iload_n 1, 1) := by decide +kernel
theorem dX4_volumeBySteps_11 : decode cX4_volumeBySteps 11 = .ok (.invokevirtual 132, 3) := by decide +kernel
theorem dX4_volumeBySteps_14 : decode cX4_volumeBySteps 14 = .ok (.invokevirtual 125, 3) := by decide +kernel
theorem dX4_volumeBySteps_17 : decode cX4_volumeBySteps 17 = .ok (.goto 8, 3) := by decide +kernel
theorem dX4_volumeBySteps_20 : decode cX4_volumeBySteps 20 = .ok (.aload_n 0, 1) := by decide +kernel
theorem dX4_volumeBySteps_21 : decode cX4_volumeBySteps 21 = .ok (.iconst 1, 1) := by decide +kernel
theorem dX4_volumeBySteps_22 : decode cX4_volumeBySteps 22 = .ok (.invokevirtual 121, 3) := by decide +kernel
theorem dX4_volumeBySteps_25 : decode cX4_volumeBySteps 25 = .ok (.ireturn, 1) := by decide +kernel
theorem dX4_levelOf_0 : decode cX4_levelOf 0 = .ok (.aload_n 0, 1) := by decide +kernel
theorem dX4_levelOf_1 : decode cX4_levelOf 1 = .ok (.iload_n 1, 1) := by decide +kernel
theorem dX4_levelOf_2 : decode cX4_levelOf 2 = .ok (.invokevirtual 128, 3) := by decide +kernel
theorem dX4_levelOf_5 : decode cX4_levelOf 5 = .ok (.ifCond .eq 15, 3) := by decide +kernel
theorem dX4_levelOf_8 : decode cX4_levelOf 8 = .ok (.aload_n 0, 1) := by decide +kernel
theorem dX4_levelOf_9 : decode cX4_levelOf 9 = .ok (.aload_n 0, 1) := by decide +kernel
theorem dX4_levelOf_10 : decode cX4_levelOf 10 = .ok (.iload_n 1, 1) := by decide +kernel
theorem dX4_levelOf_11 : decode cX4_levelOf 11 = .ok (.invokevirtual 135, 3) := by decide +kernel
theorem dX4_levelOf_14 : decode cX4_levelOf 14 = .ok (.invokevirtual 125, 3) := by decide +kernel
theorem dX4_levelOf_17 : decode cX4_levelOf 17 = .ok (.goto 8, 3) := by decide +kernel
theorem dX4_levelOf_20 : decode cX4_levelOf 20 = .ok (.aload_n 0, 1) := by decide +kernel
theorem dX4_levelOf_21 : decode cX4_levelOf 21 = .ok (.iconst 1, 1) := by decide +kernel
theorem dX4_levelOf_22 : decode cX4_levelOf 22 = .ok (.invokevirtual 121, 3) := by decide +kernel
theorem dX4_levelOf_25 : decode cX4_levelOf 25 = .ok (.ireturn, 1) := by decide +kernel
theorem dX4_lockfulOf_0 : decode cX4_lockfulOf 0 = .ok (.aload_n 0, 1) := by decide +kernel
theorem dX4_lockfulOf_1 : decode cX4_lockfulOf 1 = .ok (.iload_n 1, 1) := by decide +kernel
theorem dX4_lockfulOf_2 : decode cX4_lockfulOf 2 = .ok (.invokevirtual 138, 3) := by decide +kernel
theorem dX4_lockfulOf_5 : decode cX4_lockfulOf 5 = .ok (.ifCond .eq 16, 3) := by decide +kernel
theorem dX4_lockfulOf_8 : decode cX4_lockfulOf 8 = .ok (.aload_n 0, 1) := by decide +kernel
theorem dX4_lockfulOf_9 : decode cX4_lockfulOf 9 = .ok (.aload_n 0, 1) := by decide +kernel
theorem dX4_lockfulOf_10 : decode cX4_lockfulOf 10 = .ok (.getfield 26, 3) := by decide +kernel
theorem dX4_lockfulOf_13 : decode cX4_lockfulOf 13 = .ok (.iload_n 1, 1) := by decide +kernel
theorem dX4_lockfulOf_14 : decode cX4_lockfulOf 14 = .ok (.iaload, 1) := by decide +kernel
theorem dX4_lockfulOf_15 : decode cX4_lockfulOf 15 = .ok (.invokevirtual 125, 3) := by decide +kernel
theorem dX4_lockfulOf_18 : decode cX4_lockfulOf 18 = .ok (.goto 8, 3) := by decide +kernel
theorem dX4_lockfulOf_21 : decode cX4_lockfulOf 21 = .ok (.aload_n 0, 1) := by decide +kernel
theorem dX4_lockfulOf_22 : decode cX4_lockfulOf 22 = .ok (.iconst 1, 1) := by decide +kernel
theorem dX4_lockfulOf_23 : decode cX4_lockfulOf 23 = .ok (.invokevirtual 121, 3) := by decide +kernel
theorem dX4_lockfulOf_26 : decode cX4_lockfulOf 26 = .ok (.ireturn, 1) := by decide +kernel
theorem dX4_lengthOf_0 : decode cX4_lengthOf 0 = .ok (.aload_n 0, 1) := by decide +kernel
theorem dX4_lengthOf_1 : decode cX4_lengthOf 1 = .ok (.iload_n 1, 1) := by decide +kernel
theorem dX4_lengthOf_2 : decode cX4_lengthOf 2 = .ok (.invokevirtual 138, 3) := by decide +kernel
theorem dX4_lengthOf_5 : decode cX4_lengthOf 5 = .ok (.ifCond .eq 16, 3) := by decide +kernel
theorem dX4_lengthOf_8 : decode cX4_lengthOf 8 = .ok (.aload_n 0, 1) := by decide +kernel
theorem dX4_lengthOf_9 : decode cX4_lengthOf 9 = .ok (.aload_n 0, 1) := by decide +kernel
theorem dX4_lengthOf_10 : decode cX4_lengthOf 10 = .ok (.getfield 29, 3) := by decide +kernel
theorem dX4_lengthOf_13 : decode cX4_lengthOf 13 = .ok (.iload_n 1, 1) := by decide +kernel
theorem dX4_lengthOf_14 : decode cX4_lengthOf 14 = .ok (.iaload, 1) := by decide +kernel
theorem dX4_lengthOf_15 : decode cX4_lengthOf 15 = .ok (.invokevirtual 125, 3) := by decide +kernel
theorem dX4_lengthOf_18 : decode cX4_lengthOf 18 = .ok (.goto 8, 3) := by decide +kernel
theorem dX4_lengthOf_21 : decode cX4_lengthOf 21 = .ok (.aload_n 0, 1) := by decide +kernel
theorem dX4_lengthOf_22 : decode cX4_lengthOf 22 = .ok (.iconst 1, 1) := by decide +kernel
theorem dX4_lengthOf_23 : decode cX4_lengthOf 23 = .ok (.invokevirtual 121, 3) := by decide +kernel
theorem dX4_lengthOf_26 : decode cX4_lengthOf 26 = .ok (.ireturn, 1) := by decide +kernel
theorem dX4_sillOf_0 : decode cX4_sillOf 0 = .ok (.aload_n 0, 1) := by decide +kernel
theorem dX4_sillOf_1 : decode cX4_sillOf 1 = .ok (.iload_n 1, 1) := by decide +kernel
theorem dX4_sillOf_2 : decode cX4_sillOf 2 = .ok (.invokevirtual 138, 3) := by decide +kernel
theorem dX4_sillOf_5 : decode cX4_sillOf 5 = .ok (.ifCond .eq 16, 3) := by decide +kernel
theorem dX4_sillOf_8 : decode cX4_sillOf 8 = .ok (.aload_n 0, 1) := by decide +kernel
theorem dX4_sillOf_9 : decode cX4_sillOf 9 = .ok (.aload_n 0, 1) := by decide +kernel
theorem dX4_sillOf_10 : decode cX4_sillOf 10 = .ok (.getfield 32, 3) := by decide +kernel
theorem dX4_sillOf_13 : decode cX4_sillOf 13 = .ok (.iload_n 1, 1) := by decide +kernel
theorem dX4_sillOf_14 : decode cX4_sillOf 14 = .ok (.iaload, 1) := by decide +kernel
theorem dX4_sillOf_15 : decode cX4_sillOf 15 = .ok (.invokevirtual 125, 3) := by decide +kernel
theorem dX4_sillOf_18 : decode cX4_sillOf 18 = .ok (.goto 8, 3) := by decide +kernel
theorem dX4_sillOf_21 : decode cX4_sillOf 21 = .ok (.aload_n 0, 1) := by decide +kernel
theorem dX4_sillOf_22 : decode cX4_sillOf 22 = .ok (.iconst 1, 1) := by decide +kernel
theorem dX4_sillOf_23 : decode cX4_sillOf 23 = .ok (.invokevirtual 121, 3) := by decide +kernel
theorem dX4_sillOf_26 : decode cX4_sillOf 26 = .ok (.ireturn, 1) := by decide +kernel
theorem dX4_asks_0 : decode cX4_asks 0 = .ok (.aload_n 0, 1) := by decide +kernel
theorem dX4_asks_1 : decode cX4_asks 1 = .ok (.iload_n 1, 1) := by decide +kernel
theorem dX4_asks_2 : decode cX4_asks 2 = .ok (.putfield 101, 3) := by decide +kernel
theorem dX4_asks_5 : decode cX4_asks 5 = .ok (.iload_n 1, 1) := by decide +kernel
theorem dX4_asks_6 : decode cX4_asks 6 = .ok (.ifCond .ne 11, 3) := by decide +kernel
theorem dX4_asks_9 : decode cX4_asks 9 = .ok (.iload_n 2, 1) := by decide +kernel
theorem dX4_asks_10 : decode cX4_asks 10 = .ok (.ifCond .eq 7, 3) := by decide +kernel
theorem dX4_asks_13 : decode cX4_asks 13 = .ok (.iconst 1, 1) := by decide +kernel
theorem dX4_asks_14 : decode cX4_asks 14 = .ok (.goto 4, 3) := by decide +kernel
theorem dX4_asks_17 : decode cX4_asks 17 = .ok (.iconst 0, 1) := by decide +kernel
theorem dX4_asks_18 : decode cX4_asks 18 = .ok (.ireturn, 1) := by decide +kernel
theorem dX4_isFull_0 : decode cX4_isFull 0 = .ok (.aload_n 0, 1) := by decide +kernel
theorem dX4_isFull_1 : decode cX4_isFull 1 = .ok (.aload_n 0, 1) := by decide +kernel
theorem dX4_isFull_2 : decode cX4_isFull 2 = .ok (.iload_n 1, 1) := by decide +kernel
theorem dX4_isFull_3 : decode cX4_isFull 3 = .ok (.invokevirtual 138, 3) := by decide +kernel
theorem dX4_isFull_6 : decode cX4_isFull 6 = .ok (.ifCond .eq 7, 3) := by decide +kernel
theorem dX4_isFull_9 : decode cX4_isFull 9 = .ok (.iconst 0, 1) := by decide +kernel
theorem dX4_isFull_10 : decode cX4_isFull 10 = .ok (.goto 4, 3) := by decide +kernel
theorem dX4_isFull_13 : decode cX4_isFull 13 = .ok (.iconst 1, 1) := by decide +kernel
theorem dX4_isFull_14 : decode cX4_isFull 14 = .ok (.aload_n 0, 1) := by decide +kernel
theorem dX4_isFull_15 : decode cX4_isFull 15 = .ok (.iload_n 1, 1) := by decide +kernel
theorem dX4_isFull_16 : decode cX4_isFull 16 = .ok (.invokevirtual 138, 3) := by decide +kernel
theorem dX4_isFull_19 : decode cX4_isFull 19 = .ok (.ifCond .eq 16, 3) := by decide +kernel
theorem dX4_isFull_22 : decode cX4_isFull 22 = .ok (.aload_n 0, 1) := by decide +kernel
theorem dX4_isFull_23 : decode cX4_isFull 23 = .ok (.getfield 38, 3) := by decide +kernel
theorem dX4_isFull_26 : decode cX4_isFull 26 = .ok (.iload_n 1, 1) := by decide +kernel
theorem dX4_isFull_27 : decode cX4_isFull 27 = .ok (.baload, 1) := by decide +kernel
theorem dX4_isFull_28 : decode cX4_isFull 28 = .ok (.ifCond .eq 7, 3) := by decide +kernel
theorem dX4_isFull_31 : decode cX4_isFull 31 = .ok (.iconst 1, 1) := by decide +kernel
theorem dX4_isFull_32 : decode cX4_isFull 32 = .ok (.goto 4, 3) := by decide +kernel
theorem dX4_isFull_35 : decode cX4_isFull 35 = .ok (.iconst 0, 1) := by decide +kernel
theorem dX4_isFull_36 : decode cX4_isFull 36 = .ok (.invokevirtual 141, 3) := by decide +kernel
theorem dX4_isFull_39 : decode cX4_isFull 39 = .ok (.ireturn, 1) := by decide +kernel
theorem dX4_turn_0 : decode cX4_turn 0 = .ok (.aload_n 0, 1) := by decide +kernel
theorem dX4_turn_1 : decode cX4_turn 1 = .ok (.iload_n 1, 1) := by decide +kernel
theorem dX4_turn_2 : decode cX4_turn 2 = .ok (.invokevirtual 138, 3) := by decide +kernel
theorem dX4_turn_5 : decode cX4_turn 5 = .ok (.ifCond .ne 10, 3) := by decide +kernel
theorem dX4_turn_8 : decode cX4_turn 8 = .ok (.aload_n 0, 1) := by decide +kernel
theorem dX4_turn_9 : decode cX4_turn 9 = .ok (.iconst 1, 1) := by decide +kernel
theorem dX4_turn_10 : decode cX4_turn 10 = .ok (.iconst 0, 1) := by decide +kernel
theorem dX4_turn_11 : decode cX4_turn 11 = .ok (.invokevirtual 141, 3) := by decide +kernel
theorem dX4_turn_14 : decode cX4_turn 14 = .ok (.ireturn, 1) := by decide +kernel
theorem dX4_turn_15 : decode cX4_turn 15 = .ok (.aload_n 0, 1) := by decide +kernel
theorem dX4_turn_16 : decode cX4_turn 16 = .ok (.getfield 38, 3) := by decide +kernel
theorem dX4_turn_19 : decode cX4_turn 19 = .ok (.iload_n 1, 1) := by decide +kernel
theorem dX4_turn_20 : decode cX4_turn 20 = .ok (.baload, 1) := by decide +kernel
theorem dX4_turn_21 : decode cX4_turn 21 = .ok (.ifCond .eq 15, 3) := by decide +kernel
theorem dX4_turn_24 : decode cX4_turn 24 = .ok (.aload_n 0, 1) := by decide +kernel
theorem dX4_turn_25 : decode cX4_turn 25 = .ok (.iload_n 1, 1) := by decide +kernel
theorem dX4_turn_26 : decode cX4_turn 26 = .ok (.invokevirtual 145, 3) := by decide +kernel
theorem dX4_turn_29 : decode cX4_turn 29 = .ok (.aload_n 0, 1) := by decide +kernel
theorem dX4_turn_30 : decode cX4_turn 30 = .ok (.iconst 0, 1) := by decide +kernel
theorem dX4_turn_31 : decode cX4_turn 31 = .ok (.iconst 0, 1) := by decide +kernel
theorem dX4_turn_32 : decode cX4_turn 32 = .ok (.invokevirtual 141, 3) := by decide +kernel
theorem dX4_turn_35 : decode cX4_turn 35 = .ok (.ireturn, 1) := by decide +kernel
theorem dX4_turn_36 : decode cX4_turn 36 = .ok (.aload_n 0, 1) := by decide +kernel
theorem dX4_turn_37 : decode cX4_turn 37 = .ok (.getfield 17, 3) := by decide +kernel
theorem dX4_turn_40 : decode cX4_turn 40 = .ok (.iload_n 1, 1) := by decide +kernel
theorem dX4_turn_41 : decode cX4_turn 41 = .ok (.iaload, 1) := by decide +kernel
theorem dX4_turn_42 : decode cX4_turn 42 = .ok (.aload_n 0, 1) := by decide +kernel
theorem dX4_turn_43 : decode cX4_turn 43 = .ok (.getfield 26, 3) := by decide +kernel
theorem dX4_turn_46 : decode cX4_turn 46 = .ok (.iload_n 1, 1) := by decide +kernel
theorem dX4_turn_47 : decode cX4_turn 47 = .ok (.iaload, 1) := by decide +kernel
theorem dX4_turn_48 : decode cX4_turn 48 = .ok (.if_icmp .ge 10, 3) := by decide +kernel
theorem dX4_turn_51 : decode cX4_turn 51 = .ok (.aload_n 0, 1) := by decide +kernel
theorem dX4_turn_52 : decode cX4_turn 52 = .ok (.iconst 2, 1) := by decide +kernel
theorem dX4_turn_53 : decode cX4_turn 53 = .ok (.iconst 0, 1) := by decide +kernel
theorem dX4_turn_54 : decode cX4_turn 54 = .ok (.invokevirtual 141, 3) := by decide +kernel
theorem dX4_turn_57 : decode cX4_turn 57 = .ok (.ireturn, 1) := by decide +kernel
theorem dX4_turn_58 : decode cX4_turn 58 = .ok (.aload_n 0, 1) := by decide +kernel
theorem dX4_turn_59 : decode cX4_turn 59 = .ok (.iload_n 1, 1) := by decide +kernel
theorem dX4_turn_60 : decode cX4_turn 60 = .ok (.invokevirtual 149, 3) := by decide +kernel
theorem dX4_turn_63 : decode cX4_turn 63 = .ok (.aload_n 0, 1) := by decide +kernel
theorem dX4_turn_64 : decode cX4_turn 64 = .ok (.iconst 0, 1) := by decide +kernel
theorem dX4_turn_65 : decode cX4_turn 65 = .ok (.iconst 1, 1) := by decide +kernel
theorem dX4_turn_66 : decode cX4_turn 66 = .ok (.invokevirtual 141, 3) := by decide +kernel
theorem dX4_turn_69 : decode cX4_turn 69 = .ok (.ireturn, 1) := by decide +kernel
theorem dX4_waterThrough_0 : decode cX4_waterThrough 0 = .ok (.aload_n 0, 1) := by decide +kernel
theorem dX4_waterThrough_1 : decode cX4_waterThrough 1 = .ok (.iload_n 1, 1) := by decide +kernel
theorem dX4_waterThrough_2 : decode cX4_waterThrough 2 = .ok (.invokevirtual 138, 3) := by decide +kernel
theorem dX4_waterThrough_5 : decode cX4_waterThrough 5 = .ok (.ifCond .eq 16, 3) := by decide +kernel
theorem dX4_waterThrough_8 : decode cX4_waterThrough 8 = .ok (.aload_n 0, 1) := by decide +kernel
theorem dX4_waterThrough_9 : decode cX4_waterThrough 9 = .ok (.aload_n 0, 1) := by decide +kernel
theorem dX4_waterThrough_10 : decode cX4_waterThrough 10 = .ok (.getfield 35, 3) := by decide +kernel
theorem dX4_waterThrough_13 : decode cX4_waterThrough 13 = .ok (.iload_n 1, 1) := by decide +kernel
theorem dX4_waterThrough_14 : decode cX4_waterThrough 14 = .ok (.iaload, 1) := by decide +kernel
theorem dX4_waterThrough_15 : decode cX4_waterThrough 15 = .ok (.invokevirtual 125, 3) := by decide +kernel
theorem dX4_waterThrough_18 : decode cX4_waterThrough 18 = .ok (.goto 8, 3) := by decide +kernel
theorem dX4_waterThrough_21 : decode cX4_waterThrough 21 = .ok (.aload_n 0, 1) := by decide +kernel
theorem dX4_waterThrough_22 : decode cX4_waterThrough 22 = .ok (.iconst 1, 1) := by decide +kernel
theorem dX4_waterThrough_23 : decode cX4_waterThrough 23 = .ok (.invokevirtual 121, 3) := by decide +kernel
theorem dX4_waterThrough_26 : decode cX4_waterThrough 26 = .ok (.ireturn, 1) := by decide +kernel
theorem dX4_rain_0 : decode cX4_rain 0 = .ok (.aload_n 0, 1) := by decide +kernel
theorem dX4_rain_1 : decode cX4_rain 1 = .ok (.iload_n 1, 1) := by decide +kernel
theorem dX4_rain_2 : decode cX4_rain 2 = .ok (.invokevirtual 128, 3) := by decide +kernel
theorem dX4_rain_5 : decode cX4_rain 5 = .ok (.ifCond .ne 9, 3) := by decide +kernel
theorem dX4_rain_8 : decode cX4_rain 8 = .ok (.aload_n 0, 1) := by decide +kernel
theorem dX4_rain_9 : decode cX4_rain 9 = .ok (.iconst 1, 1) := by decide +kernel
theorem dX4_rain_10 : decode cX4_rain 10 = .ok (.invokevirtual 121, 3) := by decide +kernel
theorem dX4_rain_13 : decode cX4_rain 13 = .ok (.ireturn, 1) := by decide +kernel
theorem dX4_rain_14 : decode cX4_rain 14 = .ok (.iload_n 2, 1) := by decide +kernel
theorem dX4_rain_15 : decode cX4_rain 15 = .ok (.iconst 1, 1) := by decide +kernel
theorem dX4_rain_16 : decode cX4_rain 16 = .ok (.sipush 5000, 3) := by decide +kernel
theorem dX4_rain_19 : decode cX4_rain 19 = .ok (.invokestatic 104, 3) := by decide +kernel
theorem dX4_rain_22 : decode cX4_rain 22 = .ok (.ifCond .ne 9, 3) := by decide +kernel
theorem dX4_rain_25 : decode cX4_rain 25 = .ok (.aload_n 0, 1) := by decide +kernel
theorem dX4_rain_26 : decode cX4_rain 26 = .ok (.iconst 2, 1) := by decide +kernel
theorem dX4_rain_27 : decode cX4_rain 27 = .ok (.invokevirtual 121, 3) := by decide +kernel
theorem dX4_rain_30 : decode cX4_rain 30 = .ok (.ireturn, 1) := by decide +kernel
theorem dX4_rain_31 : decode cX4_rain 31 = .ok (.aload_n 0, 1) := by decide +kernel
theorem dX4_rain_32 : decode cX4_rain 32 = .ok (.getfield 115, 3) := by decide +kernel
theorem dX4_rain_35 : decode cX4_rain 35 = .ok (.istore_n 3, 1) := by decide +kernel
theorem dX4_rain_36 : decode cX4_rain 36 = .ok (.aload_n 0, 1) := by decide +kernel
theorem dX4_rain_37 : decode cX4_rain 37 = .ok (.dup, 1) := by decide +kernel
theorem dX4_rain_38 : decode cX4_rain 38 = .ok (.getfield 69, 3) := by decide +kernel
theorem dX4_rain_41 : decode cX4_rain 41 = .ok (.iload_n 2, 1) := by decide +kernel
theorem dX4_rain_42 : decode cX4_rain 42 = .ok (.iadd, 1) := by decide +kernel
theorem dX4_rain_43 : decode cX4_rain 43 = .ok (.putfield 69, 3) := by decide +kernel
theorem dX4_rain_46 : decode cX4_rain 46 = .ok (.aload_n 0, 1) := by decide +kernel
theorem dX4_rain_47 : decode cX4_rain 47 = .ok (.iconst (-1), 1) := by decide +kernel
theorem dX4_rain_48 : decode cX4_rain 48 = .ok (.iload_n 1, 1) := by decide +kernel
theorem dX4_rain_49 : decode cX4_rain 49 = .ok (.iload_n 2, 1) := by decide +kernel
theorem dX4_rain_50 : decode cX4_rain 50 = .ok (.invokevirtual 118, 3) := by decide +kernel
theorem dX4_rain_53 : decode cX4_rain 53 = .ok (.aload_n 0, 1) := by decide +kernel
theorem dX4_rain_54 : decode cX4_rain 54 = .ok (.aload_n 0, 1) := by decide +kernel
theorem dX4_rain_55 : decode cX4_rain 55 = .ok (.getfield 115, 3) := by decide +kernel
theorem dX4_rain_58 : decode cX4_rain 58 = .ok (.iload_n 3, 1) := by decide +kernel
theorem dX4_rain_59 : decode cX4_rain 59 = .ok (.isub, 1) := by decide +kernel
theorem dX4_rain_60 : decode cX4_rain 60 = .ok (.invokevirtual 125, 3) := by decide +kernel
theorem dX4_rain_63 : decode cX4_rain 63 = .ok (.ireturn, 1) := by decide +kernel
theorem dX4_endWeek_0 : decode cX4_endWeek 0 = .ok (.iconst 0, 1) := by decide +kernel
theorem dX4_endWeek_1 : decode cX4_endWeek 1 = .ok (.istore_n 1, 1) := by decide +kernel
theorem dX4_endWeek_2 : decode cX4_endWeek 2 = .ok (.iload_n 1, 1) := by decide +kernel
theorem dX4_endWeek_3 : decode cX4_endWeek 3 = .ok (.aload_n 0, 1) := by decide +kernel
theorem dX4_endWeek_4 : decode cX4_endWeek 4 = .ok (.getfield 7, 3) := by decide +kernel
theorem dX4_endWeek_7 : decode cX4_endWeek 7 = .ok (.if_icmp .ge 68, 3) := by decide +kernel
theorem dX4_endWeek_10 : decode cX4_endWeek 10 = .ok (.aload_n 0, 1) := by decide +kernel
theorem dX4_endWeek_11 : decode cX4_endWeek 11 = .ok (.getfield 17, 3) := by decide +kernel
theorem dX4_endWeek_14 : decode cX4_endWeek 14 = .ok (.iload_n 1, 1) := by decide +kernel
theorem dX4_endWeek_15 : decode cX4_endWeek 15 = .ok (.iaload, 1) := by decide +kernel
theorem dX4_endWeek_16 : decode cX4_endWeek 16 = .ok (.aload_n 0, 1) := by decide +kernel
theorem dX4_endWeek_17 : decode cX4_endWeek 17 = .ok (.getfield 13, 3) := by decide +kernel
theorem dX4_endWeek_20 : decode cX4_endWeek 20 = .ok (.iload_n 1, 1) := by decide +kernel
theorem dX4_endWeek_21 : decode cX4_endWeek 21 = .ok (.iaload, 1) := by decide +kernel
theorem dX4_endWeek_22 : decode cX4_endWeek 22 = .ok (.if_icmp .ge 12, 3) := by decide +kernel
theorem dX4_endWeek_25 : decode cX4_endWeek 25 = .ok (.aload_n 0, 1) := by decide +kernel
theorem dX4_endWeek_26 : decode cX4_endWeek 26 = .ok (.getfield 17, 3) := by decide +kernel
theorem dX4_endWeek_29 : decode cX4_endWeek 29 = .ok (.iload_n 1, 1) := by decide +kernel
theorem dX4_endWeek_30 : decode cX4_endWeek 30 = .ok (.iaload, 1) := by decide +kernel
theorem dX4_endWeek_31 : decode cX4_endWeek 31 = .ok (.goto 9, 3) := by decide +kernel
theorem dX4_endWeek_34 : decode cX4_endWeek 34 = .ok (.aload_n 0, 1) := by decide +kernel
theorem dX4_endWeek_35 : decode cX4_endWeek 35 = .ok (.getfield 13, 3) := by decide +kernel
theorem dX4_endWeek_38 : decode cX4_endWeek 38 = .ok (.iload_n 1, 1) := by decide +kernel
theorem dX4_endWeek_39 : decode cX4_endWeek 39 = .ok (.iaload, 1) := by decide +kernel
theorem dX4_endWeek_40 : decode cX4_endWeek 40 = .ok (.istore_n 2, 1) := by decide +kernel
theorem dX4_endWeek_41 : decode cX4_endWeek 41 = .ok (.aload_n 0, 1) := by decide +kernel
theorem dX4_endWeek_42 : decode cX4_endWeek 42 = .ok (.iload_n 1, 1) := by decide +kernel
theorem dX4_endWeek_43 : decode cX4_endWeek 43 = .ok (.bipush (-3), 2) := by decide +kernel
theorem dX4_endWeek_45 : decode cX4_endWeek 45 = .ok (.iload_n 2, 1) := by decide +kernel
theorem dX4_endWeek_46 : decode cX4_endWeek 46 = .ok (.invokevirtual 111, 3) := by decide +kernel
theorem dX4_endWeek_49 : decode cX4_endWeek 49 = .ok (.aload_n 0, 1) := by decide +kernel
theorem dX4_endWeek_50 : decode cX4_endWeek 50 = .ok (.getfield 17, 3) := by decide +kernel
theorem dX4_endWeek_53 : decode cX4_endWeek 53 = .ok (.iload_n 1, 1) := by decide +kernel
theorem dX4_endWeek_54 : decode cX4_endWeek 54 = .ok (.dup2, 1) := by decide +kernel
theorem dX4_endWeek_55 : decode cX4_endWeek 55 = .ok (.iaload, 1) := by decide +kernel
theorem dX4_endWeek_56 : decode cX4_endWeek 56 = .ok (.iload_n 2, 1) := by decide +kernel
theorem dX4_endWeek_57 : decode cX4_endWeek 57 = .ok (.isub, 1) := by decide +kernel
theorem dX4_endWeek_58 : decode cX4_endWeek 58 = .ok (.iastore, 1) := by decide +kernel
theorem dX4_endWeek_59 : decode cX4_endWeek 59 = .ok (.aload_n 0, 1) := by decide +kernel
theorem dX4_endWeek_60 : decode cX4_endWeek 60 = .ok (.dup, 1) := by decide +kernel
theorem dX4_endWeek_61 : decode cX4_endWeek 61 = .ok (.getfield 152, 3) := by decide +kernel
theorem dX4_endWeek_64 : decode cX4_endWeek 64 = .ok (.iload_n 2, 1) := by decide +kernel
theorem dX4_endWeek_65 : decode cX4_endWeek 65 = .ok (.iadd, 1) := by decide +kernel
theorem dX4_endWeek_66 : decode cX4_endWeek 66 = .ok (.putfield 152, 3) := by decide +kernel
theorem dX4_endWeek_69 : decode cX4_endWeek 69 = .ok (.iinc 1 1, 3) := by decide +kernel
theorem dX4_endWeek_72 : decode cX4_endWeek 72 = .ok (.goto (-70), 3) := by decide +kernel
theorem dX4_endWeek_75 : decode cX4_endWeek 75 = .ok (.iconst 0, 1) := by decide +kernel
theorem dX4_endWeek_76 : decode cX4_endWeek 76 = .ok (.istore_n 1, 1) := by decide +kernel
theorem dX4_endWeek_77 : decode cX4_endWeek 77 = .ok (.iconst 0, 1) := by decide +kernel
theorem dX4_endWeek_78 : decode cX4_endWeek 78 = .ok (.istore_n 2, 1) := by decide +kernel
theorem dX4_endWeek_79 : decode cX4_endWeek 79 = .ok (.iload_n 2, 1) := by decide +kernel
theorem dX4_endWeek_80 : decode cX4_endWeek 80 = .ok (.aload_n 0, 1) := by decide +kernel
theorem dX4_endWeek_81 : decode cX4_endWeek 81 = .ok (.getfield 7, 3) := by decide +kernel
theorem dX4_endWeek_84 : decode cX4_endWeek 84 = .ok (.if_icmp .ge 146, 3) := by decide +kernel
theorem dX4_endWeek_87 : decode cX4_endWeek 87 = .ok (.aload_n 0, 1) := by decide +kernel
theorem dX4_endWeek_88 : decode cX4_endWeek 88 = .ok (.getfield 23, 3) := by decide +kernel
theorem dX4_endWeek_91 : decode cX4_endWeek 91 = .ok (.iload_n 2, 1) := by decide +kernel
theorem dX4_endWeek_92 : decode cX4_endWeek 92 = .ok (.iaload, 1) := by decide +kernel
theorem dX4_endWeek_93 : decode cX4_endWeek 93 = .ok (.bipush 9, 2) := by decide +kernel
theorem dX4_endWeek_95 : decode cX4_endWeek 95 = .ok (.iadd, 1) := by decide +kernel
theorem dX4_endWeek_96 : decode cX4_endWeek 96 = .ok (.bipush 10, 2) := by decide +kernel
theorem dX4_endWeek_98 : decode cX4_endWeek 98 = .ok (.idiv, 1) := by decide +kernel
theorem dX4_endWeek_99 : decode cX4_endWeek 99 = .ok (.istore_n 3, 1) := by decide +kernel
theorem dX4_endWeek_100 : decode cX4_endWeek 100 = .ok (.aload_n 0, 1) := by decide +kernel
theorem dX4_endWeek_101 : decode cX4_endWeek 101 = .ok (.iload_n 2, 1) := by decide +kernel
theorem dX4_endWeek_102 : decode cX4_endWeek 102 = .ok (.invokevirtual 135, 3) := by decide +kernel
theorem dX4_endWeek_105 : decode cX4_endWeek 105 = .ok (.aload_n 0, 1) := by decide +kernel
theorem dX4_endWeek_106 : decode cX4_endWeek 106 = .ok (.getfield 20, 3) := by decide +kernel
theorem dX4_endWeek_109 : decode cX4_endWeek 109 = .ok (.iload_n 2, 1) := by decide +kernel
theorem dX4_endWeek_110 : decode cX4_endWeek 110 = .ok (.iaload, 1) := by decide +kernel
theorem dX4_endWeek_111 : decode cX4_endWeek 111 = .ok (.if_icmp .ge 14, 3) := by decide +kernel
theorem dX4_endWeek_114 : decode cX4_endWeek 114 = .ok (.aload_n 0, 1) := by decide +kernel
theorem dX4_endWeek_115 : decode cX4_endWeek 115 = .ok (.getfield 23, 3) := by decide +kernel
theorem dX4_endWeek_118 : decode cX4_endWeek 118 = .ok (.iload_n 2, 1) := by decide +kernel
theorem dX4_endWeek_119 : decode cX4_endWeek 119 = .ok (.iaload, 1) := by decide +kernel
theorem dX4_endWeek_120 : decode cX4_endWeek 120 = .ok (.iload_n 3, 1) := by decide +kernel
theorem dX4_endWeek_121 : decode cX4_endWeek 121 = .ok (.iadd, 1) := by decide +kernel
theorem dX4_endWeek_122 : decode cX4_endWeek 122 = .ok (.goto 34, 3) := by decide +kernel
theorem dX4_endWeek_125 : decode cX4_endWeek 125 = .ok (.aload_n 0, 1) := by decide +kernel
theorem dX4_endWeek_126 : decode cX4_endWeek 126 = .ok (.iload_n 2, 1) := by decide +kernel
theorem dX4_endWeek_127 : decode cX4_endWeek 127 = .ok (.invokevirtual 135, 3) := by decide +kernel
theorem dX4_endWeek_130 : decode cX4_endWeek 130 = .ok (.aload_n 0, 1) := by decide +kernel
theorem dX4_endWeek_131 : decode cX4_endWeek 131 = .ok (.getfield 20, 3) := by decide +kernel
theorem dX4_endWeek_134 : decode cX4_endWeek 134 = .ok (.iload_n 2, 1) := by decide +kernel
theorem dX4_endWeek_135 : decode cX4_endWeek 135 = .ok (.iaload, 1) := by decide +kernel
theorem dX4_endWeek_136 : decode cX4_endWeek 136 = .ok (.if_icmp .le 14, 3) := by decide +kernel
theorem dX4_endWeek_139 : decode cX4_endWeek 139 = .ok (.aload_n 0, 1) := by decide +kernel
theorem dX4_endWeek_140 : decode cX4_endWeek 140 = .ok (.getfield 23, 3) := by decide +kernel
theorem dX4_endWeek_143 : decode cX4_endWeek 143 = .ok (.iload_n 2, 1) := by decide +kernel
theorem dX4_endWeek_144 : decode cX4_endWeek 144 = .ok (.iaload, 1) := by decide +kernel
theorem dX4_endWeek_145 : decode cX4_endWeek 145 = .ok (.iload_n 3, 1) := by decide +kernel
theorem dX4_endWeek_146 : decode cX4_endWeek 146 = .ok (.isub, 1) := by decide +kernel
theorem dX4_endWeek_147 : decode cX4_endWeek 147 = .ok (.goto 9, 3) := by decide +kernel
theorem dX4_endWeek_150 : decode cX4_endWeek 150 = .ok (.aload_n 0, 1) := by decide +kernel
theorem dX4_endWeek_151 : decode cX4_endWeek 151 = .ok (.getfield 23, 3) := by decide +kernel
theorem dX4_endWeek_154 : decode cX4_endWeek 154 = .ok (.iload_n 2, 1) := by decide +kernel
theorem dX4_endWeek_155 : decode cX4_endWeek 155 = .ok (.iaload, 1) := by decide +kernel
theorem dX4_endWeek_156 : decode cX4_endWeek 156 = .ok (.istore 4, 2) := by decide +kernel
theorem dX4_endWeek_158 : decode cX4_endWeek 158 = .ok (.iload 4, 2) := by decide +kernel
theorem dX4_endWeek_160 : decode cX4_endWeek 160 = .ok (.sipush 9999, 3) := by decide +kernel
theorem dX4_endWeek_163 : decode cX4_endWeek 163 = .ok (.if_icmp .le 9, 3) := by decide +kernel
theorem dX4_endWeek_166 : decode cX4_endWeek 166 = .ok (.sipush 9999, 3) := by decide +kernel
theorem dX4_endWeek_169 : decode cX4_endWeek 169 = .ok (.goto 15, 3) := by decide +kernel
theorem dX4_endWeek_172 : decode cX4_endWeek 172 = .ok (.iload 4, 2) := by decide +kernel
theorem dX4_endWeek_174 : decode cX4_endWeek 174 = .ok (.iconst 1, 1) := by decide +kernel
theorem dX4_endWeek_175 : decode cX4_endWeek 175 = .ok (.if_icmp .ge 7, 3) := by decide +kernel
theorem dX4_endWeek_178 : decode cX4_endWeek 178 = .ok (.iconst 1, 1) := by decide +kernel
theorem dX4_endWeek_179 : decode cX4_endWeek 179 = .ok (.goto 5, 3) := by decide +kernel
theorem dX4_endWeek_182 : decode cX4_endWeek 182 = .ok (.iload 4, 2) := by decide +kernel
theorem dX4_endWeek_184 : decode cX4_endWeek 184 = .ok (.istore 4, 2) := by decide +kernel
theorem dX4_endWeek_186 : decode cX4_endWeek 186 = .ok (.iload_n 1, 1) := by decide +kernel
theorem dX4_endWeek_187 : decode cX4_endWeek 187 = .ok (.iload 4, 2) := by decide +kernel
theorem dX4_endWeek_189 : decode cX4_endWeek 189 = .ok (.aload_n 0, 1) := by decide +kernel
theorem dX4_endWeek_190 : decode cX4_endWeek 190 = .ok (.getfield 23, 3) := by decide +kernel
theorem dX4_endWeek_193 : decode cX4_endWeek 193 = .ok (.iload_n 2, 1) := by decide +kernel
theorem dX4_endWeek_194 : decode cX4_endWeek 194 = .ok (.iaload, 1) := by decide +kernel
theorem dX4_endWeek_195 : decode cX4_endWeek 195 = .ok (.if_icmp .le 7, 3) := by decide +kernel
theorem dX4_endWeek_198 : decode cX4_endWeek 198 = .ok (.iconst 1, 1) := by decide +kernel
theorem dX4_endWeek_199 : decode cX4_endWeek 199 = .ok (.goto 4, 3) := by decide +kernel
theorem dX4_endWeek_202 : decode cX4_endWeek 202 = .ok (.iconst 0, 1) := by decide +kernel
theorem dX4_endWeek_203 : decode cX4_endWeek 203 = .ok (.iadd, 1) := by decide +kernel
theorem dX4_endWeek_204 : decode cX4_endWeek 204 = .ok (.istore_n 1, 1) := by decide +kernel
theorem dX4_endWeek_205 : decode cX4_endWeek 205 = .ok (.aload_n 0, 1) := by decide +kernel
theorem dX4_endWeek_206 : decode cX4_endWeek 206 = .ok (.getfield 23, 3) := by decide +kernel
theorem dX4_endWeek_209 : decode cX4_endWeek 209 = .ok (.iload_n 2, 1) := by decide +kernel
theorem dX4_endWeek_210 : decode cX4_endWeek 210 = .ok (.iload 4, 2) := by decide +kernel
theorem dX4_endWeek_212 : decode cX4_endWeek 212 = .ok (.iastore, 1) := by decide +kernel
theorem dX4_endWeek_213 : decode cX4_endWeek 213 = .ok (.aload_n 0, 1) := by decide +kernel
theorem dX4_endWeek_214 : decode cX4_endWeek 214 = .ok (.getfield 20, 3) := by decide +kernel
theorem dX4_endWeek_217 : decode cX4_endWeek 217 = .ok (.iload_n 2, 1) := by decide +kernel
theorem dX4_endWeek_218 : decode cX4_endWeek 218 = .ok (.aload_n 0, 1) := by decide +kernel
theorem dX4_endWeek_219 : decode cX4_endWeek 219 = .ok (.iload_n 2, 1) := by decide +kernel
theorem dX4_endWeek_220 : decode cX4_endWeek 220 = .ok (.invokevirtual 135, 3) := by decide +kernel
theorem dX4_endWeek_223 : decode cX4_endWeek 223 = .ok (.iastore, 1) := by decide +kernel
theorem dX4_endWeek_224 : decode cX4_endWeek 224 = .ok (.iinc 2 1, 3) := by decide +kernel
theorem dX4_endWeek_227 : decode cX4_endWeek 227 = .ok (.goto (-148), 3) := by decide +kernel
theorem dX4_endWeek_230 : decode cX4_endWeek 230 = .ok (.aload_n 0, 1) := by decide +kernel
theorem dX4_endWeek_231 : decode cX4_endWeek 231 = .ok (.dup, 1) := by decide +kernel
theorem dX4_endWeek_232 : decode cX4_endWeek 232 = .ok (.getfield 155, 3) := by decide +kernel
theorem dX4_endWeek_235 : decode cX4_endWeek 235 = .ok (.iconst 1, 1) := by decide +kernel
theorem dX4_endWeek_236 : decode cX4_endWeek 236 = .ok (.iadd, 1) := by decide +kernel
theorem dX4_endWeek_237 : decode cX4_endWeek 237 = .ok (.putfield 155, 3) := by decide +kernel
theorem dX4_endWeek_240 : decode cX4_endWeek 240 = .ok (.aload_n 0, 1) := by decide +kernel
theorem dX4_endWeek_241 : decode cX4_endWeek 241 = .ok (.iload_n 1, 1) := by decide +kernel
theorem dX4_endWeek_242 : decode cX4_endWeek 242 = .ok (.invokevirtual 125, 3) := by decide +kernel
theorem dX4_endWeek_245 : decode cX4_endWeek 245 = .ok (.ireturn, 1) := by decide +kernel
theorem dX4_weekCount_0 : decode cX4_weekCount 0 = .ok (.aload_n 0, 1) := by decide +kernel
theorem dX4_weekCount_1 : decode cX4_weekCount 1 = .ok (.aload_n 0, 1) := by decide +kernel
theorem dX4_weekCount_2 : decode cX4_weekCount 2 = .ok (.getfield 155, 3) := by decide +kernel
theorem dX4_weekCount_5 : decode cX4_weekCount 5 = .ok (.invokevirtual 125, 3) := by decide +kernel
theorem dX4_weekCount_8 : decode cX4_weekCount 8 = .ok (.ireturn, 1) := by decide +kernel
theorem dX4_deep_0 : decode cX4_deep 0 = .ok (.aload_n 0, 1) := by decide +kernel
theorem dX4_deep_1 : decode cX4_deep 1 = .ok (.getfield 48, 3) := by decide +kernel
theorem dX4_deep_4 : decode cX4_deep 4 = .ok (.iload_n 1, 1) := by decide +kernel
theorem dX4_deep_5 : decode cX4_deep 5 = .ok (.iaload, 1) := by decide +kernel
theorem dX4_deep_6 : decode cX4_deep 6 = .ok (.aload_n 0, 1) := by decide +kernel
theorem dX4_deep_7 : decode cX4_deep 7 = .ok (.getfield 54, 3) := by decide +kernel
theorem dX4_deep_10 : decode cX4_deep 10 = .ok (.iload_n 1, 1) := by decide +kernel
theorem dX4_deep_11 : decode cX4_deep 11 = .ok (.iaload, 1) := by decide +kernel
theorem dX4_deep_12 : decode cX4_deep 12 = .ok (.aload_n 0, 1) := by decide +kernel
theorem dX4_deep_13 : decode cX4_deep 13 = .ok (.getfield 51, 3) := by decide +kernel
theorem dX4_deep_16 : decode cX4_deep 16 = .ok (.iload_n 1, 1) := by decide +kernel
theorem dX4_deep_17 : decode cX4_deep 17 = .ok (.iaload, 1) := by decide +kernel
theorem dX4_deep_18 : decode cX4_deep 18 = .ok (.iadd, 1) := by decide +kernel
theorem dX4_deep_19 : decode cX4_deep 19 = .ok (.iconst 1, 1) := by decide +kernel
theorem dX4_deep_20 : decode cX4_deep 20 = .ok (.isub, 1) := by decide +kernel
theorem dX4_deep_21 : decode cX4_deep 21 = .ok (.aload_n 0, 1) := by decide +kernel
theorem dX4_deep_22 : decode cX4_deep 22 = .ok (.getfield 51, 3) := by decide +kernel
theorem dX4_deep_25 : decode cX4_deep 25 = .ok (.iload_n 1, 1) := by decide +kernel
theorem dX4_deep_26 : decode cX4_deep 26 = .ok (.iaload, 1) := by decide +kernel
theorem dX4_deep_27 : decode cX4_deep 27 = .ok (.idiv, 1) := by decide +kernel
theorem dX4_deep_28 : decode cX4_deep 28 = .ok (.iadd, 1) := by decide +kernel
theorem dX4_deep_29 : decode cX4_deep 29 = .ok (.ireturn, 1) := by decide +kernel
theorem dX4_floats_0 : decode cX4_floats 0 = .ok (.aload_n 0, 1) := by decide +kernel
theorem dX4_floats_1 : decode cX4_floats 1 = .ok (.iload_n 1, 1) := by decide +kernel
theorem dX4_floats_2 : decode cX4_floats 2 = .ok (.invokevirtual 158, 3) := by decide +kernel
theorem dX4_floats_5 : decode cX4_floats 5 = .ok (.aload_n 0, 1) := by decide +kernel
theorem dX4_floats_6 : decode cX4_floats 6 = .ok (.aload_n 0, 1) := by decide +kernel
theorem dX4_floats_7 : decode cX4_floats 7 = .ok (.getfield 42, 3) := by decide +kernel
theorem dX4_floats_10 : decode cX4_floats 10 = .ok (.iload_n 1, 1) := by decide +kernel
theorem dX4_floats_11 : decode cX4_floats 11 = .ok (.iaload, 1) := by decide +kernel
theorem dX4_floats_12 : decode cX4_floats 12 = .ok (.invokevirtual 135, 3) := by decide +kernel
theorem dX4_floats_15 : decode cX4_floats 15 = .ok (.if_icmp .ge 7, 3) := by decide +kernel
theorem dX4_floats_18 : decode cX4_floats 18 = .ok (.iconst 1, 1) := by decide +kernel
theorem dX4_floats_19 : decode cX4_floats 19 = .ok (.goto 4, 3) := by decide +kernel
theorem dX4_floats_22 : decode cX4_floats 22 = .ok (.iconst 0, 1) := by decide +kernel
theorem dX4_floats_23 : decode cX4_floats 23 = .ok (.ireturn, 1) := by decide +kernel
theorem dX4_addBarge_0 : decode cX4_addBarge 0 = .ok (.aload_n 0, 1) := by decide +kernel
theorem dX4_addBarge_1 : decode cX4_addBarge 1 = .ok (.iload_n 1, 1) := by decide +kernel
theorem dX4_addBarge_2 : decode cX4_addBarge 2 = .ok (.invokevirtual 128, 3) := by decide +kernel
theorem dX4_addBarge_5 : decode cX4_addBarge 5 = .ok (.ifCond .ne 9, 3) := by decide +kernel
theorem dX4_addBarge_8 : decode cX4_addBarge 8 = .ok (.aload_n 0, 1) := by decide +kernel
theorem dX4_addBarge_9 : decode cX4_addBarge 9 = .ok (.iconst 1, 1) := by decide +kernel
theorem dX4_addBarge_10 : decode cX4_addBarge 10 = .ok (.invokevirtual 121, 3) := by decide +kernel
theorem dX4_addBarge_13 : decode cX4_addBarge 13 = .ok (.ireturn, 1) := by decide +kernel
theorem dX4_addBarge_14 : decode cX4_addBarge 14 = .ok (.iload_n 2, 1) := by decide +kernel
theorem dX4_addBarge_15 : decode cX4_addBarge 15 = .ok (.iconst 5, 1) := by decide +kernel
theorem dX4_addBarge_16 : decode cX4_addBarge 16 = .ok (.bipush 80, 2) := by decide +kernel
theorem dX4_addBarge_18 : decode cX4_addBarge 18 = .ok (.invokestatic 104, 3) := by decide +kernel
theorem dX4_addBarge_21 : decode cX4_addBarge 21 = .ok (.ifCond .eq 24, 3) := by decide +kernel
theorem dX4_addBarge_24 : decode cX4_addBarge 24 = .ok (.iload_n 3, 1) := by decide +kernel
theorem dX4_addBarge_25 : decode cX4_addBarge 25 = .ok (.iconst 2, 1) := by decide +kernel
theorem dX4_addBarge_26 : decode cX4_addBarge 26 = .ok (.bipush 20, 2) := by decide +kernel
theorem dX4_addBarge_28 : decode cX4_addBarge 28 = .ok (.invokestatic 104, 3) := by decide +kernel
theorem dX4_addBarge_31 : decode cX4_addBarge 31 = .ok (.ifCond .eq 14, 3) := by decide +kernel
theorem dX4_addBarge_34 : decode cX4_addBarge 34 = .ok (.iload 4, 2) := by decide +kernel
theorem dX4_addBarge_36 : decode cX4_addBarge 36 = .ok (.iconst 1, 1) := by decide +kernel
theorem dX4_addBarge_37 : decode cX4_addBarge 37 = .ok (.bipush 20, 2) := by decide +kernel
theorem dX4_addBarge_39 : decode cX4_addBarge 39 = .ok (.invokestatic 104, 3) := by decide +kernel
theorem dX4_addBarge_42 : decode cX4_addBarge 42 = .ok (.ifCond .ne 9, 3) := by decide +kernel
theorem dX4_addBarge_45 : decode cX4_addBarge 45 = .ok (.aload_n 0, 1) := by decide +kernel
theorem dX4_addBarge_46 : decode cX4_addBarge 46 = .ok (.iconst 2, 1) := by decide +kernel
theorem dX4_addBarge_47 : decode cX4_addBarge 47 = .ok (.invokevirtual 121, 3) := by decide +kernel
theorem dX4_addBarge_50 : decode cX4_addBarge 50 = .ok (.ireturn, 1) := by decide +kernel
theorem dX4_addBarge_51 : decode cX4_addBarge 51 = .ok (.aload_n 0, 1) := by decide +kernel
theorem dX4_addBarge_52 : decode cX4_addBarge 52 = .ok (.getfield 108, 3) := by decide +kernel
theorem dX4_addBarge_55 : decode cX4_addBarge 55 = .ok (.bipush 8, 2) := by decide +kernel
theorem dX4_addBarge_57 : decode cX4_addBarge 57 = .ok (.if_icmp .ne 9, 3) := by decide +kernel
theorem dX4_addBarge_60 : decode cX4_addBarge 60 = .ok (.aload_n 0, 1) := by decide +kernel
theorem dX4_addBarge_61 : decode cX4_addBarge 61 = .ok (.iconst 3, 1) := by decide +kernel
theorem dX4_addBarge_62 : decode cX4_addBarge 62 = .ok (.invokevirtual 121, 3) := by decide +kernel
theorem dX4_addBarge_65 : decode cX4_addBarge 65 = .ok (.ireturn, 1) := by decide +kernel
theorem dX4_addBarge_66 : decode cX4_addBarge 66 = .ok (.iload_n 3, 1) := by decide +kernel
theorem dX4_addBarge_67 : decode cX4_addBarge 67 = .ok (.aload_n 0, 1) := by decide +kernel
theorem dX4_addBarge_68 : decode cX4_addBarge 68 = .ok (.iload_n 1, 1) := by decide +kernel
theorem dX4_addBarge_69 : decode cX4_addBarge 69 = .ok (.invokevirtual 135, 3) := by decide +kernel
theorem dX4_addBarge_72 : decode cX4_addBarge 72 = .ok (.if_icmp .lt 9, 3) := by decide +kernel
theorem dX4_addBarge_75 : decode cX4_addBarge 75 = .ok (.aload_n 0, 1) := by decide +kernel
theorem dX4_addBarge_76 : decode cX4_addBarge 76 = .ok (.iconst 4, 1) := by decide +kernel
theorem dX4_addBarge_77 : decode cX4_addBarge 77 = .ok (.invokevirtual 121, 3) := by decide +kernel
theorem dX4_addBarge_80 : decode cX4_addBarge 80 = .ok (.ireturn, 1) := by decide +kernel
theorem dX4_addBarge_81 : decode cX4_addBarge 81 = .ok (.aload_n 0, 1) := by decide +kernel
theorem dX4_addBarge_82 : decode cX4_addBarge 82 = .ok (.getfield 42, 3) := by decide +kernel
theorem dX4_addBarge_85 : decode cX4_addBarge 85 = .ok (.aload_n 0, 1) := by decide +kernel
theorem dX4_addBarge_86 : decode cX4_addBarge 86 = .ok (.getfield 108, 3) := by decide +kernel
theorem dX4_addBarge_89 : decode cX4_addBarge 89 = .ok (.iload_n 1, 1) := by decide +kernel
theorem dX4_addBarge_90 : decode cX4_addBarge 90 = .ok (.iastore, 1) := by decide +kernel
theorem dX4_addBarge_91 : decode cX4_addBarge 91 = .ok (.aload_n 0, 1) := by decide +kernel
theorem dX4_addBarge_92 : decode cX4_addBarge 92 = .ok (.getfield 45, 3) := by decide +kernel
theorem dX4_addBarge_95 : decode cX4_addBarge 95 = .ok (.aload_n 0, 1) := by decide +kernel
theorem dX4_addBarge_96 : decode cX4_addBarge 96 = .ok (.getfield 108, 3) := by decide +kernel
theorem dX4_addBarge_99 : decode cX4_addBarge 99 = .ok (.iload_n 2, 1) := by decide +kernel
theorem dX4_addBarge_100 : decode cX4_addBarge 100 = .ok (.iastore, 1) := by decide +kernel
theorem dX4_addBarge_101 : decode cX4_addBarge 101 = .ok (.aload_n 0, 1) := by decide +kernel
theorem dX4_addBarge_102 : decode cX4_addBarge 102 = .ok (.getfield 48, 3) := by decide +kernel
theorem dX4_addBarge_105 : decode cX4_addBarge 105 = .ok (.aload_n 0, 1) := by decide +kernel
theorem dX4_addBarge_106 : decode cX4_addBarge 106 = .ok (.getfield 108, 3) := by decide +kernel
theorem dX4_addBarge_109 : decode cX4_addBarge 109 = .ok (.iload_n 3, 1) := by decide +kernel
theorem dX4_addBarge_110 : decode cX4_addBarge 110 = .ok (.iastore, 1) := by decide +kernel
theorem dX4_addBarge_111 : decode cX4_addBarge 111 = .ok (.aload_n 0, 1) := by decide +kernel
theorem dX4_addBarge_112 : decode cX4_addBarge 112 = .ok (.getfield 51, 3) := by decide +kernel
theorem dX4_addBarge_115 : decode cX4_addBarge 115 = .ok (.aload_n 0, 1) := by decide +kernel
theorem dX4_addBarge_116 : decode cX4_addBarge 116 = .ok (.getfield 108, 3) := by decide +kernel
theorem dX4_addBarge_119 : decode cX4_addBarge 119 = .ok (.iload 4, 2) := by decide +kernel
theorem dX4_addBarge_121 : decode cX4_addBarge 121 = .ok (.iastore, 1) := by decide +kernel
theorem dX4_addBarge_122 : decode cX4_addBarge 122 = .ok (.aload_n 0, 1) := by decide +kernel
theorem dX4_addBarge_123 : decode cX4_addBarge 123 = .ok (.getfield 57, 3) := by decide +kernel
theorem dX4_addBarge_126 : decode cX4_addBarge 126 = .ok (.aload_n 0, 1) := by decide +kernel
theorem dX4_addBarge_127 : decode cX4_addBarge 127 = .ok (.getfield 108, 3) := by decide +kernel
theorem dX4_addBarge_130 : decode cX4_addBarge 130 = .ok (.iconst (-1), 1) := by decide +kernel
theorem dX4_addBarge_131 : decode cX4_addBarge 131 = .ok (.iastore, 1) := by decide +kernel
theorem dX4_addBarge_132 : decode cX4_addBarge 132 = .ok (.aload_n 0, 1) := by decide +kernel
theorem dX4_addBarge_133 : decode cX4_addBarge 133 = .ok (.getfield 60, 3) := by decide +kernel
theorem dX4_addBarge_136 : decode cX4_addBarge 136 = .ok (.aload_n 0, 1) := by decide +kernel
theorem dX4_addBarge_137 : decode cX4_addBarge 137 = .ok (.getfield 108, 3) := by decide +kernel
theorem dX4_addBarge_140 : decode cX4_addBarge 140 = .ok (.iconst (-1), 1) := by decide +kernel
theorem dX4_addBarge_141 : decode cX4_addBarge 141 = .ok (.iastore, 1) := by decide +kernel
theorem dX4_addBarge_142 : decode cX4_addBarge 142 = .ok (.aload_n 0, 1) := by decide +kernel
theorem dX4_addBarge_143 : decode cX4_addBarge 143 = .ok (.dup, 1) := by decide +kernel
theorem dX4_addBarge_144 : decode cX4_addBarge 144 = .ok (.getfield 108, 3) := by decide +kernel
theorem dX4_addBarge_147 : decode cX4_addBarge 147 = .ok (.iconst 1, 1) := by decide +kernel
theorem dX4_addBarge_148 : decode cX4_addBarge 148 = .ok (.iadd, 1) := by decide +kernel
theorem dX4_addBarge_149 : decode cX4_addBarge 149 = .ok (.putfield 108, 3) := by decide +kernel
theorem dX4_addBarge_152 : decode cX4_addBarge 152 = .ok (.aload_n 0, 1) := by decide +kernel
theorem dX4_addBarge_153 : decode cX4_addBarge 153 = .ok (.aload_n 0, 1) := by decide +kernel
theorem dX4_addBarge_154 : decode cX4_addBarge 154 = .ok (.getfield 108, 3) := by decide +kernel
theorem dX4_addBarge_157 : decode cX4_addBarge 157 = .ok (.iconst 1, 1) := by decide +kernel
theorem dX4_addBarge_158 : decode cX4_addBarge 158 = .ok (.isub, 1) := by decide +kernel
theorem dX4_addBarge_159 : decode cX4_addBarge 159 = .ok (.invokevirtual 125, 3) := by decide +kernel
theorem dX4_addBarge_162 : decode cX4_addBarge 162 = .ok (.ireturn, 1) := by decide +kernel
theorem dX4_bargeCount_0 : decode cX4_bargeCount 0 = .ok (.aload_n 0, 1) := by decide +kernel
theorem dX4_bargeCount_1 : decode cX4_bargeCount 1 = .ok (.aload_n 0, 1) := by decide +kernel
theorem dX4_bargeCount_2 : decode cX4_bargeCount 2 = .ok (.getfield 108, 3) := by decide +kernel
theorem dX4_bargeCount_5 : decode cX4_bargeCount 5 = .ok (.invokevirtual 125, 3) := by decide +kernel
theorem dX4_bargeCount_8 : decode cX4_bargeCount 8 = .ok (.ireturn, 1) := by decide +kernel
theorem dX4_reachOf_0 : decode cX4_reachOf 0 = .ok (.aload_n 0, 1) := by decide +kernel
theorem dX4_reachOf_1 : decode cX4_reachOf 1 = .ok (.iload_n 1, 1) := by decide +kernel
theorem dX4_reachOf_2 : decode cX4_reachOf 2 = .ok (.invokevirtual 161, 3) := by decide +kernel
theorem dX4_reachOf_5 : decode cX4_reachOf 5 = .ok (.ifCond .eq 16, 3) := by decide +kernel
theorem dX4_reachOf_8 : decode cX4_reachOf 8 = .ok (.aload_n 0, 1) := by decide +kernel
theorem dX4_reachOf_9 : decode cX4_reachOf 9 = .ok (.aload_n 0, 1) := by decide +kernel
theorem dX4_reachOf_10 : decode cX4_reachOf 10 = .ok (.getfield 42, 3) := by decide +kernel
theorem dX4_reachOf_13 : decode cX4_reachOf 13 = .ok (.iload_n 1, 1) := by decide +kernel
theorem dX4_reachOf_14 : decode cX4_reachOf 14 = .ok (.iaload, 1) := by decide +kernel
theorem dX4_reachOf_15 : decode cX4_reachOf 15 = .ok (.invokevirtual 125, 3) := by decide +kernel
theorem dX4_reachOf_18 : decode cX4_reachOf 18 = .ok (.goto 8, 3) := by decide +kernel
theorem dX4_reachOf_21 : decode cX4_reachOf 21 = .ok (.aload_n 0, 1) := by decide +kernel
theorem dX4_reachOf_22 : decode cX4_reachOf 22 = .ok (.iconst 1, 1) := by decide +kernel
theorem dX4_reachOf_23 : decode cX4_reachOf 23 = .ok (.invokevirtual 121, 3) := by decide +kernel
theorem dX4_reachOf_26 : decode cX4_reachOf 26 = .ok (.ireturn, 1) := by decide +kernel
theorem dX4_cargoOf_0 : decode cX4_cargoOf 0 = .ok (.aload_n 0, 1) := by decide +kernel
theorem dX4_cargoOf_1 : decode cX4_cargoOf 1 = .ok (.iload_n 1, 1) := by decide +kernel
theorem dX4_cargoOf_2 : decode cX4_cargoOf 2 = .ok (.invokevirtual 161, 3) := by decide +kernel
theorem dX4_cargoOf_5 : decode cX4_cargoOf 5 = .ok (.ifCond .eq 16, 3) := by decide +kernel
theorem dX4_cargoOf_8 : decode cX4_cargoOf 8 = .ok (.aload_n 0, 1) := by decide +kernel
theorem dX4_cargoOf_9 : decode cX4_cargoOf 9 = .ok (.aload_n 0, 1) := by decide +kernel
theorem dX4_cargoOf_10 : decode cX4_cargoOf 10 = .ok (.getfield 54, 3) := by decide +kernel
theorem dX4_cargoOf_13 : decode cX4_cargoOf 13 = .ok (.iload_n 1, 1) := by decide +kernel
theorem dX4_cargoOf_14 : decode cX4_cargoOf 14 = .ok (.iaload, 1) := by decide +kernel
theorem dX4_cargoOf_15 : decode cX4_cargoOf 15 = .ok (.invokevirtual 125, 3) := by decide +kernel
theorem dX4_cargoOf_18 : decode cX4_cargoOf 18 = .ok (.goto 8, 3) := by decide +kernel
theorem dX4_cargoOf_21 : decode cX4_cargoOf 21 = .ok (.aload_n 0, 1) := by decide +kernel
theorem dX4_cargoOf_22 : decode cX4_cargoOf 22 = .ok (.iconst 1, 1) := by decide +kernel
theorem dX4_cargoOf_23 : decode cX4_cargoOf 23 = .ok (.invokevirtual 121, 3) := by decide +kernel
theorem dX4_cargoOf_26 : decode cX4_cargoOf 26 = .ok (.ireturn, 1) := by decide +kernel
theorem dX4_draughtOf_0 : decode cX4_draughtOf 0 = .ok (.aload_n 0, 1) := by decide +kernel
theorem dX4_draughtOf_1 : decode cX4_draughtOf 1 = .ok (.iload_n 1, 1) := by decide +kernel
theorem dX4_draughtOf_2 : decode cX4_draughtOf 2 = .ok (.invokevirtual 161, 3) := by decide +kernel
theorem dX4_draughtOf_5 : decode cX4_draughtOf 5 = .ok (.ifCond .eq 15, 3) := by decide +kernel
theorem dX4_draughtOf_8 : decode cX4_draughtOf 8 = .ok (.aload_n 0, 1) := by decide +kernel
theorem dX4_draughtOf_9 : decode cX4_draughtOf 9 = .ok (.aload_n 0, 1) := by decide +kernel
theorem dX4_draughtOf_10 : decode cX4_draughtOf 10 = .ok (.iload_n 1, 1) := by decide +kernel
theorem dX4_draughtOf_11 : decode cX4_draughtOf 11 = .ok (.invokevirtual 158, 3) := by decide +kernel
theorem dX4_draughtOf_14 : decode cX4_draughtOf 14 = .ok (.invokevirtual 125, 3) := by decide +kernel
theorem dX4_draughtOf_17 : decode cX4_draughtOf 17 = .ok (.goto 8, 3) := by decide +kernel
theorem dX4_draughtOf_20 : decode cX4_draughtOf 20 = .ok (.aload_n 0, 1) := by decide +kernel
theorem dX4_draughtOf_21 : decode cX4_draughtOf 21 = .ok (.iconst 1, 1) := by decide +kernel
theorem dX4_draughtOf_22 : decode cX4_draughtOf 22 = .ok (.invokevirtual 121, 3) := by decide +kernel
theorem dX4_draughtOf_25 : decode cX4_draughtOf 25 = .ok (.ireturn, 1) := by decide +kernel
theorem dX4_isAfloat_0 : decode cX4_isAfloat 0 = .ok (.aload_n 0, 1) := by decide +kernel
theorem dX4_isAfloat_1 : decode cX4_isAfloat 1 = .ok (.aload_n 0, 1) := by decide +kernel
theorem dX4_isAfloat_2 : decode cX4_isAfloat 2 = .ok (.iload_n 1, 1) := by decide +kernel
theorem dX4_isAfloat_3 : decode cX4_isAfloat 3 = .ok (.invokevirtual 161, 3) := by decide +kernel
theorem dX4_isAfloat_6 : decode cX4_isAfloat 6 = .ok (.ifCond .eq 7, 3) := by decide +kernel
theorem dX4_isAfloat_9 : decode cX4_isAfloat 9 = .ok (.iconst 0, 1) := by decide +kernel
theorem dX4_isAfloat_10 : decode cX4_isAfloat 10 = .ok (.goto 4, 3) := by decide +kernel
theorem dX4_isAfloat_13 : decode cX4_isAfloat 13 = .ok (.iconst 1, 1) := by decide +kernel
theorem dX4_isAfloat_14 : decode cX4_isAfloat 14 = .ok (.aload_n 0, 1) := by decide +kernel
theorem dX4_isAfloat_15 : decode cX4_isAfloat 15 = .ok (.iload_n 1, 1) := by decide +kernel
theorem dX4_isAfloat_16 : decode cX4_isAfloat 16 = .ok (.invokevirtual 161, 3) := by decide +kernel
theorem dX4_isAfloat_19 : decode cX4_isAfloat 19 = .ok (.ifCond .eq 15, 3) := by decide +kernel
theorem dX4_isAfloat_22 : decode cX4_isAfloat 22 = .ok (.aload_n 0, 1) := by decide +kernel
theorem dX4_isAfloat_23 : decode cX4_isAfloat 23 = .ok (.iload_n 1, 1) := by decide +kernel
theorem dX4_isAfloat_24 : decode cX4_isAfloat 24 = .ok (.invokevirtual 164, 3) := by decide +kernel
theorem dX4_isAfloat_27 : decode cX4_isAfloat 27 = .ok (.ifCond .eq 7, 3) := by decide +kernel
theorem dX4_isAfloat_30 : decode cX4_isAfloat 30 = .ok (.iconst 1, 1) := by decide +kernel
theorem dX4_isAfloat_31 : decode cX4_isAfloat 31 = .ok (.goto 4, 3) := by decide +kernel
theorem dX4_isAfloat_34 : decode cX4_isAfloat 34 = .ok (.iconst 0, 1) := by decide +kernel
theorem dX4_isAfloat_35 : decode cX4_isAfloat 35 = .ok (.invokevirtual 141, 3) := by decide +kernel
theorem dX4_isAfloat_38 : decode cX4_isAfloat 38 = .ok (.ireturn, 1) := by decide +kernel
theorem dX4_first_0 : decode cX4_first 0 = .ok (.iload_n 1, 1) := by decide +kernel
theorem dX4_first_1 : decode cX4_first 1 = .ok (.istore_n 2, 1) := by decide +kernel
theorem dX4_first_2 : decode cX4_first 2 = .ok (.aload_n 0, 1) := by decide +kernel
theorem dX4_first_3 : decode cX4_first 3 = .ok (.getfield 57, 3) := by decide +kernel
theorem dX4_first_6 : decode cX4_first 6 = .ok (.iload_n 2, 1) := by decide +kernel
theorem dX4_first_7 : decode cX4_first 7 = .ok (.iaload, 1) := by decide +kernel
theorem dX4_first_8 : decode cX4_first 8 = .ok (.iconst (-1), 1) := by decide +kernel
theorem dX4_first_9 : decode cX4_first 9 = .ok (.if_icmp .eq 13, 3) := by decide +kernel
theorem dX4_first_12 : decode cX4_first 12 = .ok (.aload_n 0, 1) := by decide +kernel
theorem dX4_first_13 : decode cX4_first 13 = .ok (.getfield 57, 3) := by decide +kernel
theorem dX4_first_16 : decode cX4_first 16 = .ok (.iload_n 2, 1) := by decide +kernel
theorem dX4_first_17 : decode cX4_first 17 = .ok (.iaload, 1) := by decide +kernel
theorem dX4_first_18 : decode cX4_first 18 = .ok (.istore_n 2, 1) := by decide +kernel
theorem dX4_first_19 : decode cX4_first 19 = .ok (.goto (-17), 3) := by decide +kernel
theorem dX4_first_22 : decode cX4_first 22 = .ok (.iload_n 2, 1) := by decide +kernel
theorem dX4_first_23 : decode cX4_first 23 = .ok (.ireturn, 1) := by decide +kernel
theorem dX4_size_0 : decode cX4_size 0 = .ok (.iconst 0, 1) := by decide +kernel
theorem dX4_size_1 : decode cX4_size 1 = .ok (.istore_n 2, 1) := by decide +kernel
theorem dX4_size_2 : decode cX4_size 2 = .ok (.aload_n 0, 1) := by decide +kernel
theorem dX4_size_3 : decode cX4_size 3 = .ok (.iload_n 1, 1) := by decide +kernel
theorem dX4_size_4 : decode cX4_size 4 = .ok (.invokevirtual 167, 3) := by decide +kernel
theorem dX4_size_7 : decode cX4_size 7 = .ok (.istore_n 3, 1) := by decide +kernel
theorem dX4_size_8 : decode cX4_size 8 = .ok (.iload_n 3, 1) := by decide +kernel
theorem dX4_size_9 : decode cX4_size 9 = .ok (.iconst (-1), 1) := by decide +kernel
theorem dX4_size_10 : decode cX4_size 10 = .ok (.if_icmp .eq 16, 3) := by decide +kernel
theorem dX4_size_13 : decode cX4_size 13 = .ok (.iinc 2 1, 3) := by decide +kernel
theorem dX4_size_16 : decode cX4_size 16 = .ok (.aload_n 0, 1) := by decide +kernel
theorem dX4_size_17 : decode cX4_size 17 = .ok (.getfield 60, 3) := by decide +kernel
theorem dX4_size_20 : decode cX4_size 20 = .ok (.iload_n 3, 1) := by decide +kernel
theorem dX4_size_21 : decode cX4_size 21 = .ok (.iaload, 1) := by decide +kernel
theorem dX4_size_22 : decode cX4_size 22 = .ok (.istore_n 3, 1) := by decide +kernel
theorem dX4_size_23 : decode cX4_size 23 = .ok (.goto (-15), 3) := by decide +kernel
theorem dX4_size_26 : decode cX4_size 26 = .ok (.iload_n 2, 1) := by decide +kernel
theorem dX4_size_27 : decode cX4_size 27 = .ok (.ireturn, 1) := by decide +kernel
theorem dX4_couple_0 : decode cX4_couple 0 = .ok (.aload_n 0, 1) := by decide +kernel
theorem dX4_couple_1 : decode cX4_couple 1 = .ok (.iload_n 1, 1) := by decide +kernel
theorem dX4_couple_2 : decode cX4_couple 2 = .ok (.invokevirtual 161, 3) := by decide +kernel
theorem dX4_couple_5 : decode cX4_couple 5 = .ok (.ifCond .eq 11, 3) := by decide +kernel
theorem dX4_couple_8 : decode cX4_couple 8 = .ok (.aload_n 0, 1) := by decide +kernel
theorem dX4_couple_9 : decode cX4_couple 9 = .ok (.iload_n 2, 1) := by decide +kernel
theorem dX4_couple_10 : decode cX4_couple 10 = .ok (.invokevirtual 161, 3) := by decide +kernel
theorem dX4_couple_13 : decode cX4_couple 13 = .ok (.ifCond .ne 9, 3) := by decide +kernel
theorem dX4_couple_16 : decode cX4_couple 16 = .ok (.aload_n 0, 1) := by decide +kernel
theorem dX4_couple_17 : decode cX4_couple 17 = .ok (.iconst 1, 1) := by decide +kernel
theorem dX4_couple_18 : decode cX4_couple 18 = .ok (.invokevirtual 121, 3) := by decide +kernel
theorem dX4_couple_21 : decode cX4_couple 21 = .ok (.ireturn, 1) := by decide +kernel
theorem dX4_couple_22 : decode cX4_couple 22 = .ok (.aload_n 0, 1) := by decide +kernel
theorem dX4_couple_23 : decode cX4_couple 23 = .ok (.iload_n 1, 1) := by decide +kernel
theorem dX4_couple_24 : decode cX4_couple 24 = .ok (.invokevirtual 167, 3) := by decide +kernel
theorem dX4_couple_27 : decode cX4_couple 27 = .ok (.aload_n 0, 1) := by decide +kernel
theorem dX4_couple_28 : decode cX4_couple 28 = .ok (.iload_n 2, 1) := by decide +kernel
theorem dX4_couple_29 : decode cX4_couple 29 = .ok (.invokevirtual 167, 3) := by decide +kernel
theorem dX4_couple_32 : decode cX4_couple 32 = .ok (.if_icmp .ne 9, 3) := by decide +kernel
theorem dX4_couple_35 : decode cX4_couple 35 = .ok (.aload_n 0, 1) := by decide +kernel
theorem dX4_couple_36 : decode cX4_couple 36 = .ok (.iconst 2, 1) := by decide +kernel
theorem dX4_couple_37 : decode cX4_couple 37 = .ok (.invokevirtual 121, 3) := by decide +kernel
theorem dX4_couple_40 : decode cX4_couple 40 = .ok (.ireturn, 1) := by decide +kernel
theorem dX4_couple_41 : decode cX4_couple 41 = .ok (.aload_n 0, 1) := by decide +kernel
theorem dX4_couple_42 : decode cX4_couple 42 = .ok (.getfield 42, 3) := by decide +kernel
theorem dX4_couple_45 : decode cX4_couple 45 = .ok (.iload_n 1, 1) := by decide +kernel
theorem dX4_couple_46 : decode cX4_couple 46 = .ok (.iaload, 1) := by decide +kernel
theorem dX4_couple_47 : decode cX4_couple 47 = .ok (.aload_n 0, 1) := by decide +kernel
theorem dX4_couple_48 : decode cX4_couple 48 = .ok (.getfield 42, 3) := by decide +kernel
theorem dX4_couple_51 : decode cX4_couple 51 = .ok (.iload_n 2, 1) := by decide +kernel
theorem dX4_couple_52 : decode cX4_couple 52 = .ok (.iaload, 1) := by decide +kernel
theorem dX4_couple_53 : decode cX4_couple 53 = .ok (.if_icmp .ne 18, 3) := by decide +kernel
theorem dX4_couple_56 : decode cX4_couple 56 = .ok (.aload_n 0, 1) := by decide +kernel
theorem dX4_couple_57 : decode cX4_couple 57 = .ok (.iload_n 1, 1) := by decide +kernel
theorem dX4_couple_58 : decode cX4_couple 58 = .ok (.invokevirtual 170, 3) := by decide +kernel
theorem dX4_couple_61 : decode cX4_couple 61 = .ok (.aload_n 0, 1) := by decide +kernel
theorem dX4_couple_62 : decode cX4_couple 62 = .ok (.iload_n 2, 1) := by decide +kernel
theorem dX4_couple_63 : decode cX4_couple 63 = .ok (.invokevirtual 170, 3) := by decide +kernel
theorem dX4_couple_66 : decode cX4_couple 66 = .ok (.iadd, 1) := by decide +kernel
theorem dX4_couple_67 : decode cX4_couple 67 = .ok (.iconst 4, 1) := by decide +kernel
theorem dX4_couple_68 : decode cX4_couple 68 = .ok (.if_icmp .le 9, 3) := by decide +kernel
theorem dX4_couple_71 : decode cX4_couple 71 = .ok (.aload_n 0, 1) := by decide +kernel
theorem dX4_couple_72 : decode cX4_couple 72 = .ok (.iconst 3, 1) := by decide +kernel
theorem dX4_couple_73 : decode cX4_couple 73 = .ok (.invokevirtual 121, 3) := by decide +kernel
theorem dX4_couple_76 : decode cX4_couple 76 = .ok (.ireturn, 1) := by decide +kernel
theorem dX4_couple_77 : decode cX4_couple 77 = .ok (.iload_n 1, 1) := by decide +kernel
theorem dX4_couple_78 : decode cX4_couple 78 = .ok (.istore_n 3, 1) := by decide +kernel
theorem dX4_couple_79 : decode cX4_couple 79 = .ok (.aload_n 0, 1) := by decide +kernel
theorem dX4_couple_80 : decode cX4_couple 80 = .ok (.getfield 60, 3) := by decide +kernel
theorem dX4_couple_83 : decode cX4_couple 83 = .ok (.iload_n 3, 1) := by decide +kernel
theorem dX4_couple_84 : decode cX4_couple 84 = .ok (.iaload, 1) := by decide +kernel
theorem dX4_couple_85 : decode cX4_couple 85 = .ok (.iconst (-1), 1) := by decide +kernel
theorem dX4_couple_86 : decode cX4_couple 86 = .ok (.if_icmp .eq 13, 3) := by decide +kernel
theorem dX4_couple_89 : decode cX4_couple 89 = .ok (.aload_n 0, 1) := by decide +kernel
theorem dX4_couple_90 : decode cX4_couple 90 = .ok (.getfield 60, 3) := by decide +kernel
theorem dX4_couple_93 : decode cX4_couple 93 = .ok (.iload_n 3, 1) := by decide +kernel
theorem dX4_couple_94 : decode cX4_couple 94 = .ok (.iaload, 1) := by decide +kernel
theorem dX4_couple_95 : decode cX4_couple 95 = .ok (.istore_n 3, 1) := by decide +kernel
theorem dX4_couple_96 : decode cX4_couple 96 = .ok (.goto (-17), 3) := by decide +kernel
theorem dX4_couple_99 : decode cX4_couple 99 = .ok (.aload_n 0, 1) := by decide +kernel
theorem dX4_couple_100 : decode cX4_couple 100 = .ok (.iload_n 2, 1) := by decide +kernel
theorem dX4_couple_101 : decode cX4_couple 101 = .ok (.invokevirtual 167, 3) := by decide +kernel
theorem dX4_couple_104 : decode cX4_couple 104 = .ok (.istore 4, 2) := by decide +kernel
theorem dX4_couple_106 : decode cX4_couple 106 = .ok (.aload_n 0, 1) := by decide +kernel
theorem dX4_couple_107 : decode cX4_couple 107 = .ok (.getfield 60, 3) := by decide +kernel
theorem dX4_couple_110 : decode cX4_couple 110 = .ok (.iload_n 3, 1) := by decide +kernel
theorem dX4_couple_111 : decode cX4_couple 111 = .ok (.iload 4, 2) := by decide +kernel
theorem dX4_couple_113 : decode cX4_couple 113 = .ok (.iastore, 1) := by decide +kernel
theorem dX4_couple_114 : decode cX4_couple 114 = .ok (.aload_n 0, 1) := by decide +kernel
theorem dX4_couple_115 : decode cX4_couple 115 = .ok (.getfield 57, 3) := by decide +kernel
theorem dX4_couple_118 : decode cX4_couple 118 = .ok (.iload 4, 2) := by decide +kernel
theorem dX4_couple_120 : decode cX4_couple 120 = .ok (.iload_n 3, 1) := by decide +kernel
theorem dX4_couple_121 : decode cX4_couple 121 = .ok (.iastore, 1) := by decide +kernel
theorem dX4_couple_122 : decode cX4_couple 122 = .ok (.aload_n 0, 1) := by decide +kernel
theorem dX4_couple_123 : decode cX4_couple 123 = .ok (.aload_n 0, 1) := by decide +kernel
theorem dX4_couple_124 : decode cX4_couple 124 = .ok (.iload_n 1, 1) := by decide +kernel
theorem dX4_couple_125 : decode cX4_couple 125 = .ok (.invokevirtual 170, 3) := by decide +kernel
theorem dX4_couple_128 : decode cX4_couple 128 = .ok (.invokevirtual 125, 3) := by decide +kernel
theorem dX4_couple_131 : decode cX4_couple 131 = .ok (.ireturn, 1) := by decide +kernel
theorem dX4_uncouple_0 : decode cX4_uncouple 0 = .ok (.aload_n 0, 1) := by decide +kernel
theorem dX4_uncouple_1 : decode cX4_uncouple 1 = .ok (.iload_n 1, 1) := by decide +kernel
theorem dX4_uncouple_2 : decode cX4_uncouple 2 = .ok (.invokevirtual 161, 3) := by decide +kernel
theorem dX4_uncouple_5 : decode cX4_uncouple 5 = .ok (.ifCond .ne 9, 3) := by decide +kernel
theorem dX4_uncouple_8 : decode cX4_uncouple 8 = .ok (.aload_n 0, 1) := by decide +kernel
theorem dX4_uncouple_9 : decode cX4_uncouple 9 = .ok (.iconst 1, 1) := by decide +kernel
theorem dX4_uncouple_10 : decode cX4_uncouple 10 = .ok (.invokevirtual 121, 3) := by decide +kernel
theorem dX4_uncouple_13 : decode cX4_uncouple 13 = .ok (.ireturn, 1) := by decide +kernel
theorem dX4_uncouple_14 : decode cX4_uncouple 14 = .ok (.aload_n 0, 1) := by decide +kernel
theorem dX4_uncouple_15 : decode cX4_uncouple 15 = .ok (.getfield 57, 3) := by decide +kernel
theorem dX4_uncouple_18 : decode cX4_uncouple 18 = .ok (.iload_n 1, 1) := by decide +kernel
theorem dX4_uncouple_19 : decode cX4_uncouple 19 = .ok (.iaload, 1) := by decide +kernel
theorem dX4_uncouple_20 : decode cX4_uncouple 20 = .ok (.iconst (-1), 1) := by decide +kernel
theorem dX4_uncouple_21 : decode cX4_uncouple 21 = .ok (.if_icmp .ne 9, 3) := by decide +kernel
theorem dX4_uncouple_24 : decode cX4_uncouple 24 = .ok (.aload_n 0, 1) := by decide +kernel
theorem dX4_uncouple_25 : decode cX4_uncouple 25 = .ok (.iconst 2, 1) := by decide +kernel
theorem dX4_uncouple_26 : decode cX4_uncouple 26 = .ok (.invokevirtual 121, 3) := by decide +kernel
theorem dX4_uncouple_29 : decode cX4_uncouple 29 = .ok (.ireturn, 1) := by decide +kernel
theorem dX4_uncouple_30 : decode cX4_uncouple 30 = .ok (.aload_n 0, 1) := by decide +kernel
theorem dX4_uncouple_31 : decode cX4_uncouple 31 = .ok (.getfield 57, 3) := by decide +kernel
theorem dX4_uncouple_34 : decode cX4_uncouple 34 = .ok (.iload_n 1, 1) := by decide +kernel
theorem dX4_uncouple_35 : decode cX4_uncouple 35 = .ok (.iaload, 1) := by decide +kernel
theorem dX4_uncouple_36 : decode cX4_uncouple 36 = .ok (.istore_n 2, 1) := by decide +kernel
theorem dX4_uncouple_37 : decode cX4_uncouple 37 = .ok (.aload_n 0, 1) := by decide +kernel
theorem dX4_uncouple_38 : decode cX4_uncouple 38 = .ok (.getfield 60, 3) := by decide +kernel
theorem dX4_uncouple_41 : decode cX4_uncouple 41 = .ok (.iload_n 2, 1) := by decide +kernel
theorem dX4_uncouple_42 : decode cX4_uncouple 42 = .ok (.iconst (-1), 1) := by decide +kernel
theorem dX4_uncouple_43 : decode cX4_uncouple 43 = .ok (.iastore, 1) := by decide +kernel
theorem dX4_uncouple_44 : decode cX4_uncouple 44 = .ok (.aload_n 0, 1) := by decide +kernel
theorem dX4_uncouple_45 : decode cX4_uncouple 45 = .ok (.getfield 57, 3) := by decide +kernel
theorem dX4_uncouple_48 : decode cX4_uncouple 48 = .ok (.iload_n 1, 1) := by decide +kernel
theorem dX4_uncouple_49 : decode cX4_uncouple 49 = .ok (.iconst (-1), 1) := by decide +kernel
theorem dX4_uncouple_50 : decode cX4_uncouple 50 = .ok (.iastore, 1) := by decide +kernel
theorem dX4_uncouple_51 : decode cX4_uncouple 51 = .ok (.aload_n 0, 1) := by decide +kernel
theorem dX4_uncouple_52 : decode cX4_uncouple 52 = .ok (.aload_n 0, 1) := by decide +kernel
theorem dX4_uncouple_53 : decode cX4_uncouple 53 = .ok (.iload_n 2, 1) := by decide +kernel
theorem dX4_uncouple_54 : decode cX4_uncouple 54 = .ok (.invokevirtual 170, 3) := by decide +kernel
theorem dX4_uncouple_57 : decode cX4_uncouple 57 = .ok (.invokevirtual 125, 3) := by decide +kernel
theorem dX4_uncouple_60 : decode cX4_uncouple 60 = .ok (.ireturn, 1) := by decide +kernel
theorem dX4_convoySize_0 : decode cX4_convoySize 0 = .ok (.aload_n 0, 1) := by decide +kernel
theorem dX4_convoySize_1 : decode cX4_convoySize 1 = .ok (.iload_n 1, 1) := by decide +kernel
theorem dX4_convoySize_2 : decode cX4_convoySize 2 = .ok (.invokevirtual 161, 3) := by decide +kernel
theorem dX4_convoySize_5 : decode cX4_convoySize 5 = .ok (.ifCond .eq 15, 3) := by decide +kernel
theorem dX4_convoySize_8 : decode cX4_convoySize 8 = .ok (.aload_n 0, 1) := by decide +kernel
theorem dX4_convoySize_9 : decode cX4_convoySize 9 = .ok (.aload_n 0, 1) := by decide +kernel
theorem dX4_convoySize_10 : decode cX4_convoySize 10 = .ok (.iload_n 1, 1) := by decide +kernel
theorem dX4_convoySize_11 : decode cX4_convoySize 11 = .ok (.invokevirtual 170, 3) := by decide +kernel
theorem dX4_convoySize_14 : decode cX4_convoySize 14 = .ok (.invokevirtual 125, 3) := by decide +kernel
theorem dX4_convoySize_17 : decode cX4_convoySize 17 = .ok (.goto 8, 3) := by decide +kernel
theorem dX4_convoySize_20 : decode cX4_convoySize 20 = .ok (.aload_n 0, 1) := by decide +kernel
theorem dX4_convoySize_21 : decode cX4_convoySize 21 = .ok (.iconst 1, 1) := by decide +kernel
theorem dX4_convoySize_22 : decode cX4_convoySize 22 = .ok (.invokevirtual 121, 3) := by decide +kernel
theorem dX4_convoySize_25 : decode cX4_convoySize 25 = .ok (.ireturn, 1) := by decide +kernel
theorem dX4_convoyAt_0 : decode cX4_convoyAt 0 = .ok (.aload_n 0, 1) := by decide +kernel
theorem dX4_convoyAt_1 : decode cX4_convoyAt 1 = .ok (.iload_n 1, 1) := by decide +kernel
theorem dX4_convoyAt_2 : decode cX4_convoyAt 2 = .ok (.invokevirtual 161, 3) := by decide +kernel
theorem dX4_convoyAt_5 : decode cX4_convoyAt 5 = .ok (.ifCond .ne 9, 3) := by decide +kernel
theorem dX4_convoyAt_8 : decode cX4_convoyAt 8 = .ok (.aload_n 0, 1) := by decide +kernel
theorem dX4_convoyAt_9 : decode cX4_convoyAt 9 = .ok (.iconst 1, 1) := by decide +kernel
theorem dX4_convoyAt_10 : decode cX4_convoyAt 10 = .ok (.invokevirtual 121, 3) := by decide +kernel
theorem dX4_convoyAt_13 : decode cX4_convoyAt 13 = .ok (.ireturn, 1) := by decide +kernel
theorem dX4_convoyAt_14 : decode cX4_convoyAt 14 = .ok (.iconst 0, 1) := by decide +kernel
theorem dX4_convoyAt_15 : decode cX4_convoyAt 15 = .ok (.istore_n 3, 1) := by decide +kernel
theorem dX4_convoyAt_16 : decode cX4_convoyAt 16 = .ok (.aload_n 0, 1) := by decide +kernel
theorem dX4_convoyAt_17 : decode cX4_convoyAt 17 = .ok (.iload_n 1, 1) := by decide +kernel
theorem dX4_convoyAt_18 : decode cX4_convoyAt 18 = .ok (.invokevirtual 167, 3) := by decide +kernel
theorem dX4_convoyAt_21 : decode cX4_convoyAt 21 = .ok (.istore 4, 2) := by decide +kernel
theorem dX4_convoyAt_23 : decode cX4_convoyAt 23 = .ok (.iload 4, 2) := by decide +kernel
theorem dX4_convoyAt_25 : decode cX4_convoyAt 25 = .ok (.iconst (-1), 1) := by decide +kernel
theorem dX4_convoyAt_26 : decode cX4_convoyAt 26 = .ok (.if_icmp .eq 30, 3) := by decide +kernel
theorem dX4_convoyAt_29 : decode cX4_convoyAt 29 = .ok (.iload_n 3, 1) := by decide +kernel
theorem dX4_convoyAt_30 : decode cX4_convoyAt 30 = .ok (.iload_n 2, 1) := by decide +kernel
theorem dX4_convoyAt_31 : decode cX4_convoyAt 31 = .ok (.if_icmp .ne 10, 3) := by decide +kernel
theorem dX4_convoyAt_34 : decode cX4_convoyAt 34 = .ok (.aload_n 0, 1) := by decide +kernel
theorem dX4_convoyAt_35 : decode cX4_convoyAt 35 = .ok (.iload 4, 2) := by decide +kernel
theorem dX4_convoyAt_37 : decode cX4_convoyAt 37 = .ok (.invokevirtual 125, 3) := by decide +kernel
theorem dX4_convoyAt_40 : decode cX4_convoyAt 40 = .ok (.ireturn, 1) := by decide +kernel
theorem dX4_convoyAt_41 : decode cX4_convoyAt 41 = .ok (.iinc 3 1, 3) := by decide +kernel
theorem dX4_convoyAt_44 : decode cX4_convoyAt 44 = .ok (.aload_n 0, 1) := by decide +kernel
theorem dX4_convoyAt_45 : decode cX4_convoyAt 45 = .ok (.getfield 60, 3) := by decide +kernel
theorem dX4_convoyAt_48 : decode cX4_convoyAt 48 = .ok (.iload 4, 2) := by decide +kernel
theorem dX4_convoyAt_50 : decode cX4_convoyAt 50 = .ok (.iaload, 1) := by decide +kernel
theorem dX4_convoyAt_51 : decode cX4_convoyAt 51 = .ok (.istore 4, 2) := by decide +kernel
theorem dX4_convoyAt_53 : decode cX4_convoyAt 53 = .ok (.goto (-30), 3) := by decide +kernel
theorem dX4_convoyAt_56 : decode cX4_convoyAt 56 = .ok (.aload_n 0, 1) := by decide +kernel
theorem dX4_convoyAt_57 : decode cX4_convoyAt 57 = .ok (.iconst 2, 1) := by decide +kernel
theorem dX4_convoyAt_58 : decode cX4_convoyAt 58 = .ok (.invokevirtual 121, 3) := by decide +kernel
theorem dX4_convoyAt_61 : decode cX4_convoyAt 61 = .ok (.ireturn, 1) := by decide +kernel
theorem dX4_isTooLong_0 : decode cX4_isTooLong 0 = .ok (.iconst 0, 1) := by decide +kernel
theorem dX4_isTooLong_1 : decode cX4_isTooLong 1 = .ok (.istore_n 3, 1) := by decide +kernel
theorem dX4_isTooLong_2 : decode cX4_isTooLong 2 = .ok (.aload_n 0, 1) := by decide +kernel
theorem dX4_isTooLong_3 : decode cX4_isTooLong 3 = .ok (.iload_n 1, 1) := by decide +kernel
theorem dX4_isTooLong_4 : decode cX4_isTooLong 4 = .ok (.invokevirtual 167, 3) := by decide +kernel
theorem dX4_isTooLong_7 : decode cX4_isTooLong 7 = .ok (.istore 4, 2) := by decide +kernel
theorem dX4_isTooLong_9 : decode cX4_isTooLong 9 = .ok (.iload 4, 2) := by decide +kernel
theorem dX4_isTooLong_11 : decode cX4_isTooLong 11 = .ok (.iconst (-1), 1) := by decide +kernel
theorem dX4_isTooLong_12 : decode cX4_isTooLong 12 = .ok (.if_icmp .eq 41, 3) := by decide +kernel
theorem dX4_isTooLong_15 : decode cX4_isTooLong 15 = .ok (.iload_n 3, 1) := by decide +kernel
theorem dX4_isTooLong_16 : decode cX4_isTooLong 16 = .ok (.ifCond .ne 19, 3) := by decide +kernel
theorem dX4_isTooLong_19 : decode cX4_isTooLong 19 = .ok (.aload_n 0, 1) := by decide +kernel
theorem dX4_isTooLong_20 : decode cX4_isTooLong 20 = .ok (.getfield 45, 3) := by decide +kernel
theorem dX4_isTooLong_23 : decode cX4_isTooLong 23 = .ok (.iload 4, 2) := by decide +kernel
theorem dX4_isTooLong_25 : decode cX4_isTooLong 25 = .ok (.iaload, 1) := by decide +kernel
theorem dX4_isTooLong_26 : decode cX4_isTooLong 26 = .ok (.aload_n 0, 1) := by decide +kernel
theorem dX4_isTooLong_27 : decode cX4_isTooLong 27 = .ok (.getfield 29, 3) := by decide +kernel
theorem dX4_isTooLong_30 : decode cX4_isTooLong 30 = .ok (.iload_n 2, 1) := by decide +kernel
theorem dX4_isTooLong_31 : decode cX4_isTooLong 31 = .ok (.iaload, 1) := by decide +kernel
theorem dX4_isTooLong_32 : decode cX4_isTooLong 32 = .ok (.if_icmp .le 7, 3) := by decide +kernel
theorem dX4_isTooLong_35 : decode cX4_isTooLong 35 = .ok (.iconst 1, 1) := by decide +kernel
theorem dX4_isTooLong_36 : decode cX4_isTooLong 36 = .ok (.goto 4, 3) := by decide +kernel
theorem dX4_isTooLong_39 : decode cX4_isTooLong 39 = .ok (.iconst 0, 1) := by decide +kernel
theorem dX4_isTooLong_40 : decode cX4_isTooLong 40 = .ok (.istore_n 3, 1) := by decide +kernel
theorem dX4_isTooLong_41 : decode cX4_isTooLong 41 = .ok (.aload_n 0, 1) := by decide +kernel
theorem dX4_isTooLong_42 : decode cX4_isTooLong 42 = .ok (.getfield 60, 3) := by decide +kernel
theorem dX4_isTooLong_45 : decode cX4_isTooLong 45 = .ok (.iload 4, 2) := by decide +kernel
theorem dX4_isTooLong_47 : decode cX4_isTooLong 47 = .ok (.iaload, 1) := by decide +kernel
theorem dX4_isTooLong_48 : decode cX4_isTooLong 48 = .ok (.istore 4, 2) := by decide +kernel
theorem dX4_isTooLong_50 : decode cX4_isTooLong 50 = .ok (.goto (-41), 3) := by decide +kernel
theorem dX4_isTooLong_53 : decode cX4_isTooLong 53 = .ok (.iload_n 3, 1) := by decide +kernel
theorem dX4_isTooLong_54 : decode cX4_isTooLong 54 = .ok (.ireturn, 1) := by decide +kernel
theorem dX4_endOfPart_0 : decode cX4_endOfPart 0 = .ok (.iload_n 1, 1) := by decide +kernel
theorem dX4_endOfPart_1 : decode cX4_endOfPart 1 = .ok (.istore_n 3, 1) := by decide +kernel
theorem dX4_endOfPart_2 : decode cX4_endOfPart 2 = .ok (.iconst 0, 1) := by decide +kernel
theorem dX4_endOfPart_3 : decode cX4_endOfPart 3 = .ok (.istore 4, 2) := by decide +kernel
theorem dX4_endOfPart_5 : decode cX4_endOfPart 5 = .ok (.iload_n 3, 1) := by decide +kernel
theorem dX4_endOfPart_6 : decode cX4_endOfPart 6 = .ok (.iconst (-1), 1) := by decide +kernel
theorem dX4_endOfPart_7 : decode cX4_endOfPart 7 = .ok (.if_icmp .eq 42, 3) := by decide +kernel
theorem dX4_endOfPart_10 : decode cX4_endOfPart 10 = .ok (.iload 4, 2) := by decide +kernel
theorem dX4_endOfPart_12 : decode cX4_endOfPart 12 = .ok (.aload_n 0, 1) := by decide +kernel
theorem dX4_endOfPart_13 : decode cX4_endOfPart 13 = .ok (.getfield 45, 3) := by decide +kernel
theorem dX4_endOfPart_16 : decode cX4_endOfPart 16 = .ok (.iload_n 3, 1) := by decide +kernel
theorem dX4_endOfPart_17 : decode cX4_endOfPart 17 = .ok (.iaload, 1) := by decide +kernel
theorem dX4_endOfPart_18 : decode cX4_endOfPart 18 = .ok (.iadd, 1) := by decide +kernel
theorem dX4_endOfPart_19 : decode cX4_endOfPart 19 = .ok (.aload_n 0, 1) := by decide +kernel
theorem dX4_endOfPart_20 : decode cX4_endOfPart 20 = .ok (.getfield 29, 3) := by decide +kernel
theorem dX4_endOfPart_23 : decode cX4_endOfPart 23 = .ok (.iload_n 2, 1) := by decide +kernel
theorem dX4_endOfPart_24 : decode cX4_endOfPart 24 = .ok (.iaload, 1) := by decide +kernel
theorem dX4_endOfPart_25 : decode cX4_endOfPart 25 = .ok (.if_icmp .gt 24, 3) := by decide +kernel
theorem dX4_endOfPart_28 : decode cX4_endOfPart 28 = .ok (.iload 4, 2) := by decide +kernel
theorem dX4_endOfPart_30 : decode cX4_endOfPart 30 = .ok (.aload_n 0, 1) := by decide +kernel
theorem dX4_endOfPart_31 : decode cX4_endOfPart 31 = .ok (.getfield 45, 3) := by decide +kernel
theorem dX4_endOfPart_34 : decode cX4_endOfPart 34 = .ok (.iload_n 3, 1) := by decide +kernel
theorem dX4_endOfPart_35 : decode cX4_endOfPart 35 = .ok (.iaload, 1) := by decide +kernel
theorem dX4_endOfPart_36 : decode cX4_endOfPart 36 = .ok (.iadd, 1) := by decide +kernel
theorem dX4_endOfPart_37 : decode cX4_endOfPart 37 = .ok (.istore 4, 2) := by decide +kernel
theorem dX4_endOfPart_39 : decode cX4_endOfPart 39 = .ok (.aload_n 0, 1) := by decide +kernel
theorem dX4_endOfPart_40 : decode cX4_endOfPart 40 = .ok (.getfield 60, 3) := by decide +kernel
theorem dX4_endOfPart_43 : decode cX4_endOfPart 43 = .ok (.iload_n 3, 1) := by decide +kernel
theorem dX4_endOfPart_44 : decode cX4_endOfPart 44 = .ok (.iaload, 1) := by decide +kernel
theorem dX4_endOfPart_45 : decode cX4_endOfPart 45 = .ok (.istore_n 3, 1) := by decide +kernel
theorem dX4_endOfPart_46 : decode cX4_endOfPart 46 = .ok (.goto (-41), 3) := by decide +kernel
theorem dX4_endOfPart_49 : decode cX4_endOfPart 49 = .ok (.iload_n 3, 1) := by decide +kernel
theorem dX4_endOfPart_50 : decode cX4_endOfPart 50 = .ok (.ireturn, 1) := by decide +kernel
theorem dX4_partsFor_0 : decode cX4_partsFor 0 = .ok (.aload_n 0, 1) := by decide +kernel
theorem dX4_partsFor_1 : decode cX4_partsFor 1 = .ok (.iload_n 1, 1) := by decide +kernel
theorem dX4_partsFor_2 : decode cX4_partsFor 2 = .ok (.invokevirtual 161, 3) := by decide +kernel
theorem dX4_partsFor_5 : decode cX4_partsFor 5 = .ok (.ifCond .eq 11, 3) := by decide +kernel
theorem dX4_partsFor_8 : decode cX4_partsFor 8 = .ok (.aload_n 0, 1) := by decide +kernel
theorem dX4_partsFor_9 : decode cX4_partsFor 9 = .ok (.iload_n 2, 1) := by decide +kernel
theorem dX4_partsFor_10 : decode cX4_partsFor 10 = .ok (.invokevirtual 138, 3) := by decide +kernel
theorem dX4_partsFor_13 : decode cX4_partsFor 13 = .ok (.ifCond .ne 9, 3) := by decide +kernel
theorem dX4_partsFor_16 : decode cX4_partsFor 16 = .ok (.aload_n 0, 1) := by decide +kernel
theorem dX4_partsFor_17 : decode cX4_partsFor 17 = .ok (.iconst 1, 1) := by decide +kernel
theorem dX4_partsFor_18 : decode cX4_partsFor 18 = .ok (.invokevirtual 121, 3) := by decide +kernel
theorem dX4_partsFor_21 : decode cX4_partsFor 21 = .ok (.ireturn, 1) := by decide +kernel
theorem dX4_partsFor_22 : decode cX4_partsFor 22 = .ok (.aload_n 0, 1) := by decide +kernel
theorem dX4_partsFor_23 : decode cX4_partsFor 23 = .ok (.iload_n 1, 1) := by decide +kernel
theorem dX4_partsFor_24 : decode cX4_partsFor 24 = .ok (.iload_n 2, 1) := by decide +kernel
theorem dX4_partsFor_25 : decode cX4_partsFor 25 = .ok (.invokevirtual 173, 3) := by decide +kernel
theorem dX4_partsFor_28 : decode cX4_partsFor 28 = .ok (.ifCond .eq 9, 3) := by decide +kernel
theorem dX4_partsFor_31 : decode cX4_partsFor 31 = .ok (.aload_n 0, 1) := by decide +kernel
theorem dX4_partsFor_32 : decode cX4_partsFor 32 = .ok (.iconst 2, 1) := by decide +kernel
theorem dX4_partsFor_33 : decode cX4_partsFor 33 = .ok (.invokevirtual 121, 3) := by decide +kernel
theorem dX4_partsFor_36 : decode cX4_partsFor 36 = .ok (.ireturn, 1) := by decide +kernel
theorem dX4_partsFor_37 : decode cX4_partsFor 37 = .ok (.iconst 0, 1) := by decide +kernel
theorem dX4_partsFor_38 : decode cX4_partsFor 38 = .ok (.istore_n 3, 1) := by decide +kernel
theorem dX4_partsFor_39 : decode cX4_partsFor 39 = .ok (.aload_n 0, 1) := by decide +kernel
theorem dX4_partsFor_40 : decode cX4_partsFor 40 = .ok (.iload_n 1, 1) := by decide +kernel
theorem dX4_partsFor_41 : decode cX4_partsFor 41 = .ok (.invokevirtual 167, 3) := by decide +kernel
theorem dX4_partsFor_44 : decode cX4_partsFor 44 = .ok (.istore 4, 2) := by decide +kernel
theorem dX4_partsFor_46 : decode cX4_partsFor 46 = .ok (.iload 4, 2) := by decide +kernel
theorem dX4_partsFor_48 : decode cX4_partsFor 48 = .ok (.iconst (-1), 1) := by decide +kernel
theorem dX4_partsFor_49 : decode cX4_partsFor 49 = .ok (.if_icmp .eq 18, 3) := by decide +kernel
theorem dX4_partsFor_52 : decode cX4_partsFor 52 = .ok (.iinc 3 1, 3) := by decide +kernel
theorem dX4_partsFor_55 : decode cX4_partsFor 55 = .ok (.aload_n 0, 1) := by decide +kernel
theorem dX4_partsFor_56 : decode cX4_partsFor 56 = .ok (.iload 4, 2) := by decide +kernel
theorem dX4_partsFor_58 : decode cX4_partsFor 58 = .ok (.iload_n 2, 1) := by decide +kernel
theorem dX4_partsFor_59 : decode cX4_partsFor 59 = .ok (.invokevirtual 177, 3) := by decide +kernel
theorem dX4_partsFor_62 : decode cX4_partsFor 62 = .ok (.istore 4, 2) := by decide +kernel
theorem dX4_partsFor_64 : decode cX4_partsFor 64 = .ok (.goto (-18), 3) := by decide +kernel
theorem dX4_partsFor_67 : decode cX4_partsFor 67 = .ok (.aload_n 0, 1) := by decide +kernel
theorem dX4_partsFor_68 : decode cX4_partsFor 68 = .ok (.iload_n 3, 1) := by decide +kernel
theorem dX4_partsFor_69 : decode cX4_partsFor 69 = .ok (.invokevirtual 125, 3) := by decide +kernel
theorem dX4_partsFor_72 : decode cX4_partsFor 72 = .ok (.ireturn, 1) := by decide +kernel
theorem dX4_keeps_0 : decode cX4_keeps 0 = .ok (.iconst 0, 1) := by decide +kernel
theorem dX4_keeps_1 : decode cX4_keeps 1 = .ok (.istore_n 1, 1) := by decide +kernel
theorem dX4_keeps_2 : decode cX4_keeps 2 = .ok (.iload_n 1, 1) := by decide +kernel
theorem dX4_keeps_3 : decode cX4_keeps 3 = .ok (.bipush 6, 2) := by decide +kernel
theorem dX4_keeps_5 : decode cX4_keeps 5 = .ok (.if_icmp .ge 21, 3) := by decide +kernel
theorem dX4_keeps_8 : decode cX4_keeps 8 = .ok (.aload_n 0, 1) := by decide +kernel
theorem dX4_keeps_9 : decode cX4_keeps 9 = .ok (.getfield 85, 3) := by decide +kernel
theorem dX4_keeps_12 : decode cX4_keeps 12 = .ok (.iload_n 1, 1) := by decide +kernel
theorem dX4_keeps_13 : decode cX4_keeps 13 = .ok (.aload_n 0, 1) := by decide +kernel
theorem dX4_keeps_14 : decode cX4_keeps 14 = .ok (.getfield 17, 3) := by decide +kernel
theorem dX4_keeps_17 : decode cX4_keeps 17 = .ok (.iload_n 1, 1) := by decide +kernel
theorem dX4_keeps_18 : decode cX4_keeps 18 = .ok (.iaload, 1) := by decide +kernel
theorem dX4_keeps_19 : decode cX4_keeps 19 = .ok (.iastore, 1) := by decide +kernel
theorem dX4_keeps_20 : decode cX4_keeps 20 = .ok (.iinc 1 1, 3) := by decide +kernel
theorem dX4_keeps_23 : decode cX4_keeps 23 = .ok (.goto (-21), 3) := by decide +kernel
theorem dX4_keeps_26 : decode cX4_keeps 26 = .ok (.iconst 0, 1) := by decide +kernel
theorem dX4_keeps_27 : decode cX4_keeps 27 = .ok (.istore_n 1, 1) := by decide +kernel
theorem dX4_keeps_28 : decode cX4_keeps 28 = .ok (.iload_n 1, 1) := by decide +kernel
theorem dX4_keeps_29 : decode cX4_keeps 29 = .ok (.iconst 5, 1) := by decide +kernel
theorem dX4_keeps_30 : decode cX4_keeps 30 = .ok (.if_icmp .ge 33, 3) := by decide +kernel
theorem dX4_keeps_33 : decode cX4_keeps 33 = .ok (.aload_n 0, 1) := by decide +kernel
theorem dX4_keeps_34 : decode cX4_keeps 34 = .ok (.getfield 88, 3) := by decide +kernel
theorem dX4_keeps_37 : decode cX4_keeps 37 = .ok (.iload_n 1, 1) := by decide +kernel
theorem dX4_keeps_38 : decode cX4_keeps 38 = .ok (.aload_n 0, 1) := by decide +kernel
theorem dX4_keeps_39 : decode cX4_keeps 39 = .ok (.getfield 35, 3) := by decide +kernel
theorem dX4_keeps_42 : decode cX4_keeps 42 = .ok (.iload_n 1, 1) := by decide +kernel
theorem dX4_keeps_43 : decode cX4_keeps 43 = .ok (.iaload, 1) := by decide +kernel
theorem dX4_keeps_44 : decode cX4_keeps 44 = .ok (.iastore, 1) := by decide +kernel
theorem dX4_keeps_45 : decode cX4_keeps 45 = .ok (.aload_n 0, 1) := by decide +kernel
theorem dX4_keeps_46 : decode cX4_keeps 46 = .ok (.getfield 94, 3) := by decide +kernel
theorem dX4_keeps_49 : decode cX4_keeps 49 = .ok (.iload_n 1, 1) := by decide +kernel
theorem dX4_keeps_50 : decode cX4_keeps 50 = .ok (.aload_n 0, 1) := by decide +kernel
theorem dX4_keeps_51 : decode cX4_keeps 51 = .ok (.getfield 38, 3) := by decide +kernel
theorem dX4_keeps_54 : decode cX4_keeps 54 = .ok (.iload_n 1, 1) := by decide +kernel
theorem dX4_keeps_55 : decode cX4_keeps 55 = .ok (.baload, 1) := by decide +kernel
theorem dX4_keeps_56 : decode cX4_keeps 56 = .ok (.bastore, 1) := by decide +kernel
theorem dX4_keeps_57 : decode cX4_keeps 57 = .ok (.iinc 1 1, 3) := by decide +kernel
theorem dX4_keeps_60 : decode cX4_keeps 60 = .ok (.goto (-32), 3) := by decide +kernel
theorem dX4_keeps_63 : decode cX4_keeps 63 = .ok (.iconst 0, 1) := by decide +kernel
theorem dX4_keeps_64 : decode cX4_keeps 64 = .ok (.istore_n 1, 1) := by decide +kernel
theorem dX4_keeps_65 : decode cX4_keeps 65 = .ok (.iload_n 1, 1) := by decide +kernel
theorem dX4_keeps_66 : decode cX4_keeps 66 = .ok (.bipush 8, 2) := by decide +kernel
theorem dX4_keeps_68 : decode cX4_keeps 68 = .ok (.if_icmp .ge 21, 3) := by decide +kernel
theorem dX4_keeps_71 : decode cX4_keeps 71 = .ok (.aload_n 0, 1) := by decide +kernel
theorem dX4_keeps_72 : decode cX4_keeps 72 = .ok (.getfield 91, 3) := by decide +kernel
theorem dX4_keeps_75 : decode cX4_keeps 75 = .ok (.iload_n 1, 1) := by decide +kernel
theorem dX4_keeps_76 : decode cX4_keeps 76 = .ok (.aload_n 0, 1) := by decide +kernel
theorem dX4_keeps_77 : decode cX4_keeps 77 = .ok (.getfield 42, 3) := by decide +kernel
theorem dX4_keeps_80 : decode cX4_keeps 80 = .ok (.iload_n 1, 1) := by decide +kernel
theorem dX4_keeps_81 : decode cX4_keeps 81 = .ok (.iaload, 1) := by decide +kernel
theorem dX4_keeps_82 : decode cX4_keeps 82 = .ok (.iastore, 1) := by decide +kernel
theorem dX4_keeps_83 : decode cX4_keeps 83 = .ok (.iinc 1 1, 3) := by decide +kernel
theorem dX4_keeps_86 : decode cX4_keeps 86 = .ok (.goto (-21), 3) := by decide +kernel
theorem dX4_keeps_89 : decode cX4_keeps 89 = .ok (.aload_n 0, 1) := by decide +kernel
theorem dX4_keeps_90 : decode cX4_keeps 90 = .ok (.aload_n 0, 1) := by decide +kernel
theorem dX4_keeps_91 : decode cX4_keeps 91 = .ok (.getfield 115, 3) := by decide +kernel
theorem dX4_keeps_94 : decode cX4_keeps 94 = .ok (.putfield 181, 3) := by decide +kernel
theorem dX4_keeps_97 : decode cX4_keeps 97 = .ok (.aload_n 0, 1) := by decide +kernel
theorem dX4_keeps_98 : decode cX4_keeps 98 = .ok (.aload_n 0, 1) := by decide +kernel
theorem dX4_keeps_99 : decode cX4_keeps 99 = .ok (.getfield 72, 3) := by decide +kernel
theorem dX4_keeps_102 : decode cX4_keeps 102 = .ok (.putfield 184, 3) := by decide +kernel
theorem dX4_keeps_105 : decode cX4_keeps 105 = .ok (.return_, 1) := by decide +kernel
theorem dX4_takesBack_0 : decode cX4_takesBack 0 = .ok (.iconst 0, 1) := by decide +kernel
theorem dX4_takesBack_1 : decode cX4_takesBack 1 = .ok (.istore_n 1, 1) := by decide +kernel
theorem dX4_takesBack_2 : decode cX4_takesBack 2 = .ok (.iload_n 1, 1) := by decide +kernel
theorem dX4_takesBack_3 : decode cX4_takesBack 3 = .ok (.bipush 6, 2) := by decide +kernel
theorem dX4_takesBack_5 : decode cX4_takesBack 5 = .ok (.if_icmp .ge 21, 3) := by decide +kernel
theorem dX4_takesBack_8 : decode cX4_takesBack 8 = .ok (.aload_n 0, 1) := by decide +kernel
theorem dX4_takesBack_9 : decode cX4_takesBack 9 = .ok (.getfield 17, 3) := by decide +kernel
theorem dX4_takesBack_12 : decode cX4_takesBack 12 = .ok (.iload_n 1, 1) := by decide +kernel
theorem dX4_takesBack_13 : decode cX4_takesBack 13 = .ok (.aload_n 0, 1) := by decide +kernel
theorem dX4_takesBack_14 : decode cX4_takesBack 14 = .ok (.getfield 85, 3) := by decide +kernel
theorem dX4_takesBack_17 : decode cX4_takesBack 17 = .ok (.iload_n 1, 1) := by decide +kernel
theorem dX4_takesBack_18 : decode cX4_takesBack 18 = .ok (.iaload, 1) := by decide +kernel
theorem dX4_takesBack_19 : decode cX4_takesBack 19 = .ok (.iastore, 1) := by decide +kernel
theorem dX4_takesBack_20 : decode cX4_takesBack 20 = .ok (.iinc 1 1, 3) := by decide +kernel
theorem dX4_takesBack_23 : decode cX4_takesBack 23 = .ok (.goto (-21), 3) := by decide +kernel
theorem dX4_takesBack_26 : decode cX4_takesBack 26 = .ok (.iconst 0, 1) := by decide +kernel
theorem dX4_takesBack_27 : decode cX4_takesBack 27 = .ok (.istore_n 1, 1) := by decide +kernel
theorem dX4_takesBack_28 : decode cX4_takesBack 28 = .ok (.iload_n 1, 1) := by decide +kernel
theorem dX4_takesBack_29 : decode cX4_takesBack 29 = .ok (.iconst 5, 1) := by decide +kernel
theorem dX4_takesBack_30 : decode cX4_takesBack 30 = .ok (.if_icmp .ge 33, 3) := by decide +kernel
theorem dX4_takesBack_33 : decode cX4_takesBack 33 = .ok (.aload_n 0, 1) := by decide +kernel
theorem dX4_takesBack_34 : decode cX4_takesBack 34 = .ok (.getfield 35, 3) := by decide +kernel
theorem dX4_takesBack_37 : decode cX4_takesBack 37 = .ok (.iload_n 1, 1) := by decide +kernel
theorem dX4_takesBack_38 : decode cX4_takesBack 38 = .ok (.aload_n 0, 1) := by decide +kernel
theorem dX4_takesBack_39 : decode cX4_takesBack 39 = .ok (.getfield 88, 3) := by decide +kernel
theorem dX4_takesBack_42 : decode cX4_takesBack 42 = .ok (.iload_n 1, 1) := by decide +kernel
theorem dX4_takesBack_43 : decode cX4_takesBack 43 = .ok (.iaload, 1) := by decide +kernel
theorem dX4_takesBack_44 : decode cX4_takesBack 44 = .ok (.iastore, 1) := by decide +kernel
theorem dX4_takesBack_45 : decode cX4_takesBack 45 = .ok (.aload_n 0, 1) := by decide +kernel
theorem dX4_takesBack_46 : decode cX4_takesBack 46 = .ok (.getfield 38, 3) := by decide +kernel
theorem dX4_takesBack_49 : decode cX4_takesBack 49 = .ok (.iload_n 1, 1) := by decide +kernel
theorem dX4_takesBack_50 : decode cX4_takesBack 50 = .ok (.aload_n 0, 1) := by decide +kernel
theorem dX4_takesBack_51 : decode cX4_takesBack 51 = .ok (.getfield 94, 3) := by decide +kernel
theorem dX4_takesBack_54 : decode cX4_takesBack 54 = .ok (.iload_n 1, 1) := by decide +kernel
theorem dX4_takesBack_55 : decode cX4_takesBack 55 = .ok (.baload, 1) := by decide +kernel
theorem dX4_takesBack_56 : decode cX4_takesBack 56 = .ok (.bastore, 1) := by decide +kernel
theorem dX4_takesBack_57 : decode cX4_takesBack 57 = .ok (.iinc 1 1, 3) := by decide +kernel
theorem dX4_takesBack_60 : decode cX4_takesBack 60 = .ok (.goto (-32), 3) := by decide +kernel
theorem dX4_takesBack_63 : decode cX4_takesBack 63 = .ok (.iconst 0, 1) := by decide +kernel
theorem dX4_takesBack_64 : decode cX4_takesBack 64 = .ok (.istore_n 1, 1) := by decide +kernel
theorem dX4_takesBack_65 : decode cX4_takesBack 65 = .ok (.iload_n 1, 1) := by decide +kernel
theorem dX4_takesBack_66 : decode cX4_takesBack 66 = .ok (.bipush 8, 2) := by decide +kernel
theorem dX4_takesBack_68 : decode cX4_takesBack 68 = .ok (.if_icmp .ge 21, 3) := by decide +kernel
theorem dX4_takesBack_71 : decode cX4_takesBack 71 = .ok (.aload_n 0, 1) := by decide +kernel
theorem dX4_takesBack_72 : decode cX4_takesBack 72 = .ok (.getfield 42, 3) := by decide +kernel
theorem dX4_takesBack_75 : decode cX4_takesBack 75 = .ok (.iload_n 1, 1) := by decide +kernel
theorem dX4_takesBack_76 : decode cX4_takesBack 76 = .ok (.aload_n 0, 1) := by decide +kernel
theorem dX4_takesBack_77 : decode cX4_takesBack 77 = .ok (.getfield 91, 3) := by decide +kernel
theorem dX4_takesBack_80 : decode cX4_takesBack 80 = .ok (.iload_n 1, 1) := by decide +kernel
theorem dX4_takesBack_81 : decode cX4_takesBack 81 = .ok (.iaload, 1) := by decide +kernel
theorem dX4_takesBack_82 : decode cX4_takesBack 82 = .ok (.iastore, 1) := by decide +kernel
theorem dX4_takesBack_83 : decode cX4_takesBack 83 = .ok (.iinc 1 1, 3) := by decide +kernel
theorem dX4_takesBack_86 : decode cX4_takesBack 86 = .ok (.goto (-21), 3) := by decide +kernel
theorem dX4_takesBack_89 : decode cX4_takesBack 89 = .ok (.aload_n 0, 1) := by decide +kernel
theorem dX4_takesBack_90 : decode cX4_takesBack 90 = .ok (.aload_n 0, 1) := by decide +kernel
theorem dX4_takesBack_91 : decode cX4_takesBack 91 = .ok (.getfield 181, 3) := by decide +kernel
theorem dX4_takesBack_94 : decode cX4_takesBack 94 = .ok (.putfield 115, 3) := by decide +kernel
theorem dX4_takesBack_97 : decode cX4_takesBack 97 = .ok (.aload_n 0, 1) := by decide +kernel
theorem dX4_takesBack_98 : decode cX4_takesBack 98 = .ok (.aload_n 0, 1) := by decide +kernel
theorem dX4_takesBack_99 : decode cX4_takesBack 99 = .ok (.getfield 184, 3) := by decide +kernel
theorem dX4_takesBack_102 : decode cX4_takesBack 102 = .ok (.putfield 72, 3) := by decide +kernel
theorem dX4_takesBack_105 : decode cX4_takesBack 105 = .ok (.return_, 1) := by decide +kernel
theorem dX4_refuses_0 : decode cX4_refuses 0 = .ok (.aload_n 0, 1) := by decide +kernel
theorem dX4_refuses_1 : decode cX4_refuses 1 = .ok (.iload_n 1, 1) := by decide +kernel
theorem dX4_refuses_2 : decode cX4_refuses 2 = .ok (.putfield 187, 3) := by decide +kernel
theorem dX4_refuses_5 : decode cX4_refuses 5 = .ok (.aload_n 0, 1) := by decide +kernel
theorem dX4_refuses_6 : decode cX4_refuses 6 = .ok (.iload_n 2, 1) := by decide +kernel
theorem dX4_refuses_7 : decode cX4_refuses 7 = .ok (.putfield 190, 3) := by decide +kernel
theorem dX4_refuses_10 : decode cX4_refuses 10 = .ok (.iconst 0, 1) := by decide +kernel
theorem dX4_refuses_11 : decode cX4_refuses 11 = .ok (.ireturn, 1) := by decide +kernel
theorem dX4_locks_0 : decode cX4_locks 0 = .ok (.iload_n 1, 1) := by decide +kernel
theorem dX4_locks_1 : decode cX4_locks 1 = .ok (.istore 5, 2) := by decide +kernel
theorem dX4_locks_3 : decode cX4_locks 3 = .ok (.iload 5, 2) := by decide +kernel
theorem dX4_locks_5 : decode cX4_locks 5 = .ok (.iload_n 2, 1) := by decide +kernel
theorem dX4_locks_6 : decode cX4_locks 6 = .ok (.if_icmp .eq 26, 3) := by decide +kernel
theorem dX4_locks_9 : decode cX4_locks 9 = .ok (.aload_n 0, 1) := by decide +kernel
theorem dX4_locks_10 : decode cX4_locks 10 = .ok (.iload 5, 2) := by decide +kernel
theorem dX4_locks_12 : decode cX4_locks 12 = .ok (.invokevirtual 164, 3) := by decide +kernel
theorem dX4_locks_15 : decode cX4_locks 15 = .ok (.ifCond .ne 5, 3) := by decide +kernel
theorem dX4_locks_18 : decode cX4_locks 18 = .ok (.iconst 3, 1) := by decide +kernel
theorem dX4_locks_19 : decode cX4_locks 19 = .ok (.ireturn, 1) := by decide +kernel
theorem dX4_locks_20 : decode cX4_locks 20 = .ok (.aload_n 0, 1) := by decide +kernel
theorem dX4_locks_21 : decode cX4_locks 21 = .ok (.getfield 60, 3) := by decide +kernel
theorem dX4_locks_24 : decode cX4_locks 24 = .ok (.iload 5, 2) := by decide +kernel
theorem dX4_locks_26 : decode cX4_locks 26 = .ok (.iaload, 1) := by decide +kernel
theorem dX4_locks_27 : decode cX4_locks 27 = .ok (.istore 5, 2) := by decide +kernel
theorem dX4_locks_29 : decode cX4_locks 29 = .ok (.goto (-26), 3) := by decide +kernel
theorem dX4_locks_32 : decode cX4_locks 32 = .ok (.iload 4, 2) := by decide +kernel
theorem dX4_locks_34 : decode cX4_locks 34 = .ok (.ifCond .ne 17, 3) := by decide +kernel
theorem dX4_locks_37 : decode cX4_locks 37 = .ok (.aload_n 0, 1) := by decide +kernel
theorem dX4_locks_38 : decode cX4_locks 38 = .ok (.getfield 38, 3) := by decide +kernel
theorem dX4_locks_41 : decode cX4_locks 41 = .ok (.iload_n 3, 1) := by decide +kernel
theorem dX4_locks_42 : decode cX4_locks 42 = .ok (.baload, 1) := by decide +kernel
theorem dX4_locks_43 : decode cX4_locks 43 = .ok (.ifCond .eq 8, 3) := by decide +kernel
theorem dX4_locks_46 : decode cX4_locks 46 = .ok (.aload_n 0, 1) := by decide +kernel
theorem dX4_locks_47 : decode cX4_locks 47 = .ok (.iload_n 3, 1) := by decide +kernel
theorem dX4_locks_48 : decode cX4_locks 48 = .ok (.invokevirtual 145, 3) := by decide +kernel
theorem dX4_locks_51 : decode cX4_locks 51 = .ok (.aload_n 0, 1) := by decide +kernel
theorem dX4_locks_52 : decode cX4_locks 52 = .ok (.getfield 38, 3) := by decide +kernel
theorem dX4_locks_55 : decode cX4_locks 55 = .ok (.iload_n 3, 1) := by decide +kernel
theorem dX4_locks_56 : decode cX4_locks 56 = .ok (.baload, 1) := by decide +kernel
theorem dX4_locks_57 : decode cX4_locks 57 = .ok (.ifCond .ne 20, 3) := by decide +kernel
theorem dX4_locks_60 : decode cX4_locks 60 = .ok (.aload_n 0, 1) := by decide +kernel
theorem dX4_locks_61 : decode cX4_locks 61 = .ok (.getfield 17, 3) := by decide +kernel
theorem dX4_locks_64 : decode cX4_locks 64 = .ok (.iload_n 3, 1) := by decide +kernel
theorem dX4_locks_65 : decode cX4_locks 65 = .ok (.iaload, 1) := by decide +kernel
theorem dX4_locks_66 : decode cX4_locks 66 = .ok (.aload_n 0, 1) := by decide +kernel
theorem dX4_locks_67 : decode cX4_locks 67 = .ok (.getfield 26, 3) := by decide +kernel
theorem dX4_locks_70 : decode cX4_locks 70 = .ok (.iload_n 3, 1) := by decide +kernel
theorem dX4_locks_71 : decode cX4_locks 71 = .ok (.iaload, 1) := by decide +kernel
theorem dX4_locks_72 : decode cX4_locks 72 = .ok (.if_icmp .ge 5, 3) := by decide +kernel
theorem dX4_locks_75 : decode cX4_locks 75 = .ok (.iconst 4, 1) := by decide +kernel
theorem dX4_locks_76 : decode cX4_locks 76 = .ok (.ireturn, 1) := by decide +kernel
theorem dX4_locks_77 : decode cX4_locks 77 = .ok (.aload_n 0, 1) := by decide +kernel
theorem dX4_locks_78 : decode cX4_locks 78 = .ok (.getfield 38, 3) := by decide +kernel
theorem dX4_locks_81 : decode cX4_locks 81 = .ok (.iload_n 3, 1) := by decide +kernel
theorem dX4_locks_82 : decode cX4_locks 82 = .ok (.baload, 1) := by decide +kernel
theorem dX4_locks_83 : decode cX4_locks 83 = .ok (.ifCond .ne 8, 3) := by decide +kernel
theorem dX4_locks_86 : decode cX4_locks 86 = .ok (.aload_n 0, 1) := by decide +kernel
theorem dX4_locks_87 : decode cX4_locks 87 = .ok (.iload_n 3, 1) := by decide +kernel
theorem dX4_locks_88 : decode cX4_locks 88 = .ok (.invokevirtual 149, 3) := by decide +kernel
theorem dX4_locks_91 : decode cX4_locks 91 = .ok (.iload 4, 2) := by decide +kernel
theorem dX4_locks_93 : decode cX4_locks 93 = .ok (.ifCond .eq 8, 3) := by decide +kernel
theorem dX4_locks_96 : decode cX4_locks 96 = .ok (.aload_n 0, 1) := by decide +kernel
theorem dX4_locks_97 : decode cX4_locks 97 = .ok (.iload_n 3, 1) := by decide +kernel
theorem dX4_locks_98 : decode cX4_locks 98 = .ok (.invokevirtual 145, 3) := by decide +kernel
theorem dX4_locks_101 : decode cX4_locks 101 = .ok (.iload_n 1, 1) := by decide +kernel
theorem dX4_locks_102 : decode cX4_locks 102 = .ok (.istore 5, 2) := by decide +kernel
theorem dX4_locks_104 : decode cX4_locks 104 = .ok (.iload 5, 2) := by decide +kernel
theorem dX4_locks_106 : decode cX4_locks 106 = .ok (.iload_n 2, 1) := by decide +kernel
theorem dX4_locks_107 : decode cX4_locks 107 = .ok (.if_icmp .eq 34, 3) := by decide +kernel
theorem dX4_locks_110 : decode cX4_locks 110 = .ok (.aload_n 0, 1) := by decide +kernel
theorem dX4_locks_111 : decode cX4_locks 111 = .ok (.getfield 42, 3) := by decide +kernel
theorem dX4_locks_114 : decode cX4_locks 114 = .ok (.iload 5, 2) := by decide +kernel
theorem dX4_locks_116 : decode cX4_locks 116 = .ok (.iload 4, 2) := by decide +kernel
theorem dX4_locks_118 : decode cX4_locks 118 = .ok (.ifCond .eq 9, 3) := by decide +kernel
theorem dX4_locks_121 : decode cX4_locks 121 = .ok (.iload_n 3, 1) := by decide +kernel
theorem dX4_locks_122 : decode cX4_locks 122 = .ok (.iconst 1, 1) := by decide +kernel
theorem dX4_locks_123 : decode cX4_locks 123 = .ok (.iadd, 1) := by decide +kernel
theorem dX4_locks_124 : decode cX4_locks 124 = .ok (.goto 4, 3) := by decide +kernel
theorem dX4_locks_127 : decode cX4_locks 127 = .ok (.iload_n 3, 1) := by decide +kernel
theorem dX4_locks_128 : decode cX4_locks 128 = .ok (.iastore, 1) := by decide +kernel
theorem dX4_locks_129 : decode cX4_locks 129 = .ok (.aload_n 0, 1) := by decide +kernel
theorem dX4_locks_130 : decode cX4_locks 130 = .ok (.getfield 60, 3) := by decide +kernel
theorem dX4_locks_133 : decode cX4_locks 133 = .ok (.iload 5, 2) := by decide +kernel
theorem dX4_locks_135 : decode cX4_locks 135 = .ok (.iaload, 1) := by decide +kernel
theorem dX4_locks_136 : decode cX4_locks 136 = .ok (.istore 5, 2) := by decide +kernel
theorem dX4_locks_138 : decode cX4_locks 138 = .ok (.goto (-34), 3) := by decide +kernel
theorem dX4_locks_141 : decode cX4_locks 141 = .ok (.iload_n 1, 1) := by decide +kernel
theorem dX4_locks_142 : decode cX4_locks 142 = .ok (.istore 5, 2) := by decide +kernel
theorem dX4_locks_144 : decode cX4_locks 144 = .ok (.iload 5, 2) := by decide +kernel
theorem dX4_locks_146 : decode cX4_locks 146 = .ok (.iload_n 2, 1) := by decide +kernel
theorem dX4_locks_147 : decode cX4_locks 147 = .ok (.if_icmp .eq 26, 3) := by decide +kernel
theorem dX4_locks_150 : decode cX4_locks 150 = .ok (.aload_n 0, 1) := by decide +kernel
theorem dX4_locks_151 : decode cX4_locks 151 = .ok (.iload 5, 2) := by decide +kernel
theorem dX4_locks_153 : decode cX4_locks 153 = .ok (.invokevirtual 164, 3) := by decide +kernel
theorem dX4_locks_156 : decode cX4_locks 156 = .ok (.ifCond .ne 5, 3) := by decide +kernel
theorem dX4_locks_159 : decode cX4_locks 159 = .ok (.iconst 5, 1) := by decide +kernel
theorem dX4_locks_160 : decode cX4_locks 160 = .ok (.ireturn, 1) := by decide +kernel
theorem dX4_locks_161 : decode cX4_locks 161 = .ok (.aload_n 0, 1) := by decide +kernel
theorem dX4_locks_162 : decode cX4_locks 162 = .ok (.getfield 60, 3) := by decide +kernel
theorem dX4_locks_165 : decode cX4_locks 165 = .ok (.iload 5, 2) := by decide +kernel
theorem dX4_locks_167 : decode cX4_locks 167 = .ok (.iaload, 1) := by decide +kernel
theorem dX4_locks_168 : decode cX4_locks 168 = .ok (.istore 5, 2) := by decide +kernel
theorem dX4_locks_170 : decode cX4_locks 170 = .ok (.goto (-26), 3) := by decide +kernel
theorem dX4_locks_173 : decode cX4_locks 173 = .ok (.iconst 0, 1) := by decide +kernel
theorem dX4_locks_174 : decode cX4_locks 174 = .ok (.ireturn, 1) := by decide +kernel
theorem dX4_passes_0 : decode cX4_passes 0 = .ok (.iload_n 2, 1) := by decide +kernel
theorem dX4_passes_1 : decode cX4_passes 1 = .ok (.ifCond .eq 12, 3) := by decide +kernel
theorem dX4_passes_4 : decode cX4_passes 4 = .ok (.aload_n 0, 1) := by decide +kernel
theorem dX4_passes_5 : decode cX4_passes 5 = .ok (.getfield 42, 3) := by decide +kernel
theorem dX4_passes_8 : decode cX4_passes 8 = .ok (.iload_n 1, 1) := by decide +kernel
theorem dX4_passes_9 : decode cX4_passes 9 = .ok (.iaload, 1) := by decide +kernel
theorem dX4_passes_10 : decode cX4_passes 10 = .ok (.goto 11, 3) := by decide +kernel
theorem dX4_passes_13 : decode cX4_passes 13 = .ok (.aload_n 0, 1) := by decide +kernel
theorem dX4_passes_14 : decode cX4_passes 14 = .ok (.getfield 42, 3) := by decide +kernel
theorem dX4_passes_17 : decode cX4_passes 17 = .ok (.iload_n 1, 1) := by decide +kernel
theorem dX4_passes_18 : decode cX4_passes 18 = .ok (.iaload, 1) := by decide +kernel
theorem dX4_passes_19 : decode cX4_passes 19 = .ok (.iconst 1, 1) := by decide +kernel
theorem dX4_passes_20 : decode cX4_passes 20 = .ok (.isub, 1) := by decide +kernel
theorem dX4_passes_21 : decode cX4_passes 21 = .ok (.istore_n 3, 1) := by decide +kernel
theorem dX4_passes_22 : decode cX4_passes 22 = .ok (.aload_n 0, 1) := by decide +kernel
theorem dX4_passes_23 : decode cX4_passes 23 = .ok (.iload_n 1, 1) := by decide +kernel
theorem dX4_passes_24 : decode cX4_passes 24 = .ok (.iload_n 3, 1) := by decide +kernel
theorem dX4_passes_25 : decode cX4_passes 25 = .ok (.invokevirtual 173, 3) := by decide +kernel
theorem dX4_passes_28 : decode cX4_passes 28 = .ok (.ifCond .eq 10, 3) := by decide +kernel
theorem dX4_passes_31 : decode cX4_passes 31 = .ok (.aload_n 0, 1) := by decide +kernel
theorem dX4_passes_32 : decode cX4_passes 32 = .ok (.iconst 1, 1) := by decide +kernel
theorem dX4_passes_33 : decode cX4_passes 33 = .ok (.iload_n 3, 1) := by decide +kernel
theorem dX4_passes_34 : decode cX4_passes 34 = .ok (.invokevirtual 193, 3) := by decide +kernel
theorem dX4_passes_37 : decode cX4_passes 37 = .ok (.ireturn, 1) := by decide +kernel
theorem dX4_passes_38 : decode cX4_passes 38 = .ok (.aload_n 0, 1) := by decide +kernel
theorem dX4_passes_39 : decode cX4_passes 39 = .ok (.iload_n 1, 1) := by decide +kernel
theorem dX4_passes_40 : decode cX4_passes 40 = .ok (.invokevirtual 167, 3) := by decide +kernel
theorem dX4_passes_43 : decode cX4_passes 43 = .ok (.istore 4, 2) := by decide +kernel
theorem dX4_passes_45 : decode cX4_passes 45 = .ok (.iload 4, 2) := by decide +kernel
theorem dX4_passes_47 : decode cX4_passes 47 = .ok (.iconst (-1), 1) := by decide +kernel
theorem dX4_passes_48 : decode cX4_passes 48 = .ok (.if_icmp .eq 37, 3) := by decide +kernel
theorem dX4_passes_51 : decode cX4_passes 51 = .ok (.aload_n 0, 1) := by decide +kernel
theorem dX4_passes_52 : decode cX4_passes 52 = .ok (.iload 4, 2) := by decide +kernel
theorem dX4_passes_54 : decode cX4_passes 54 = .ok (.invokevirtual 158, 3) := by decide +kernel
theorem dX4_passes_57 : decode cX4_passes 57 = .ok (.aload_n 0, 1) := by decide +kernel
theorem dX4_passes_58 : decode cX4_passes 58 = .ok (.getfield 32, 3) := by decide +kernel
theorem dX4_passes_61 : decode cX4_passes 61 = .ok (.iload_n 3, 1) := by decide +kernel
theorem dX4_passes_62 : decode cX4_passes 62 = .ok (.iaload, 1) := by decide +kernel
theorem dX4_passes_63 : decode cX4_passes 63 = .ok (.if_icmp .le 10, 3) := by decide +kernel
theorem dX4_passes_66 : decode cX4_passes 66 = .ok (.aload_n 0, 1) := by decide +kernel
theorem dX4_passes_67 : decode cX4_passes 67 = .ok (.iconst 2, 1) := by decide +kernel
theorem dX4_passes_68 : decode cX4_passes 68 = .ok (.iload_n 3, 1) := by decide +kernel
theorem dX4_passes_69 : decode cX4_passes 69 = .ok (.invokevirtual 193, 3) := by decide +kernel
theorem dX4_passes_72 : decode cX4_passes 72 = .ok (.ireturn, 1) := by decide +kernel
theorem dX4_passes_73 : decode cX4_passes 73 = .ok (.aload_n 0, 1) := by decide +kernel
theorem dX4_passes_74 : decode cX4_passes 74 = .ok (.getfield 60, 3) := by decide +kernel
theorem dX4_passes_77 : decode cX4_passes 77 = .ok (.iload 4, 2) := by decide +kernel
theorem dX4_passes_79 : decode cX4_passes 79 = .ok (.iaload, 1) := by decide +kernel
theorem dX4_passes_80 : decode cX4_passes 80 = .ok (.istore 4, 2) := by decide +kernel
theorem dX4_passes_82 : decode cX4_passes 82 = .ok (.goto (-37), 3) := by decide +kernel
theorem dX4_passes_85 : decode cX4_passes 85 = .ok (.iconst 0, 1) := by decide +kernel
theorem dX4_passes_86 : decode cX4_passes 86 = .ok (.istore 4, 2) := by decide +kernel
theorem dX4_passes_88 : decode cX4_passes 88 = .ok (.aload_n 0, 1) := by decide +kernel
theorem dX4_passes_89 : decode cX4_passes 89 = .ok (.iload_n 1, 1) := by decide +kernel
theorem dX4_passes_90 : decode cX4_passes 90 = .ok (.invokevirtual 167, 3) := by decide +kernel
theorem dX4_passes_93 : decode cX4_passes 93 = .ok (.istore 5, 2) := by decide +kernel
theorem dX4_passes_95 : decode cX4_passes 95 = .ok (.iload 5, 2) := by decide +kernel
theorem dX4_passes_97 : decode cX4_passes 97 = .ok (.iconst (-1), 1) := by decide +kernel
theorem dX4_passes_98 : decode cX4_passes 98 = .ok (.if_icmp .eq 48, 3) := by decide +kernel
theorem dX4_passes_101 : decode cX4_passes 101 = .ok (.aload_n 0, 1) := by decide +kernel
theorem dX4_passes_102 : decode cX4_passes 102 = .ok (.iload 5, 2) := by decide +kernel
theorem dX4_passes_104 : decode cX4_passes 104 = .ok (.aload_n 0, 1) := by decide +kernel
theorem dX4_passes_105 : decode cX4_passes 105 = .ok (.iload 5, 2) := by decide +kernel
theorem dX4_passes_107 : decode cX4_passes 107 = .ok (.iload_n 3, 1) := by decide +kernel
theorem dX4_passes_108 : decode cX4_passes 108 = .ok (.invokevirtual 177, 3) := by decide +kernel
theorem dX4_passes_111 : decode cX4_passes 111 = .ok (.iload_n 3, 1) := by decide +kernel
theorem dX4_passes_112 : decode cX4_passes 112 = .ok (.iload_n 2, 1) := by decide +kernel
theorem dX4_passes_113 : decode cX4_passes 113 = .ok (.invokevirtual 196, 3) := by decide +kernel
theorem dX4_passes_116 : decode cX4_passes 116 = .ok (.istore 6, 2) := by decide +kernel
theorem dX4_passes_118 : decode cX4_passes 118 = .ok (.iload 6, 2) := by decide +kernel
theorem dX4_passes_120 : decode cX4_passes 120 = .ok (.ifCond .eq 11, 3) := by decide +kernel
theorem dX4_passes_123 : decode cX4_passes 123 = .ok (.aload_n 0, 1) := by decide +kernel
theorem dX4_passes_124 : decode cX4_passes 124 = .ok (.iload 6, 2) := by decide +kernel
theorem dX4_passes_126 : decode cX4_passes 126 = .ok (.iload_n 3, 1) := by decide +kernel
theorem dX4_passes_127 : decode cX4_passes 127 = .ok (.invokevirtual 193, 3) := by decide +kernel
theorem dX4_passes_130 : decode cX4_passes 130 = .ok (.ireturn, 1) := by decide +kernel
theorem dX4_passes_131 : decode cX4_passes 131 = .ok (.iinc 4 1, 3) := by decide +kernel
theorem dX4_passes_134 : decode cX4_passes 134 = .ok (.aload_n 0, 1) := by decide +kernel
theorem dX4_passes_135 : decode cX4_passes 135 = .ok (.iload 5, 2) := by decide +kernel
theorem dX4_passes_137 : decode cX4_passes 137 = .ok (.iload_n 3, 1) := by decide +kernel
theorem dX4_passes_138 : decode cX4_passes 138 = .ok (.invokevirtual 177, 3) := by decide +kernel
theorem dX4_passes_141 : decode cX4_passes 141 = .ok (.istore 5, 2) := by decide +kernel
theorem dX4_passes_143 : decode cX4_passes 143 = .ok (.goto (-48), 3) := by decide +kernel
theorem dX4_passes_146 : decode cX4_passes 146 = .ok (.iload 4, 2) := by decide +kernel
theorem dX4_passes_148 : decode cX4_passes 148 = .ok (.ireturn, 1) := by decide +kernel
theorem dX4_sails_0 : decode cX4_sails 0 = .ok (.iconst 0, 1) := by decide +kernel
theorem dX4_sails_1 : decode cX4_sails 1 = .ok (.istore_n 3, 1) := by decide +kernel
theorem dX4_sails_2 : decode cX4_sails 2 = .ok (.aload_n 0, 1) := by decide +kernel
theorem dX4_sails_3 : decode cX4_sails 3 = .ok (.getfield 42, 3) := by decide +kernel
theorem dX4_sails_6 : decode cX4_sails 6 = .ok (.iload_n 1, 1) := by decide +kernel
theorem dX4_sails_7 : decode cX4_sails 7 = .ok (.iaload, 1) := by decide +kernel
theorem dX4_sails_8 : decode cX4_sails 8 = .ok (.iload_n 2, 1) := by decide +kernel
theorem dX4_sails_9 : decode cX4_sails 9 = .ok (.if_icmp .eq 40, 3) := by decide +kernel
theorem dX4_sails_12 : decode cX4_sails 12 = .ok (.aload_n 0, 1) := by decide +kernel
theorem dX4_sails_13 : decode cX4_sails 13 = .ok (.iload_n 1, 1) := by decide +kernel
theorem dX4_sails_14 : decode cX4_sails 14 = .ok (.aload_n 0, 1) := by decide +kernel
theorem dX4_sails_15 : decode cX4_sails 15 = .ok (.getfield 42, 3) := by decide +kernel
theorem dX4_sails_18 : decode cX4_sails 18 = .ok (.iload_n 1, 1) := by decide +kernel
theorem dX4_sails_19 : decode cX4_sails 19 = .ok (.iaload, 1) := by decide +kernel
theorem dX4_sails_20 : decode cX4_sails 20 = .ok (.iload_n 2, 1) := by decide +kernel
theorem dX4_sails_21 : decode cX4_sails 21 = .ok (.if_icmp .ge 7, 3) := by decide +kernel
theorem dX4_sails_24 : decode cX4_sails 24 = .ok (.iconst 1, 1) := by decide +kernel
theorem dX4_sails_25 : decode cX4_sails 25 = .ok (.goto 4, 3) := by decide +kernel
theorem dX4_sails_28 : decode cX4_sails 28 = .ok (.iconst 0, 1) := by decide +kernel
theorem dX4_sails_29 : decode cX4_sails 29 = .ok (.invokevirtual 200, 3) := by decide +kernel
theorem dX4_sails_32 : decode cX4_sails 32 = .ok (.istore 4, 2) := by decide +kernel
theorem dX4_sails_34 : decode cX4_sails 34 = .ok (.iload 4, 2) := by decide +kernel
theorem dX4_sails_36 : decode cX4_sails 36 = .ok (.ifCond .ne 5, 3) := by decide +kernel
theorem dX4_sails_39 : decode cX4_sails 39 = .ok (.iconst 0, 1) := by decide +kernel
theorem dX4_sails_40 : decode cX4_sails 40 = .ok (.ireturn, 1) := by decide +kernel
theorem dX4_sails_41 : decode cX4_sails 41 = .ok (.iload_n 3, 1) := by decide +kernel
theorem dX4_sails_42 : decode cX4_sails 42 = .ok (.iload 4, 2) := by decide +kernel
theorem dX4_sails_44 : decode cX4_sails 44 = .ok (.iadd, 1) := by decide +kernel
theorem dX4_sails_45 : decode cX4_sails 45 = .ok (.istore_n 3, 1) := by decide +kernel
theorem dX4_sails_46 : decode cX4_sails 46 = .ok (.goto (-44), 3) := by decide +kernel
theorem dX4_sails_49 : decode cX4_sails 49 = .ok (.iload_n 3, 1) := by decide +kernel
theorem dX4_sails_50 : decode cX4_sails 50 = .ok (.ireturn, 1) := by decide +kernel
theorem dX4_ends_0 : decode cX4_ends 0 = .ok (.iload_n 1, 1) := by decide +kernel
theorem dX4_ends_1 : decode cX4_ends 1 = .ok (.ifCond .le 9, 3) := by decide +kernel
theorem dX4_ends_4 : decode cX4_ends 4 = .ok (.aload_n 0, 1) := by decide +kernel
theorem dX4_ends_5 : decode cX4_ends 5 = .ok (.iload_n 1, 1) := by decide +kernel
theorem dX4_ends_6 : decode cX4_ends 6 = .ok (.invokevirtual 125, 3) := by decide +kernel
theorem dX4_ends_9 : decode cX4_ends 9 = .ok (.ireturn, 1) := by decide +kernel
theorem dX4_ends_10 : decode cX4_ends 10 = .ok (.aload_n 0, 1) := by decide +kernel
theorem dX4_ends_11 : decode cX4_ends 11 = .ok (.invokevirtual 204, 3) := by decide +kernel
theorem dX4_ends_14 : decode cX4_ends 14 = .ok (.aload_n 0, 1) := by decide +kernel
theorem dX4_ends_15 : decode cX4_ends 15 = .ok (.aload_n 0, 1) := by decide +kernel
theorem dX4_ends_16 : decode cX4_ends 16 = .ok (.getfield 187, 3) := by decide +kernel
theorem dX4_ends_19 : decode cX4_ends 19 = .ok (.putfield 207, 3) := by decide +kernel
theorem dX4_ends_22 : decode cX4_ends 22 = .ok (.aload_n 0, 1) := by decide +kernel
theorem dX4_ends_23 : decode cX4_ends 23 = .ok (.aload_n 0, 1) := by decide +kernel
theorem dX4_ends_24 : decode cX4_ends 24 = .ok (.getfield 190, 3) := by decide +kernel
theorem dX4_ends_27 : decode cX4_ends 27 = .ok (.putfield 210, 3) := by decide +kernel
theorem dX4_ends_30 : decode cX4_ends 30 = .ok (.aload_n 0, 1) := by decide +kernel
theorem dX4_ends_31 : decode cX4_ends 31 = .ok (.iload_n 2, 1) := by decide +kernel
theorem dX4_ends_32 : decode cX4_ends 32 = .ok (.invokevirtual 121, 3) := by decide +kernel
theorem dX4_ends_35 : decode cX4_ends 35 = .ok (.ireturn, 1) := by decide +kernel
theorem dX4_pass_0 : decode cX4_pass 0 = .ok (.aload_n 0, 1) := by decide +kernel
theorem dX4_pass_1 : decode cX4_pass 1 = .ok (.iload_n 1, 1) := by decide +kernel
theorem dX4_pass_2 : decode cX4_pass 2 = .ok (.invokevirtual 161, 3) := by decide +kernel
theorem dX4_pass_5 : decode cX4_pass 5 = .ok (.ifCond .ne 9, 3) := by decide +kernel
theorem dX4_pass_8 : decode cX4_pass 8 = .ok (.aload_n 0, 1) := by decide +kernel
theorem dX4_pass_9 : decode cX4_pass 9 = .ok (.iconst 1, 1) := by decide +kernel
theorem dX4_pass_10 : decode cX4_pass 10 = .ok (.invokevirtual 121, 3) := by decide +kernel
theorem dX4_pass_13 : decode cX4_pass 13 = .ok (.ireturn, 1) := by decide +kernel
theorem dX4_pass_14 : decode cX4_pass 14 = .ok (.aload_n 0, 1) := by decide +kernel
theorem dX4_pass_15 : decode cX4_pass 15 = .ok (.getfield 42, 3) := by decide +kernel
theorem dX4_pass_18 : decode cX4_pass 18 = .ok (.iload_n 1, 1) := by decide +kernel
theorem dX4_pass_19 : decode cX4_pass 19 = .ok (.iaload, 1) := by decide +kernel
theorem dX4_pass_20 : decode cX4_pass 20 = .ok (.iload_n 2, 1) := by decide +kernel
theorem dX4_pass_21 : decode cX4_pass 21 = .ok (.ifCond .eq 12, 3) := by decide +kernel
theorem dX4_pass_24 : decode cX4_pass 24 = .ok (.aload_n 0, 1) := by decide +kernel
theorem dX4_pass_25 : decode cX4_pass 25 = .ok (.getfield 7, 3) := by decide +kernel
theorem dX4_pass_28 : decode cX4_pass 28 = .ok (.iconst 1, 1) := by decide +kernel
theorem dX4_pass_29 : decode cX4_pass 29 = .ok (.isub, 1) := by decide +kernel
theorem dX4_pass_30 : decode cX4_pass 30 = .ok (.goto 4, 3) := by decide +kernel
theorem dX4_pass_33 : decode cX4_pass 33 = .ok (.iconst 0, 1) := by decide +kernel
theorem dX4_pass_34 : decode cX4_pass 34 = .ok (.if_icmp .ne 9, 3) := by decide +kernel
theorem dX4_pass_37 : decode cX4_pass 37 = .ok (.aload_n 0, 1) := by decide +kernel
theorem dX4_pass_38 : decode cX4_pass 38 = .ok (.iconst 2, 1) := by decide +kernel
theorem dX4_pass_39 : decode cX4_pass 39 = .ok (.invokevirtual 121, 3) := by decide +kernel
theorem dX4_pass_42 : decode cX4_pass 42 = .ok (.ireturn, 1) := by decide +kernel
theorem dX4_pass_43 : decode cX4_pass 43 = .ok (.aload_n 0, 1) := by decide +kernel
theorem dX4_pass_44 : decode cX4_pass 44 = .ok (.invokevirtual 213, 3) := by decide +kernel
theorem dX4_pass_47 : decode cX4_pass 47 = .ok (.aload_n 0, 1) := by decide +kernel
theorem dX4_pass_48 : decode cX4_pass 48 = .ok (.aload_n 0, 1) := by decide +kernel
theorem dX4_pass_49 : decode cX4_pass 49 = .ok (.iload_n 1, 1) := by decide +kernel
theorem dX4_pass_50 : decode cX4_pass 50 = .ok (.iload_n 2, 1) := by decide +kernel
theorem dX4_pass_51 : decode cX4_pass 51 = .ok (.invokevirtual 200, 3) := by decide +kernel
theorem dX4_pass_54 : decode cX4_pass 54 = .ok (.iconst 3, 1) := by decide +kernel
theorem dX4_pass_55 : decode cX4_pass 55 = .ok (.invokevirtual 216, 3) := by decide +kernel
theorem dX4_pass_58 : decode cX4_pass 58 = .ok (.ireturn, 1) := by decide +kernel
theorem dX4_voyage_0 : decode cX4_voyage 0 = .ok (.aload_n 0, 1) := by decide +kernel
theorem dX4_voyage_1 : decode cX4_voyage 1 = .ok (.iload_n 1, 1) := by decide +kernel
theorem dX4_voyage_2 : decode cX4_voyage 2 = .ok (.invokevirtual 161, 3) := by decide +kernel
theorem dX4_voyage_5 : decode cX4_voyage 5 = .ok (.ifCond .eq 11, 3) := by decide +kernel
theorem dX4_voyage_8 : decode cX4_voyage 8 = .ok (.aload_n 0, 1) := by decide +kernel
theorem dX4_voyage_9 : decode cX4_voyage 9 = .ok (.iload_n 2, 1) := by decide +kernel
theorem dX4_voyage_10 : decode cX4_voyage 10 = .ok (.invokevirtual 128, 3) := by decide +kernel
theorem dX4_voyage_13 : decode cX4_voyage 13 = .ok (.ifCond .ne 9, 3) := by decide +kernel
theorem dX4_voyage_16 : decode cX4_voyage 16 = .ok (.aload_n 0, 1) := by decide +kernel
theorem dX4_voyage_17 : decode cX4_voyage 17 = .ok (.iconst 1, 1) := by decide +kernel
theorem dX4_voyage_18 : decode cX4_voyage 18 = .ok (.invokevirtual 121, 3) := by decide +kernel
theorem dX4_voyage_21 : decode cX4_voyage 21 = .ok (.ireturn, 1) := by decide +kernel
theorem dX4_voyage_22 : decode cX4_voyage 22 = .ok (.aload_n 0, 1) := by decide +kernel
theorem dX4_voyage_23 : decode cX4_voyage 23 = .ok (.getfield 42, 3) := by decide +kernel
theorem dX4_voyage_26 : decode cX4_voyage 26 = .ok (.iload_n 1, 1) := by decide +kernel
theorem dX4_voyage_27 : decode cX4_voyage 27 = .ok (.iaload, 1) := by decide +kernel
theorem dX4_voyage_28 : decode cX4_voyage 28 = .ok (.iload_n 2, 1) := by decide +kernel
theorem dX4_voyage_29 : decode cX4_voyage 29 = .ok (.if_icmp .ne 9, 3) := by decide +kernel
theorem dX4_voyage_32 : decode cX4_voyage 32 = .ok (.aload_n 0, 1) := by decide +kernel
theorem dX4_voyage_33 : decode cX4_voyage 33 = .ok (.iconst 2, 1) := by decide +kernel
theorem dX4_voyage_34 : decode cX4_voyage 34 = .ok (.invokevirtual 121, 3) := by decide +kernel
theorem dX4_voyage_37 : decode cX4_voyage 37 = .ok (.ireturn, 1) := by decide +kernel
theorem dX4_voyage_38 : decode cX4_voyage 38 = .ok (.aload_n 0, 1) := by decide +kernel
theorem dX4_voyage_39 : decode cX4_voyage 39 = .ok (.invokevirtual 213, 3) := by decide +kernel
theorem dX4_voyage_42 : decode cX4_voyage 42 = .ok (.aload_n 0, 1) := by decide +kernel
theorem dX4_voyage_43 : decode cX4_voyage 43 = .ok (.aload_n 0, 1) := by decide +kernel
theorem dX4_voyage_44 : decode cX4_voyage 44 = .ok (.iload_n 1, 1) := by decide +kernel
theorem dX4_voyage_45 : decode cX4_voyage 45 = .ok (.iload_n 2, 1) := by decide +kernel
theorem dX4_voyage_46 : decode cX4_voyage 46 = .ok (.invokevirtual 219, 3) := by decide +kernel
theorem dX4_voyage_49 : decode cX4_voyage 49 = .ok (.iconst 3, 1) := by decide +kernel
theorem dX4_voyage_50 : decode cX4_voyage 50 = .ok (.invokevirtual 216, 3) := by decide +kernel
theorem dX4_voyage_53 : decode cX4_voyage 53 = .ok (.ireturn, 1) := by decide +kernel
theorem dX4_can_0 : decode cX4_can 0 = .ok (.aload_n 0, 1) := by decide +kernel
theorem dX4_can_1 : decode cX4_can 1 = .ok (.getfield 42, 3) := by decide +kernel
theorem dX4_can_4 : decode cX4_can 4 = .ok (.iload_n 1, 1) := by decide +kernel
theorem dX4_can_5 : decode cX4_can 5 = .ok (.iaload, 1) := by decide +kernel
theorem dX4_can_6 : decode cX4_can 6 = .ok (.iload_n 2, 1) := by decide +kernel
theorem dX4_can_7 : decode cX4_can 7 = .ok (.if_icmp .ne 5, 3) := by decide +kernel
theorem dX4_can_10 : decode cX4_can 10 = .ok (.iconst 1, 1) := by decide +kernel
theorem dX4_can_11 : decode cX4_can 11 = .ok (.ireturn, 1) := by decide +kernel
theorem dX4_can_12 : decode cX4_can 12 = .ok (.aload_n 0, 1) := by decide +kernel
theorem dX4_can_13 : decode cX4_can 13 = .ok (.invokevirtual 213, 3) := by decide +kernel
theorem dX4_can_16 : decode cX4_can 16 = .ok (.aload_n 0, 1) := by decide +kernel
theorem dX4_can_17 : decode cX4_can 17 = .ok (.iload_n 1, 1) := by decide +kernel
theorem dX4_can_18 : decode cX4_can 18 = .ok (.iload_n 2, 1) := by decide +kernel
theorem dX4_can_19 : decode cX4_can 19 = .ok (.invokevirtual 219, 3) := by decide +kernel
theorem dX4_can_22 : decode cX4_can 22 = .ok (.istore_n 3, 1) := by decide +kernel
theorem dX4_can_23 : decode cX4_can 23 = .ok (.aload_n 0, 1) := by decide +kernel
theorem dX4_can_24 : decode cX4_can 24 = .ok (.invokevirtual 204, 3) := by decide +kernel
theorem dX4_can_27 : decode cX4_can 27 = .ok (.iload_n 3, 1) := by decide +kernel
theorem dX4_can_28 : decode cX4_can 28 = .ok (.ifCond .le 7, 3) := by decide +kernel
theorem dX4_can_31 : decode cX4_can 31 = .ok (.iconst 1, 1) := by decide +kernel
theorem dX4_can_32 : decode cX4_can 32 = .ok (.goto 4, 3) := by decide +kernel
theorem dX4_can_35 : decode cX4_can 35 = .ok (.iconst 0, 1) := by decide +kernel
theorem dX4_can_36 : decode cX4_can 36 = .ok (.ireturn, 1) := by decide +kernel
theorem dX4_isPossible_0 : decode cX4_isPossible 0 = .ok (.aload_n 0, 1) := by decide +kernel
theorem dX4_isPossible_1 : decode cX4_isPossible 1 = .ok (.iload_n 1, 1) := by decide +kernel
theorem dX4_isPossible_2 : decode cX4_isPossible 2 = .ok (.invokevirtual 161, 3) := by decide +kernel
theorem dX4_isPossible_5 : decode cX4_isPossible 5 = .ok (.ifCond .eq 15, 3) := by decide +kernel
theorem dX4_isPossible_8 : decode cX4_isPossible 8 = .ok (.aload_n 0, 1) := by decide +kernel
theorem dX4_isPossible_9 : decode cX4_isPossible 9 = .ok (.iload_n 2, 1) := by decide +kernel
theorem dX4_isPossible_10 : decode cX4_isPossible 10 = .ok (.invokevirtual 128, 3) := by decide +kernel
theorem dX4_isPossible_13 : decode cX4_isPossible 13 = .ok (.ifCond .eq 7, 3) := by decide +kernel
theorem dX4_isPossible_16 : decode cX4_isPossible 16 = .ok (.iconst 1, 1) := by decide +kernel
theorem dX4_isPossible_17 : decode cX4_isPossible 17 = .ok (.goto 4, 3) := by decide +kernel
theorem dX4_isPossible_20 : decode cX4_isPossible 20 = .ok (.iconst 0, 1) := by decide +kernel
theorem dX4_isPossible_21 : decode cX4_isPossible 21 = .ok (.istore_n 3, 1) := by decide +kernel
theorem dX4_isPossible_22 : decode cX4_isPossible 22 = .ok (.aload_n 0, 1) := by decide +kernel
theorem dX4_isPossible_23 : decode cX4_isPossible 23 = .ok (.iload_n 3, 1) := by decide +kernel
theorem dX4_isPossible_24 : decode cX4_isPossible 24 = .ok (.ifCond .eq 7, 3) := by decide +kernel
theorem dX4_isPossible_27 : decode cX4_isPossible 27 = .ok (.iconst 0, 1) := by decide +kernel
theorem dX4_isPossible_28 : decode cX4_isPossible 28 = .ok (.goto 4, 3) := by decide +kernel
theorem dX4_isPossible_31 : decode cX4_isPossible 31 = .ok (.iconst 1, 1) := by decide +kernel
theorem dX4_isPossible_32 : decode cX4_isPossible 32 = .ok (.iload_n 3, 1) := by decide +kernel
theorem dX4_isPossible_33 : decode cX4_isPossible 33 = .ok (.ifCond .eq 16, 3) := by decide +kernel
theorem dX4_isPossible_36 : decode cX4_isPossible 36 = .ok (.aload_n 0, 1) := by decide +kernel
theorem dX4_isPossible_37 : decode cX4_isPossible 37 = .ok (.iload_n 1, 1) := by decide +kernel
theorem dX4_isPossible_38 : decode cX4_isPossible 38 = .ok (.iload_n 2, 1) := by decide +kernel
theorem dX4_isPossible_39 : decode cX4_isPossible 39 = .ok (.invokevirtual 222, 3) := by decide +kernel
theorem dX4_isPossible_42 : decode cX4_isPossible 42 = .ok (.ifCond .eq 7, 3) := by decide +kernel
theorem dX4_isPossible_45 : decode cX4_isPossible 45 = .ok (.iconst 1, 1) := by decide +kernel
theorem dX4_isPossible_46 : decode cX4_isPossible 46 = .ok (.goto 4, 3) := by decide +kernel
theorem dX4_isPossible_49 : decode cX4_isPossible 49 = .ok (.iconst 0, 1) := by decide +kernel
theorem dX4_isPossible_50 : decode cX4_isPossible 50 = .ok (.invokevirtual 141, 3) := by decide +kernel
theorem dX4_isPossible_53 : decode cX4_isPossible 53 = .ok (.ireturn, 1) := by decide +kernel
theorem dX4_allThrough_0 : decode cX4_allThrough 0 = .ok (.iconst 0, 1) := by decide +kernel
theorem dX4_allThrough_1 : decode cX4_allThrough 1 = .ok (.istore_n 1, 1) := by decide +kernel
theorem dX4_allThrough_2 : decode cX4_allThrough 2 = .ok (.iconst 0, 1) := by decide +kernel
theorem dX4_allThrough_3 : decode cX4_allThrough 3 = .ok (.istore_n 2, 1) := by decide +kernel
theorem dX4_allThrough_4 : decode cX4_allThrough 4 = .ok (.iload_n 2, 1) := by decide +kernel
theorem dX4_allThrough_5 : decode cX4_allThrough 5 = .ok (.iconst 5, 1) := by decide +kernel
theorem dX4_allThrough_6 : decode cX4_allThrough 6 = .ok (.if_icmp .ge 18, 3) := by decide +kernel
theorem dX4_allThrough_9 : decode cX4_allThrough 9 = .ok (.iload_n 1, 1) := by decide +kernel
theorem dX4_allThrough_10 : decode cX4_allThrough 10 = .ok (.aload_n 0, 1) := by decide +kernel
theorem dX4_allThrough_11 : decode cX4_allThrough 11 = .ok (.getfield 35, 3) := by decide +kernel
theorem dX4_allThrough_14 : decode cX4_allThrough 14 = .ok (.iload_n 2, 1) := by decide +kernel
theorem dX4_allThrough_15 : decode cX4_allThrough 15 = .ok (.iaload, 1) := by decide +kernel
theorem dX4_allThrough_16 : decode cX4_allThrough 16 = .ok (.iadd, 1) := by decide +kernel
theorem dX4_allThrough_17 : decode cX4_allThrough 17 = .ok (.istore_n 1, 1) := by decide +kernel
theorem dX4_allThrough_18 : decode cX4_allThrough 18 = .ok (.iinc 2 1, 3) := by decide +kernel
theorem dX4_allThrough_21 : decode cX4_allThrough 21 = .ok (.goto (-17), 3) := by decide +kernel
theorem dX4_allThrough_24 : decode cX4_allThrough 24 = .ok (.iload_n 1, 1) := by decide +kernel
theorem dX4_allThrough_25 : decode cX4_allThrough 25 = .ok (.ireturn, 1) := by decide +kernel
theorem dX4_waterFor_0 : decode cX4_waterFor 0 = .ok (.aload_n 0, 1) := by decide +kernel
theorem dX4_waterFor_1 : decode cX4_waterFor 1 = .ok (.iload_n 1, 1) := by decide +kernel
theorem dX4_waterFor_2 : decode cX4_waterFor 2 = .ok (.invokevirtual 161, 3) := by decide +kernel
theorem dX4_waterFor_5 : decode cX4_waterFor 5 = .ok (.ifCond .eq 11, 3) := by decide +kernel
theorem dX4_waterFor_8 : decode cX4_waterFor 8 = .ok (.aload_n 0, 1) := by decide +kernel
theorem dX4_waterFor_9 : decode cX4_waterFor 9 = .ok (.iload_n 2, 1) := by decide +kernel
theorem dX4_waterFor_10 : decode cX4_waterFor 10 = .ok (.invokevirtual 128, 3) := by decide +kernel
theorem dX4_waterFor_13 : decode cX4_waterFor 13 = .ok (.ifCond .ne 9, 3) := by decide +kernel
theorem dX4_waterFor_16 : decode cX4_waterFor 16 = .ok (.aload_n 0, 1) := by decide +kernel
theorem dX4_waterFor_17 : decode cX4_waterFor 17 = .ok (.iconst 1, 1) := by decide +kernel
theorem dX4_waterFor_18 : decode cX4_waterFor 18 = .ok (.invokevirtual 121, 3) := by decide +kernel
theorem dX4_waterFor_21 : decode cX4_waterFor 21 = .ok (.ireturn, 1) := by decide +kernel
theorem dX4_waterFor_22 : decode cX4_waterFor 22 = .ok (.aload_n 0, 1) := by decide +kernel
theorem dX4_waterFor_23 : decode cX4_waterFor 23 = .ok (.invokevirtual 225, 3) := by decide +kernel
theorem dX4_waterFor_26 : decode cX4_waterFor 26 = .ok (.istore_n 3, 1) := by decide +kernel
theorem dX4_waterFor_27 : decode cX4_waterFor 27 = .ok (.aload_n 0, 1) := by decide +kernel
theorem dX4_waterFor_28 : decode cX4_waterFor 28 = .ok (.getfield 42, 3) := by decide +kernel
theorem dX4_waterFor_31 : decode cX4_waterFor 31 = .ok (.iload_n 1, 1) := by decide +kernel
theorem dX4_waterFor_32 : decode cX4_waterFor 32 = .ok (.iaload, 1) := by decide +kernel
theorem dX4_waterFor_33 : decode cX4_waterFor 33 = .ok (.iload_n 2, 1) := by decide +kernel
theorem dX4_waterFor_34 : decode cX4_waterFor 34 = .ok (.if_icmp .ne 7, 3) := by decide +kernel
theorem dX4_waterFor_37 : decode cX4_waterFor 37 = .ok (.iconst 1, 1) := by decide +kernel
theorem dX4_waterFor_38 : decode cX4_waterFor 38 = .ok (.goto 4, 3) := by decide +kernel
theorem dX4_waterFor_41 : decode cX4_waterFor 41 = .ok (.iconst 0, 1) := by decide +kernel
theorem dX4_waterFor_42 : decode cX4_waterFor 42 = .ok (.istore 4, 2) := by decide +kernel
theorem dX4_waterFor_44 : decode cX4_waterFor 44 = .ok (.aload_n 0, 1) := by decide +kernel
theorem dX4_waterFor_45 : decode cX4_waterFor 45 = .ok (.invokevirtual 213, 3) := by decide +kernel
theorem dX4_waterFor_48 : decode cX4_waterFor 48 = .ok (.aload_n 0, 1) := by decide +kernel
theorem dX4_waterFor_49 : decode cX4_waterFor 49 = .ok (.iload_n 1, 1) := by decide +kernel
theorem dX4_waterFor_50 : decode cX4_waterFor 50 = .ok (.iload_n 2, 1) := by decide +kernel
theorem dX4_waterFor_51 : decode cX4_waterFor 51 = .ok (.invokevirtual 219, 3) := by decide +kernel
theorem dX4_waterFor_54 : decode cX4_waterFor 54 = .ok (.istore 5, 2) := by decide +kernel
theorem dX4_waterFor_56 : decode cX4_waterFor 56 = .ok (.aload_n 0, 1) := by decide +kernel
theorem dX4_waterFor_57 : decode cX4_waterFor 57 = .ok (.invokevirtual 225, 3) := by decide +kernel
theorem dX4_waterFor_60 : decode cX4_waterFor 60 = .ok (.iload_n 3, 1) := by decide +kernel
theorem dX4_waterFor_61 : decode cX4_waterFor 61 = .ok (.isub, 1) := by decide +kernel
theorem dX4_waterFor_62 : decode cX4_waterFor 62 = .ok (.istore 6, 2) := by decide +kernel
theorem dX4_waterFor_64 : decode cX4_waterFor 64 = .ok (.aload_n 0, 1) := by decide +kernel
theorem dX4_waterFor_65 : decode cX4_waterFor 65 = .ok (.invokevirtual 204, 3) := by decide +kernel
theorem dX4_waterFor_68 : decode cX4_waterFor 68 = .ok (.iload 4, 2) := by decide +kernel
theorem dX4_waterFor_70 : decode cX4_waterFor 70 = .ok (.ifCond .ne 8, 3) := by decide +kernel
theorem dX4_waterFor_73 : decode cX4_waterFor 73 = .ok (.iload 5, 2) := by decide +kernel
theorem dX4_waterFor_75 : decode cX4_waterFor 75 = .ok (.ifCond .le 12, 3) := by decide +kernel
theorem dX4_waterFor_78 : decode cX4_waterFor 78 = .ok (.aload_n 0, 1) := by decide +kernel
theorem dX4_waterFor_79 : decode cX4_waterFor 79 = .ok (.iload 6, 2) := by decide +kernel
theorem dX4_waterFor_81 : decode cX4_waterFor 81 = .ok (.invokevirtual 125, 3) := by decide +kernel
theorem dX4_waterFor_84 : decode cX4_waterFor 84 = .ok (.goto 8, 3) := by decide +kernel
theorem dX4_waterFor_87 : decode cX4_waterFor 87 = .ok (.aload_n 0, 1) := by decide +kernel
theorem dX4_waterFor_88 : decode cX4_waterFor 88 = .ok (.iconst 2, 1) := by decide +kernel
theorem dX4_waterFor_89 : decode cX4_waterFor 89 = .ok (.invokevirtual 121, 3) := by decide +kernel
theorem dX4_waterFor_92 : decode cX4_waterFor 92 = .ok (.ireturn, 1) := by decide +kernel
theorem dX4_refusalReason_0 : decode cX4_refusalReason 0 = .ok (.aload_n 0, 1) := by decide +kernel
theorem dX4_refusalReason_1 : decode cX4_refusalReason 1 = .ok (.getfield 207, 3) := by decide +kernel
theorem dX4_refusalReason_4 : decode cX4_refusalReason 4 = .ok (.ifCond .ne 11, 3) := by decide +kernel
theorem dX4_refusalReason_7 : decode cX4_refusalReason 7 = .ok (.aload_n 0, 1) := by decide +kernel
theorem dX4_refusalReason_8 : decode cX4_refusalReason 8 = .ok (.iconst 1, 1) := by decide +kernel
theorem dX4_refusalReason_9 : decode cX4_refusalReason 9 = .ok (.invokevirtual 121, 3) := by decide +kernel
theorem dX4_refusalReason_12 : decode cX4_refusalReason 12 = .ok (.goto 11, 3) := by decide +kernel
theorem dX4_refusalReason_15 : decode cX4_refusalReason 15 = .ok (.aload_n 0, 1) := by decide +kernel
theorem dX4_refusalReason_16 : decode cX4_refusalReason 16 = .ok (.aload_n 0, 1) := by decide +kernel
theorem dX4_refusalReason_17 : decode cX4_refusalReason 17 = .ok (.getfield 207, 3) := by decide +kernel
theorem dX4_refusalReason_20 : decode cX4_refusalReason 20 = .ok (.invokevirtual 125, 3) := by decide +kernel
theorem dX4_refusalReason_23 : decode cX4_refusalReason 23 = .ok (.ireturn, 1) := by decide +kernel
theorem dX4_refusalLock_0 : decode cX4_refusalLock 0 = .ok (.aload_n 0, 1) := by decide +kernel
theorem dX4_refusalLock_1 : decode cX4_refusalLock 1 = .ok (.getfield 207, 3) := by decide +kernel
theorem dX4_refusalLock_4 : decode cX4_refusalLock 4 = .ok (.ifCond .ne 11, 3) := by decide +kernel
theorem dX4_refusalLock_7 : decode cX4_refusalLock 7 = .ok (.aload_n 0, 1) := by decide +kernel
theorem dX4_refusalLock_8 : decode cX4_refusalLock 8 = .ok (.iconst 1, 1) := by decide +kernel
theorem dX4_refusalLock_9 : decode cX4_refusalLock 9 = .ok (.invokevirtual 121, 3) := by decide +kernel
theorem dX4_refusalLock_12 : decode cX4_refusalLock 12 = .ok (.goto 11, 3) := by decide +kernel
theorem dX4_refusalLock_15 : decode cX4_refusalLock 15 = .ok (.aload_n 0, 1) := by decide +kernel
theorem dX4_refusalLock_16 : decode cX4_refusalLock 16 = .ok (.aload_n 0, 1) := by decide +kernel
theorem dX4_refusalLock_17 : decode cX4_refusalLock 17 = .ok (.getfield 210, 3) := by decide +kernel
theorem dX4_refusalLock_20 : decode cX4_refusalLock 20 = .ok (.invokevirtual 125, 3) := by decide +kernel
theorem dX4_refusalLock_23 : decode cX4_refusalLock 23 = .ok (.ireturn, 1) := by decide +kernel
theorem dX4_priceIn_0 : decode cX4_priceIn 0 = .ok (.aload_n 0, 1) := by decide +kernel
theorem dX4_priceIn_1 : decode cX4_priceIn 1 = .ok (.iload_n 1, 1) := by decide +kernel
theorem dX4_priceIn_2 : decode cX4_priceIn 2 = .ok (.invokevirtual 128, 3) := by decide +kernel
theorem dX4_priceIn_5 : decode cX4_priceIn 5 = .ok (.ifCond .eq 16, 3) := by decide +kernel
theorem dX4_priceIn_8 : decode cX4_priceIn 8 = .ok (.aload_n 0, 1) := by decide +kernel
theorem dX4_priceIn_9 : decode cX4_priceIn 9 = .ok (.aload_n 0, 1) := by decide +kernel
theorem dX4_priceIn_10 : decode cX4_priceIn 10 = .ok (.getfield 23, 3) := by decide +kernel
theorem dX4_priceIn_13 : decode cX4_priceIn 13 = .ok (.iload_n 1, 1) := by decide +kernel
theorem dX4_priceIn_14 : decode cX4_priceIn 14 = .ok (.iaload, 1) := by decide +kernel
theorem dX4_priceIn_15 : decode cX4_priceIn 15 = .ok (.invokevirtual 125, 3) := by decide +kernel
theorem dX4_priceIn_18 : decode cX4_priceIn 18 = .ok (.goto 8, 3) := by decide +kernel
theorem dX4_priceIn_21 : decode cX4_priceIn 21 = .ok (.aload_n 0, 1) := by decide +kernel
theorem dX4_priceIn_22 : decode cX4_priceIn 22 = .ok (.iconst 1, 1) := by decide +kernel
theorem dX4_priceIn_23 : decode cX4_priceIn 23 = .ok (.invokevirtual 121, 3) := by decide +kernel
theorem dX4_priceIn_26 : decode cX4_priceIn 26 = .ok (.ireturn, 1) := by decide +kernel
theorem dX4_money_0 : decode cX4_money 0 = .ok (.aload_n 0, 1) := by decide +kernel
theorem dX4_money_1 : decode cX4_money 1 = .ok (.iconst 0, 1) := by decide +kernel
theorem dX4_money_2 : decode cX4_money 2 = .ok (.putfield 101, 3) := by decide +kernel
theorem dX4_money_5 : decode cX4_money 5 = .ok (.aload_n 0, 1) := by decide +kernel
theorem dX4_money_6 : decode cX4_money 6 = .ok (.getfield 65, 3) := by decide +kernel
theorem dX4_money_9 : decode cX4_money 9 = .ok (.lreturn, 1) := by decide +kernel
theorem dX4_has_0 : decode cX4_has 0 = .ok (.aload_n 0, 1) := by decide +kernel
theorem dX4_has_1 : decode cX4_has 1 = .ok (.iload_n 1, 1) := by decide +kernel
theorem dX4_has_2 : decode cX4_has 2 = .ok (.putfield 101, 3) := by decide +kernel
theorem dX4_has_5 : decode cX4_has 5 = .ok (.iload_n 1, 1) := by decide +kernel
theorem dX4_has_6 : decode cX4_has 6 = .ok (.ifCond .ne 10, 3) := by decide +kernel
theorem dX4_has_9 : decode cX4_has 9 = .ok (.aload_n 0, 1) := by decide +kernel
theorem dX4_has_10 : decode cX4_has 10 = .ok (.getfield 65, 3) := by decide +kernel
theorem dX4_has_13 : decode cX4_has 13 = .ok (.goto 4, 3) := by decide +kernel
theorem dX4_has_16 : decode cX4_has 16 = .ok (.lconst 0, 1) := by decide +kernel
theorem dX4_has_17 : decode cX4_has 17 = .ok (.lreturn, 1) := by decide +kernel
theorem dX4_buy_0 : decode cX4_buy 0 = .ok (.aload_n 0, 1) := by decide +kernel
theorem dX4_buy_1 : decode cX4_buy 1 = .ok (.iload_n 1, 1) := by decide +kernel
theorem dX4_buy_2 : decode cX4_buy 2 = .ok (.invokevirtual 161, 3) := by decide +kernel
theorem dX4_buy_5 : decode cX4_buy 5 = .ok (.ifCond .ne 9, 3) := by decide +kernel
theorem dX4_buy_8 : decode cX4_buy 8 = .ok (.aload_n 0, 1) := by decide +kernel
theorem dX4_buy_9 : decode cX4_buy 9 = .ok (.iconst 1, 1) := by decide +kernel
theorem dX4_buy_10 : decode cX4_buy 10 = .ok (.invokevirtual 229, 3) := by decide +kernel
theorem dX4_buy_13 : decode cX4_buy 13 = .ok (.lreturn, 1) := by decide +kernel
theorem dX4_buy_14 : decode cX4_buy 14 = .ok (.iload_n 2, 1) := by decide +kernel
theorem dX4_buy_15 : decode cX4_buy 15 = .ok (.iconst 1, 1) := by decide +kernel
theorem dX4_buy_16 : decode cX4_buy 16 = .ok (.sipush 999, 3) := by decide +kernel
theorem dX4_buy_19 : decode cX4_buy 19 = .ok (.invokestatic 104, 3) := by decide +kernel
theorem dX4_buy_22 : decode cX4_buy 22 = .ok (.ifCond .ne 9, 3) := by decide +kernel
theorem dX4_buy_25 : decode cX4_buy 25 = .ok (.aload_n 0, 1) := by decide +kernel
theorem dX4_buy_26 : decode cX4_buy 26 = .ok (.iconst 2, 1) := by decide +kernel
theorem dX4_buy_27 : decode cX4_buy 27 = .ok (.invokevirtual 229, 3) := by decide +kernel
theorem dX4_buy_30 : decode cX4_buy 30 = .ok (.lreturn, 1) := by decide +kernel
theorem dX4_buy_31 : decode cX4_buy 31 = .ok (.aload_n 0, 1) := by decide +kernel
theorem dX4_buy_32 : decode cX4_buy 32 = .ok (.getfield 54, 3) := by decide +kernel
theorem dX4_buy_35 : decode cX4_buy 35 = .ok (.iload_n 1, 1) := by decide +kernel
theorem dX4_buy_36 : decode cX4_buy 36 = .ok (.dup2, 1) := by decide +kernel
theorem dX4_buy_37 : decode cX4_buy 37 = .ok (.iaload, 1) := by decide +kernel
theorem dX4_buy_38 : decode cX4_buy 38 = .ok (.iload_n 2, 1) := by decide +kernel
theorem dX4_buy_39 : decode cX4_buy 39 = .ok (.iadd, 1) := by decide +kernel
theorem dX4_buy_40 : decode cX4_buy 40 = .ok (.iastore, 1) := by decide +kernel
theorem dX4_buy_41 : decode cX4_buy 41 = .ok (.aload_n 0, 1) := by decide +kernel
theorem dX4_buy_42 : decode cX4_buy 42 = .ok (.iload_n 1, 1) := by decide +kernel
theorem dX4_buy_43 : decode cX4_buy 43 = .ok (.invokevirtual 164, 3) := by decide +kernel
theorem dX4_buy_46 : decode cX4_buy 46 = .ok (.istore_n 3, 1) := by decide +kernel
theorem dX4_buy_47 : decode cX4_buy 47 = .ok (.aload_n 0, 1) := by decide +kernel
theorem dX4_buy_48 : decode cX4_buy 48 = .ok (.getfield 54, 3) := by decide +kernel
theorem dX4_buy_51 : decode cX4_buy 51 = .ok (.iload_n 1, 1) := by decide +kernel
theorem dX4_buy_52 : decode cX4_buy 52 = .ok (.dup2, 1) := by decide +kernel
theorem dX4_buy_53 : decode cX4_buy 53 = .ok (.iaload, 1) := by decide +kernel
theorem dX4_buy_54 : decode cX4_buy 54 = .ok (.iload_n 2, 1) := by decide +kernel
theorem dX4_buy_55 : decode cX4_buy 55 = .ok (.isub, 1) := by decide +kernel
theorem dX4_buy_56 : decode cX4_buy 56 = .ok (.iastore, 1) := by decide +kernel
theorem dX4_buy_57 : decode cX4_buy 57 = .ok (.iload_n 2, 1) := by decide +kernel
theorem dX4_buy_58 : decode cX4_buy 58 = .ok (.i2l, 1) := by decide +kernel
theorem dX4_buy_59 : decode cX4_buy 59 = .ok (.aload_n 0, 1) := by decide +kernel
theorem dX4_buy_60 : decode cX4_buy 60 = .ok (.getfield 23, 3) := by decide +kernel
theorem dX4_buy_63 : decode cX4_buy 63 = .ok (.aload_n 0, 1) := by decide +kernel
theorem dX4_buy_64 : decode cX4_buy 64 = .ok (.getfield 42, 3) := by decide +kernel
theorem dX4_buy_67 : decode cX4_buy 67 = .ok (.iload_n 1, 1) := by decide +kernel
theorem dX4_buy_68 : decode cX4_buy 68 = .ok (.iaload, 1) := by decide +kernel
theorem dX4_buy_69 : decode cX4_buy 69 = .ok (.iaload, 1) := by decide +kernel
theorem dX4_buy_70 : decode cX4_buy 70 = .ok (.i2l, 1) := by decide +kernel
theorem dX4_buy_71 : decode cX4_buy 71 = .ok (.lmul, 1) := by decide +kernel
theorem dX4_buy_72 : decode cX4_buy 72 = .ok (.lstore 4, 2) := by decide +kernel
theorem dX4_buy_74 : decode cX4_buy 74 = .ok (.iload_n 3, 1) := by decide +kernel
theorem dX4_buy_75 : decode cX4_buy 75 = .ok (.ifCond .eq 13, 3) := by decide +kernel
theorem dX4_buy_78 : decode cX4_buy 78 = .ok (.lload 4, 2) := by decide +kernel
theorem dX4_buy_80 : decode cX4_buy 80 = .ok (.aload_n 0, 1) := by decide +kernel
theorem dX4_buy_81 : decode cX4_buy 81 = .ok (.getfield 65, 3) := by decide +kernel
theorem dX4_buy_84 : decode cX4_buy 84 = .ok (.lcmp, 1) := by decide +kernel
theorem dX4_buy_85 : decode cX4_buy 85 = .ok (.ifCond .le 17, 3) := by decide +kernel
theorem dX4_buy_88 : decode cX4_buy 88 = .ok (.aload_n 0, 1) := by decide +kernel
theorem dX4_buy_89 : decode cX4_buy 89 = .ok (.iload_n 3, 1) := by decide +kernel
theorem dX4_buy_90 : decode cX4_buy 90 = .ok (.ifCond .eq 7, 3) := by decide +kernel
theorem dX4_buy_93 : decode cX4_buy 93 = .ok (.iconst 4, 1) := by decide +kernel
theorem dX4_buy_94 : decode cX4_buy 94 = .ok (.goto 4, 3) := by decide +kernel
theorem dX4_buy_97 : decode cX4_buy 97 = .ok (.iconst 3, 1) := by decide +kernel
theorem dX4_buy_98 : decode cX4_buy 98 = .ok (.invokevirtual 229, 3) := by decide +kernel
theorem dX4_buy_101 : decode cX4_buy 101 = .ok (.lreturn, 1) := by decide +kernel
theorem dX4_buy_102 : decode cX4_buy 102 = .ok (.aload_n 0, 1) := by decide +kernel
theorem dX4_buy_103 : decode cX4_buy 103 = .ok (.getfield 54, 3) := by decide +kernel
theorem dX4_buy_106 : decode cX4_buy 106 = .ok (.iload_n 1, 1) := by decide +kernel
theorem dX4_buy_107 : decode cX4_buy 107 = .ok (.dup2, 1) := by decide +kernel
theorem dX4_buy_108 : decode cX4_buy 108 = .ok (.iaload, 1) := by decide +kernel
theorem dX4_buy_109 : decode cX4_buy 109 = .ok (.iload_n 2, 1) := by decide +kernel
theorem dX4_buy_110 : decode cX4_buy 110 = .ok (.iadd, 1) := by decide +kernel
theorem dX4_buy_111 : decode cX4_buy 111 = .ok (.iastore, 1) := by decide +kernel
theorem dX4_buy_112 : decode cX4_buy 112 = .ok (.aload_n 0, 1) := by decide +kernel
theorem dX4_buy_113 : decode cX4_buy 113 = .ok (.dup, 1) := by decide +kernel
theorem dX4_buy_114 : decode cX4_buy 114 = .ok (.getfield 65, 3) := by decide +kernel
theorem dX4_buy_117 : decode cX4_buy 117 = .ok (.lload 4, 2) := by decide +kernel
theorem dX4_buy_119 : decode cX4_buy 119 = .ok (.lsub, 1) := by decide +kernel
theorem dX4_buy_120 : decode cX4_buy 120 = .ok (.putfield 65, 3) := by decide +kernel
theorem dX4_buy_123 : decode cX4_buy 123 = .ok (.aload_n 0, 1) := by decide +kernel
theorem dX4_buy_124 : decode cX4_buy 124 = .ok (.iconst 0, 1) := by decide +kernel
theorem dX4_buy_125 : decode cX4_buy 125 = .ok (.invokevirtual 229, 3) := by decide +kernel
theorem dX4_buy_128 : decode cX4_buy 128 = .ok (.lreturn, 1) := by decide +kernel
theorem dX4_sells_0 : decode cX4_sells 0 = .ok (.aload_n 0, 1) := by decide +kernel
theorem dX4_sells_1 : decode cX4_sells 1 = .ok (.getfield 54, 3) := by decide +kernel
theorem dX4_sells_4 : decode cX4_sells 4 = .ok (.iload_n 1, 1) := by decide +kernel
theorem dX4_sells_5 : decode cX4_sells 5 = .ok (.dup2, 1) := by decide +kernel
theorem dX4_sells_6 : decode cX4_sells 6 = .ok (.iaload, 1) := by decide +kernel
theorem dX4_sells_7 : decode cX4_sells 7 = .ok (.iload_n 2, 1) := by decide +kernel
theorem dX4_sells_8 : decode cX4_sells 8 = .ok (.isub, 1) := by decide +kernel
theorem dX4_sells_9 : decode cX4_sells 9 = .ok (.iastore, 1) := by decide +kernel
theorem dX4_sells_10 : decode cX4_sells 10 = .ok (.aload_n 0, 1) := by decide +kernel
theorem dX4_sells_11 : decode cX4_sells 11 = .ok (.dup, 1) := by decide +kernel
theorem dX4_sells_12 : decode cX4_sells 12 = .ok (.getfield 65, 3) := by decide +kernel
theorem dX4_sells_15 : decode cX4_sells 15 = .ok (.iload_n 2, 1) := by decide +kernel
theorem dX4_sells_16 : decode cX4_sells 16 = .ok (.i2l, 1) := by decide +kernel
theorem dX4_sells_17 : decode cX4_sells 17 = .ok (.aload_n 0, 1) := by decide +kernel
theorem dX4_sells_18 : decode cX4_sells 18 = .ok (.getfield 23, 3) := by decide +kernel
theorem dX4_sells_21 : decode cX4_sells 21 = .ok (.aload_n 0, 1) := by decide +kernel
theorem dX4_sells_22 : decode cX4_sells 22 = .ok (.getfield 42, 3) := by decide +kernel
theorem dX4_sells_25 : decode cX4_sells 25 = .ok (.iload_n 1, 1) := by decide +kernel
theorem dX4_sells_26 : decode cX4_sells 26 = .ok (.iaload, 1) := by decide +kernel
theorem dX4_sells_27 : decode cX4_sells 27 = .ok (.iaload, 1) := by decide +kernel
theorem dX4_sells_28 : decode cX4_sells 28 = .ok (.i2l, 1) := by decide +kernel
theorem dX4_sells_29 : decode cX4_sells 29 = .ok (.lmul, 1) := by decide +kernel
theorem dX4_sells_30 : decode cX4_sells 30 = .ok (.ladd, 1) := by decide +kernel
theorem dX4_sells_31 : decode cX4_sells 31 = .ok (.putfield 65, 3) := by decide +kernel
theorem dX4_sells_34 : decode cX4_sells 34 = .ok (.return_, 1) := by decide +kernel
theorem dX4_sell_0 : decode cX4_sell 0 = .ok (.aload_n 0, 1) := by decide +kernel
theorem dX4_sell_1 : decode cX4_sell 1 = .ok (.iload_n 1, 1) := by decide +kernel
theorem dX4_sell_2 : decode cX4_sell 2 = .ok (.invokevirtual 161, 3) := by decide +kernel
theorem dX4_sell_5 : decode cX4_sell 5 = .ok (.ifCond .ne 9, 3) := by decide +kernel
theorem dX4_sell_8 : decode cX4_sell 8 = .ok (.aload_n 0, 1) := by decide +kernel
theorem dX4_sell_9 : decode cX4_sell 9 = .ok (.iconst 1, 1) := by decide +kernel
theorem dX4_sell_10 : decode cX4_sell 10 = .ok (.invokevirtual 229, 3) := by decide +kernel
theorem dX4_sell_13 : decode cX4_sell 13 = .ok (.lreturn, 1) := by decide +kernel
theorem dX4_sell_14 : decode cX4_sell 14 = .ok (.iload_n 2, 1) := by decide +kernel
theorem dX4_sell_15 : decode cX4_sell 15 = .ok (.iconst 1, 1) := by decide +kernel
theorem dX4_sell_16 : decode cX4_sell 16 = .ok (.sipush 999, 3) := by decide +kernel
theorem dX4_sell_19 : decode cX4_sell 19 = .ok (.invokestatic 104, 3) := by decide +kernel
theorem dX4_sell_22 : decode cX4_sell 22 = .ok (.ifCond .ne 9, 3) := by decide +kernel
theorem dX4_sell_25 : decode cX4_sell 25 = .ok (.aload_n 0, 1) := by decide +kernel
theorem dX4_sell_26 : decode cX4_sell 26 = .ok (.iconst 2, 1) := by decide +kernel
theorem dX4_sell_27 : decode cX4_sell 27 = .ok (.invokevirtual 229, 3) := by decide +kernel
theorem dX4_sell_30 : decode cX4_sell 30 = .ok (.lreturn, 1) := by decide +kernel
theorem dX4_sell_31 : decode cX4_sell 31 = .ok (.aload_n 0, 1) := by decide +kernel
theorem dX4_sell_32 : decode cX4_sell 32 = .ok (.getfield 54, 3) := by decide +kernel
theorem dX4_sell_35 : decode cX4_sell 35 = .ok (.iload_n 1, 1) := by decide +kernel
theorem dX4_sell_36 : decode cX4_sell 36 = .ok (.iaload, 1) := by decide +kernel
theorem dX4_sell_37 : decode cX4_sell 37 = .ok (.iload_n 2, 1) := by decide +kernel
theorem dX4_sell_38 : decode cX4_sell 38 = .ok (.if_icmp .ge 9, 3) := by decide +kernel
theorem dX4_sell_41 : decode cX4_sell 41 = .ok (.aload_n 0, 1) := by decide +kernel
theorem dX4_sell_42 : decode cX4_sell 42 = .ok (.iconst 3, 1) := by decide +kernel
theorem dX4_sell_43 : decode cX4_sell 43 = .ok (.invokevirtual 229, 3) := by decide +kernel
theorem dX4_sell_46 : decode cX4_sell 46 = .ok (.lreturn, 1) := by decide +kernel
theorem dX4_sell_47 : decode cX4_sell 47 = .ok (.aload_n 0, 1) := by decide +kernel
theorem dX4_sell_48 : decode cX4_sell 48 = .ok (.iload_n 1, 1) := by decide +kernel
theorem dX4_sell_49 : decode cX4_sell 49 = .ok (.iload_n 2, 1) := by decide +kernel
theorem dX4_sell_50 : decode cX4_sell 50 = .ok (.invokevirtual 233, 3) := by decide +kernel
theorem dX4_sell_53 : decode cX4_sell 53 = .ok (.aload_n 0, 1) := by decide +kernel
theorem dX4_sell_54 : decode cX4_sell 54 = .ok (.iconst 0, 1) := by decide +kernel
theorem dX4_sell_55 : decode cX4_sell 55 = .ok (.invokevirtual 229, 3) := by decide +kernel
theorem dX4_sell_58 : decode cX4_sell 58 = .ok (.lreturn, 1) := by decide +kernel
theorem dX4_sellToDraught_0 : decode cX4_sellToDraught 0 = .ok (.aload_n 0, 1) := by decide +kernel
theorem dX4_sellToDraught_1 : decode cX4_sellToDraught 1 = .ok (.iload_n 1, 1) := by decide +kernel
theorem dX4_sellToDraught_2 : decode cX4_sellToDraught 2 = .ok (.invokevirtual 161, 3) := by decide +kernel
theorem dX4_sellToDraught_5 : decode cX4_sellToDraught 5 = .ok (.ifCond .ne 9, 3) := by decide +kernel
theorem dX4_sellToDraught_8 : decode cX4_sellToDraught 8 = .ok (.aload_n 0, 1) := by decide +kernel
theorem dX4_sellToDraught_9 : decode cX4_sellToDraught 9 = .ok (.iconst 1, 1) := by decide +kernel
theorem dX4_sellToDraught_10 : decode cX4_sellToDraught 10 = .ok (.invokevirtual 121, 3) := by decide +kernel
theorem dX4_sellToDraught_13 : decode cX4_sellToDraught 13 = .ok (.ireturn, 1) := by decide +kernel
theorem dX4_sellToDraught_14 : decode cX4_sellToDraught 14 = .ok (.iload_n 2, 1) := by decide +kernel
theorem dX4_sellToDraught_15 : decode cX4_sellToDraught 15 = .ok (.iconst 1, 1) := by decide +kernel
theorem dX4_sellToDraught_16 : decode cX4_sellToDraught 16 = .ok (.bipush 60, 2) := by decide +kernel
theorem dX4_sellToDraught_18 : decode cX4_sellToDraught 18 = .ok (.invokestatic 104, 3) := by decide +kernel
theorem dX4_sellToDraught_21 : decode cX4_sellToDraught 21 = .ok (.ifCond .ne 9, 3) := by decide +kernel
theorem dX4_sellToDraught_24 : decode cX4_sellToDraught 24 = .ok (.aload_n 0, 1) := by decide +kernel
theorem dX4_sellToDraught_25 : decode cX4_sellToDraught 25 = .ok (.iconst 2, 1) := by decide +kernel
theorem dX4_sellToDraught_26 : decode cX4_sellToDraught 26 = .ok (.invokevirtual 121, 3) := by decide +kernel
theorem dX4_sellToDraught_29 : decode cX4_sellToDraught 29 = .ok (.ireturn, 1) := by decide +kernel
theorem dX4_sellToDraught_30 : decode cX4_sellToDraught 30 = .ok (.aload_n 0, 1) := by decide +kernel
theorem dX4_sellToDraught_31 : decode cX4_sellToDraught 31 = .ok (.getfield 48, 3) := by decide +kernel
theorem dX4_sellToDraught_34 : decode cX4_sellToDraught 34 = .ok (.iload_n 1, 1) := by decide +kernel
theorem dX4_sellToDraught_35 : decode cX4_sellToDraught 35 = .ok (.iaload, 1) := by decide +kernel
theorem dX4_sellToDraught_36 : decode cX4_sellToDraught 36 = .ok (.iload_n 2, 1) := by decide +kernel
theorem dX4_sellToDraught_37 : decode cX4_sellToDraught 37 = .ok (.if_icmp .le 9, 3) := by decide +kernel
theorem dX4_sellToDraught_40 : decode cX4_sellToDraught 40 = .ok (.aload_n 0, 1) := by decide +kernel
theorem dX4_sellToDraught_41 : decode cX4_sellToDraught 41 = .ok (.iconst 3, 1) := by decide +kernel
theorem dX4_sellToDraught_42 : decode cX4_sellToDraught 42 = .ok (.invokevirtual 121, 3) := by decide +kernel
theorem dX4_sellToDraught_45 : decode cX4_sellToDraught 45 = .ok (.ireturn, 1) := by decide +kernel
theorem dX4_sellToDraught_46 : decode cX4_sellToDraught 46 = .ok (.iconst 0, 1) := by decide +kernel
theorem dX4_sellToDraught_47 : decode cX4_sellToDraught 47 = .ok (.istore_n 3, 1) := by decide +kernel
theorem dX4_sellToDraught_48 : decode cX4_sellToDraught 48 = .ok (.aload_n 0, 1) := by decide +kernel
theorem dX4_sellToDraught_49 : decode cX4_sellToDraught 49 = .ok (.iload_n 1, 1) := by decide +kernel
theorem dX4_sellToDraught_50 : decode cX4_sellToDraught 50 = .ok (.invokevirtual 158, 3) := by decide +kernel
theorem dX4_sellToDraught_53 : decode cX4_sellToDraught 53 = .ok (.iload_n 2, 1) := by decide +kernel
theorem dX4_sellToDraught_54 : decode cX4_sellToDraught 54 = .ok (.if_icmp .le 15, 3) := by decide +kernel
theorem dX4_sellToDraught_57 : decode cX4_sellToDraught 57 = .ok (.aload_n 0, 1) := by decide +kernel
theorem dX4_sellToDraught_58 : decode cX4_sellToDraught 58 = .ok (.iload_n 1, 1) := by decide +kernel
theorem dX4_sellToDraught_59 : decode cX4_sellToDraught 59 = .ok (.iconst 1, 1) := by decide +kernel
theorem dX4_sellToDraught_60 : decode cX4_sellToDraught 60 = .ok (.invokevirtual 233, 3) := by decide +kernel
theorem dX4_sellToDraught_63 : decode cX4_sellToDraught 63 = .ok (.iinc 3 1, 3) := by decide +kernel
theorem dX4_sellToDraught_66 : decode cX4_sellToDraught 66 = .ok (.goto (-18), 3) := by decide +kernel
theorem dX4_sellToDraught_69 : decode cX4_sellToDraught 69 = .ok (.aload_n 0, 1) := by decide +kernel
theorem dX4_sellToDraught_70 : decode cX4_sellToDraught 70 = .ok (.iload_n 3, 1) := by decide +kernel
theorem dX4_sellToDraught_71 : decode cX4_sellToDraught 71 = .ok (.invokevirtual 125, 3) := by decide +kernel
theorem dX4_sellToDraught_74 : decode cX4_sellToDraught 74 = .ok (.ireturn, 1) := by decide +kernel
theorem dX4_greatestLoad_0 : decode cX4_greatestLoad 0 = .ok (.aload_n 0, 1) := by decide +kernel
theorem dX4_greatestLoad_1 : decode cX4_greatestLoad 1 = .ok (.iload_n 1, 1) := by decide +kernel
theorem dX4_greatestLoad_2 : decode cX4_greatestLoad 2 = .ok (.invokevirtual 161, 3) := by decide +kernel
theorem dX4_greatestLoad_5 : decode cX4_greatestLoad 5 = .ok (.ifCond .ne 9, 3) := by decide +kernel
theorem dX4_greatestLoad_8 : decode cX4_greatestLoad 8 = .ok (.aload_n 0, 1) := by decide +kernel
theorem dX4_greatestLoad_9 : decode cX4_greatestLoad 9 = .ok (.iconst 1, 1) := by decide +kernel
theorem dX4_greatestLoad_10 : decode cX4_greatestLoad 10 = .ok (.invokevirtual 121, 3) := by decide +kernel
theorem dX4_greatestLoad_13 : decode cX4_greatestLoad 13 = .ok (.ireturn, 1) := by decide +kernel
theorem dX4_greatestLoad_14 : decode cX4_greatestLoad 14 = .ok (.aload_n 0, 1) := by decide +kernel
theorem dX4_greatestLoad_15 : decode cX4_greatestLoad 15 = .ok (.aload_n 0, 1) := by decide +kernel
theorem dX4_greatestLoad_16 : decode cX4_greatestLoad 16 = .ok (.getfield 42, 3) := by decide +kernel
theorem dX4_greatestLoad_19 : decode cX4_greatestLoad 19 = .ok (.iload_n 1, 1) := by decide +kernel
theorem dX4_greatestLoad_20 : decode cX4_greatestLoad 20 = .ok (.iaload, 1) := by decide +kernel
theorem dX4_greatestLoad_21 : decode cX4_greatestLoad 21 = .ok (.invokevirtual 135, 3) := by decide +kernel
theorem dX4_greatestLoad_24 : decode cX4_greatestLoad 24 = .ok (.iconst 1, 1) := by decide +kernel
theorem dX4_greatestLoad_25 : decode cX4_greatestLoad 25 = .ok (.isub, 1) := by decide +kernel
theorem dX4_greatestLoad_26 : decode cX4_greatestLoad 26 = .ok (.aload_n 0, 1) := by decide +kernel
theorem dX4_greatestLoad_27 : decode cX4_greatestLoad 27 = .ok (.getfield 48, 3) := by decide +kernel
theorem dX4_greatestLoad_30 : decode cX4_greatestLoad 30 = .ok (.iload_n 1, 1) := by decide +kernel
theorem dX4_greatestLoad_31 : decode cX4_greatestLoad 31 = .ok (.iaload, 1) := by decide +kernel
theorem dX4_greatestLoad_32 : decode cX4_greatestLoad 32 = .ok (.isub, 1) := by decide +kernel
theorem dX4_greatestLoad_33 : decode cX4_greatestLoad 33 = .ok (.aload_n 0, 1) := by decide +kernel
theorem dX4_greatestLoad_34 : decode cX4_greatestLoad 34 = .ok (.getfield 51, 3) := by decide +kernel
theorem dX4_greatestLoad_37 : decode cX4_greatestLoad 37 = .ok (.iload_n 1, 1) := by decide +kernel
theorem dX4_greatestLoad_38 : decode cX4_greatestLoad 38 = .ok (.iaload, 1) := by decide +kernel
theorem dX4_greatestLoad_39 : decode cX4_greatestLoad 39 = .ok (.imul, 1) := by decide +kernel
theorem dX4_greatestLoad_40 : decode cX4_greatestLoad 40 = .ok (.aload_n 0, 1) := by decide +kernel
theorem dX4_greatestLoad_41 : decode cX4_greatestLoad 41 = .ok (.getfield 54, 3) := by decide +kernel
theorem dX4_greatestLoad_44 : decode cX4_greatestLoad 44 = .ok (.iload_n 1, 1) := by decide +kernel
theorem dX4_greatestLoad_45 : decode cX4_greatestLoad 45 = .ok (.iaload, 1) := by decide +kernel
theorem dX4_greatestLoad_46 : decode cX4_greatestLoad 46 = .ok (.isub, 1) := by decide +kernel
theorem dX4_greatestLoad_47 : decode cX4_greatestLoad 47 = .ok (.istore_n 2, 1) := by decide +kernel
theorem dX4_greatestLoad_48 : decode cX4_greatestLoad 48 = .ok (.aload_n 0, 1) := by decide +kernel
theorem dX4_greatestLoad_49 : decode cX4_greatestLoad 49 = .ok (.aload_n 0, 1) := by decide +kernel
theorem dX4_greatestLoad_50 : decode cX4_greatestLoad 50 = .ok (.iload_n 1, 1) := by decide +kernel
theorem dX4_greatestLoad_51 : decode cX4_greatestLoad 51 = .ok (.invokevirtual 164, 3) := by decide +kernel
theorem dX4_greatestLoad_54 : decode cX4_greatestLoad 54 = .ok (.ifCond .eq 7, 3) := by decide +kernel
theorem dX4_greatestLoad_57 : decode cX4_greatestLoad 57 = .ok (.iload_n 2, 1) := by decide +kernel
theorem dX4_greatestLoad_58 : decode cX4_greatestLoad 58 = .ok (.goto 4, 3) := by decide +kernel
theorem dX4_greatestLoad_61 : decode cX4_greatestLoad 61 = .ok (.iconst 0, 1) := by decide +kernel
theorem dX4_greatestLoad_62 : decode cX4_greatestLoad 62 = .ok (.invokevirtual 125, 3) := by decide +kernel
theorem dX4_greatestLoad_65 : decode cX4_greatestLoad 65 = .ok (.ireturn, 1) := by decide +kernel
theorem dX4_worthIn_0 : decode cX4_worthIn 0 = .ok (.aload_n 0, 1) := by decide +kernel
theorem dX4_worthIn_1 : decode cX4_worthIn 1 = .ok (.iload_n 1, 1) := by decide +kernel
theorem dX4_worthIn_2 : decode cX4_worthIn 2 = .ok (.invokevirtual 161, 3) := by decide +kernel
theorem dX4_worthIn_5 : decode cX4_worthIn 5 = .ok (.ifCond .eq 31, 3) := by decide +kernel
theorem dX4_worthIn_8 : decode cX4_worthIn 8 = .ok (.aload_n 0, 1) := by decide +kernel
theorem dX4_worthIn_9 : decode cX4_worthIn 9 = .ok (.iload_n 2, 1) := by decide +kernel
theorem dX4_worthIn_10 : decode cX4_worthIn 10 = .ok (.invokevirtual 128, 3) := by decide +kernel
theorem dX4_worthIn_13 : decode cX4_worthIn 13 = .ok (.ifCond .eq 23, 3) := by decide +kernel
theorem dX4_worthIn_16 : decode cX4_worthIn 16 = .ok (.aload_n 0, 1) := by decide +kernel
theorem dX4_worthIn_17 : decode cX4_worthIn 17 = .ok (.aload_n 0, 1) := by decide +kernel
theorem dX4_worthIn_18 : decode cX4_worthIn 18 = .ok (.getfield 54, 3) := by decide +kernel
theorem dX4_worthIn_21 : decode cX4_worthIn 21 = .ok (.iload_n 1, 1) := by decide +kernel
theorem dX4_worthIn_22 : decode cX4_worthIn 22 = .ok (.iaload, 1) := by decide +kernel
theorem dX4_worthIn_23 : decode cX4_worthIn 23 = .ok (.aload_n 0, 1) := by decide +kernel
theorem dX4_worthIn_24 : decode cX4_worthIn 24 = .ok (.getfield 23, 3) := by decide +kernel
theorem dX4_worthIn_27 : decode cX4_worthIn 27 = .ok (.iload_n 2, 1) := by decide +kernel
theorem dX4_worthIn_28 : decode cX4_worthIn 28 = .ok (.iaload, 1) := by decide +kernel
theorem dX4_worthIn_29 : decode cX4_worthIn 29 = .ok (.imul, 1) := by decide +kernel
theorem dX4_worthIn_30 : decode cX4_worthIn 30 = .ok (.invokevirtual 125, 3) := by decide +kernel
theorem dX4_worthIn_33 : decode cX4_worthIn 33 = .ok (.goto 8, 3) := by decide +kernel
theorem dX4_worthIn_36 : decode cX4_worthIn 36 = .ok (.aload_n 0, 1) := by decide +kernel
theorem dX4_worthIn_37 : decode cX4_worthIn 37 = .ok (.iconst 1, 1) := by decide +kernel
theorem dX4_worthIn_38 : decode cX4_worthIn 38 = .ok (.invokevirtual 121, 3) := by decide +kernel
theorem dX4_worthIn_41 : decode cX4_worthIn 41 = .ok (.ireturn, 1) := by decide +kernel
theorem dX4_bestReach_0 : decode cX4_bestReach 0 = .ok (.aload_n 0, 1) := by decide +kernel
theorem dX4_bestReach_1 : decode cX4_bestReach 1 = .ok (.iload_n 1, 1) := by decide +kernel
theorem dX4_bestReach_2 : decode cX4_bestReach 2 = .ok (.invokevirtual 161, 3) := by decide +kernel
theorem dX4_bestReach_5 : decode cX4_bestReach 5 = .ok (.ifCond .ne 9, 3) := by decide +kernel
theorem dX4_bestReach_8 : decode cX4_bestReach 8 = .ok (.aload_n 0, 1) := by decide +kernel
theorem dX4_bestReach_9 : decode cX4_bestReach 9 = .ok (.iconst 1, 1) := by decide +kernel
theorem dX4_bestReach_10 : decode cX4_bestReach 10 = .ok (.invokevirtual 121, 3) := by decide +kernel
theorem dX4_bestReach_13 : decode cX4_bestReach 13 = .ok (.ireturn, 1) := by decide +kernel
theorem dX4_bestReach_14 : decode cX4_bestReach 14 = .ok (.iconst (-1), 1) := by decide +kernel
theorem dX4_bestReach_15 : decode cX4_bestReach 15 = .ok (.istore_n 2, 1) := by decide +kernel
theorem dX4_bestReach_16 : decode cX4_bestReach 16 = .ok (.iconst 0, 1) := by decide +kernel
theorem dX4_bestReach_17 : decode cX4_bestReach 17 = .ok (.istore_n 3, 1) := by decide +kernel
theorem dX4_bestReach_18 : decode cX4_bestReach 18 = .ok (.iload_n 3, 1) := by decide +kernel
theorem dX4_bestReach_19 : decode cX4_bestReach 19 = .ok (.aload_n 0, 1) := by decide +kernel
theorem dX4_bestReach_20 : decode cX4_bestReach 20 = .ok (.getfield 7, 3) := by decide +kernel
theorem dX4_bestReach_23 : decode cX4_bestReach 23 = .ok (.if_icmp .ge 54, 3) := by decide +kernel
theorem dX4_bestReach_26 : decode cX4_bestReach 26 = .ok (.iload_n 2, 1) := by decide +kernel
theorem dX4_bestReach_27 : decode cX4_bestReach 27 = .ok (.iconst (-1), 1) := by decide +kernel
theorem dX4_bestReach_28 : decode cX4_bestReach 28 = .ok (.if_icmp .eq 32, 3) := by decide +kernel
theorem dX4_bestReach_31 : decode cX4_bestReach 31 = .ok (.aload_n 0, 1) := by decide +kernel
theorem dX4_bestReach_32 : decode cX4_bestReach 32 = .ok (.getfield 54, 3) := by decide +kernel
theorem dX4_bestReach_35 : decode cX4_bestReach 35 = .ok (.iload_n 1, 1) := by decide +kernel
theorem dX4_bestReach_36 : decode cX4_bestReach 36 = .ok (.iaload, 1) := by decide +kernel
theorem dX4_bestReach_37 : decode cX4_bestReach 37 = .ok (.aload_n 0, 1) := by decide +kernel
theorem dX4_bestReach_38 : decode cX4_bestReach 38 = .ok (.getfield 23, 3) := by decide +kernel
theorem dX4_bestReach_41 : decode cX4_bestReach 41 = .ok (.iload_n 3, 1) := by decide +kernel
theorem dX4_bestReach_42 : decode cX4_bestReach 42 = .ok (.iaload, 1) := by decide +kernel
theorem dX4_bestReach_43 : decode cX4_bestReach 43 = .ok (.imul, 1) := by decide +kernel
theorem dX4_bestReach_44 : decode cX4_bestReach 44 = .ok (.aload_n 0, 1) := by decide +kernel
theorem dX4_bestReach_45 : decode cX4_bestReach 45 = .ok (.getfield 54, 3) := by decide +kernel
theorem dX4_bestReach_48 : decode cX4_bestReach 48 = .ok (.iload_n 1, 1) := by decide +kernel
theorem dX4_bestReach_49 : decode cX4_bestReach 49 = .ok (.iaload, 1) := by decide +kernel
theorem dX4_bestReach_50 : decode cX4_bestReach 50 = .ok (.aload_n 0, 1) := by decide +kernel
theorem dX4_bestReach_51 : decode cX4_bestReach 51 = .ok (.getfield 23, 3) := by decide +kernel
theorem dX4_bestReach_54 : decode cX4_bestReach 54 = .ok (.iload_n 2, 1) := by decide +kernel
theorem dX4_bestReach_55 : decode cX4_bestReach 55 = .ok (.iaload, 1) := by decide +kernel
theorem dX4_bestReach_56 : decode cX4_bestReach 56 = .ok (.imul, 1) := by decide +kernel
theorem dX4_bestReach_57 : decode cX4_bestReach 57 = .ok (.if_icmp .le 14, 3) := by decide +kernel
theorem dX4_bestReach_60 : decode cX4_bestReach 60 = .ok (.aload_n 0, 1) := by decide +kernel
theorem dX4_bestReach_61 : decode cX4_bestReach 61 = .ok (.iload_n 1, 1) := by decide +kernel
theorem dX4_bestReach_62 : decode cX4_bestReach 62 = .ok (.iload_n 3, 1) := by decide +kernel
theorem dX4_bestReach_63 : decode cX4_bestReach 63 = .ok (.invokevirtual 222, 3) := by decide +kernel
theorem dX4_bestReach_66 : decode cX4_bestReach 66 = .ok (.ifCond .eq 5, 3) := by decide +kernel
theorem dX4_bestReach_69 : decode cX4_bestReach 69 = .ok (.iload_n 3, 1) := by decide +kernel
theorem dX4_bestReach_70 : decode cX4_bestReach 70 = .ok (.istore_n 2, 1) := by decide +kernel
theorem dX4_bestReach_71 : decode cX4_bestReach 71 = .ok (.iinc 3 1, 3) := by decide +kernel
theorem dX4_bestReach_74 : decode cX4_bestReach 74 = .ok (.goto (-56), 3) := by decide +kernel
theorem dX4_bestReach_77 : decode cX4_bestReach 77 = .ok (.aload_n 0, 1) := by decide +kernel
theorem dX4_bestReach_78 : decode cX4_bestReach 78 = .ok (.iload_n 2, 1) := by decide +kernel
theorem dX4_bestReach_79 : decode cX4_bestReach 79 = .ok (.invokevirtual 125, 3) := by decide +kernel
theorem dX4_bestReach_82 : decode cX4_bestReach 82 = .ok (.ireturn, 1) := by decide +kernel
theorem dX4_cameTotal_0 : decode cX4_cameTotal 0 = .ok (.aload_n 0, 1) := by decide +kernel
theorem dX4_cameTotal_1 : decode cX4_cameTotal 1 = .ok (.aload_n 0, 1) := by decide +kernel
theorem dX4_cameTotal_2 : decode cX4_cameTotal 2 = .ok (.getfield 69, 3) := by decide +kernel
theorem dX4_cameTotal_5 : decode cX4_cameTotal 5 = .ok (.invokevirtual 125, 3) := by decide +kernel
theorem dX4_cameTotal_8 : decode cX4_cameTotal 8 = .ok (.ireturn, 1) := by decide +kernel
theorem dX4_seaTotal_0 : decode cX4_seaTotal 0 = .ok (.aload_n 0, 1) := by decide +kernel
theorem dX4_seaTotal_1 : decode cX4_seaTotal 1 = .ok (.aload_n 0, 1) := by decide +kernel
theorem dX4_seaTotal_2 : decode cX4_seaTotal 2 = .ok (.getfield 115, 3) := by decide +kernel
theorem dX4_seaTotal_5 : decode cX4_seaTotal 5 = .ok (.invokevirtual 125, 3) := by decide +kernel
theorem dX4_seaTotal_8 : decode cX4_seaTotal 8 = .ok (.ireturn, 1) := by decide +kernel
theorem dX4_airTotal_0 : decode cX4_airTotal 0 = .ok (.aload_n 0, 1) := by decide +kernel
theorem dX4_airTotal_1 : decode cX4_airTotal 1 = .ok (.aload_n 0, 1) := by decide +kernel
theorem dX4_airTotal_2 : decode cX4_airTotal 2 = .ok (.getfield 152, 3) := by decide +kernel
theorem dX4_airTotal_5 : decode cX4_airTotal 5 = .ok (.invokevirtual 125, 3) := by decide +kernel
theorem dX4_airTotal_8 : decode cX4_airTotal 8 = .ok (.ireturn, 1) := by decide +kernel
theorem dX4_held_0 : decode cX4_held 0 = .ok (.iconst 0, 1) := by decide +kernel
theorem dX4_held_1 : decode cX4_held 1 = .ok (.istore_n 1, 1) := by decide +kernel
theorem dX4_held_2 : decode cX4_held 2 = .ok (.iconst 0, 1) := by decide +kernel
theorem dX4_held_3 : decode cX4_held 3 = .ok (.istore_n 2, 1) := by decide +kernel
theorem dX4_held_4 : decode cX4_held 4 = .ok (.iload_n 2, 1) := by decide +kernel
theorem dX4_held_5 : decode cX4_held 5 = .ok (.aload_n 0, 1) := by decide +kernel
theorem dX4_held_6 : decode cX4_held 6 = .ok (.getfield 7, 3) := by decide +kernel
theorem dX4_held_9 : decode cX4_held 9 = .ok (.if_icmp .ge 18, 3) := by decide +kernel
theorem dX4_held_12 : decode cX4_held 12 = .ok (.iload_n 1, 1) := by decide +kernel
theorem dX4_held_13 : decode cX4_held 13 = .ok (.aload_n 0, 1) := by decide +kernel
theorem dX4_held_14 : decode cX4_held 14 = .ok (.getfield 17, 3) := by decide +kernel
theorem dX4_held_17 : decode cX4_held 17 = .ok (.iload_n 2, 1) := by decide +kernel
theorem dX4_held_18 : decode cX4_held 18 = .ok (.iaload, 1) := by decide +kernel
theorem dX4_held_19 : decode cX4_held 19 = .ok (.iadd, 1) := by decide +kernel
theorem dX4_held_20 : decode cX4_held 20 = .ok (.istore_n 1, 1) := by decide +kernel
theorem dX4_held_21 : decode cX4_held 21 = .ok (.iinc 2 1, 3) := by decide +kernel
theorem dX4_held_24 : decode cX4_held 24 = .ok (.goto (-20), 3) := by decide +kernel
theorem dX4_held_27 : decode cX4_held 27 = .ok (.iconst 0, 1) := by decide +kernel
theorem dX4_held_28 : decode cX4_held 28 = .ok (.istore_n 2, 1) := by decide +kernel
theorem dX4_held_29 : decode cX4_held 29 = .ok (.iload_n 2, 1) := by decide +kernel
theorem dX4_held_30 : decode cX4_held 30 = .ok (.iconst 5, 1) := by decide +kernel
theorem dX4_held_31 : decode cX4_held 31 = .ok (.if_icmp .ge 31, 3) := by decide +kernel
theorem dX4_held_34 : decode cX4_held 34 = .ok (.iload_n 1, 1) := by decide +kernel
theorem dX4_held_35 : decode cX4_held 35 = .ok (.aload_n 0, 1) := by decide +kernel
theorem dX4_held_36 : decode cX4_held 36 = .ok (.getfield 38, 3) := by decide +kernel
theorem dX4_held_39 : decode cX4_held 39 = .ok (.iload_n 2, 1) := by decide +kernel
theorem dX4_held_40 : decode cX4_held 40 = .ok (.baload, 1) := by decide +kernel
theorem dX4_held_41 : decode cX4_held 41 = .ok (.ifCond .eq 12, 3) := by decide +kernel
theorem dX4_held_44 : decode cX4_held 44 = .ok (.aload_n 0, 1) := by decide +kernel
theorem dX4_held_45 : decode cX4_held 45 = .ok (.getfield 26, 3) := by decide +kernel
theorem dX4_held_48 : decode cX4_held 48 = .ok (.iload_n 2, 1) := by decide +kernel
theorem dX4_held_49 : decode cX4_held 49 = .ok (.iaload, 1) := by decide +kernel
theorem dX4_held_50 : decode cX4_held 50 = .ok (.goto 4, 3) := by decide +kernel
theorem dX4_held_53 : decode cX4_held 53 = .ok (.iconst 0, 1) := by decide +kernel
theorem dX4_held_54 : decode cX4_held 54 = .ok (.iadd, 1) := by decide +kernel
theorem dX4_held_55 : decode cX4_held 55 = .ok (.istore_n 1, 1) := by decide +kernel
theorem dX4_held_56 : decode cX4_held 56 = .ok (.iinc 2 1, 3) := by decide +kernel
theorem dX4_held_59 : decode cX4_held 59 = .ok (.goto (-30), 3) := by decide +kernel
theorem dX4_held_62 : decode cX4_held 62 = .ok (.iload_n 1, 1) := by decide +kernel
theorem dX4_held_63 : decode cX4_held 63 = .ok (.ireturn, 1) := by decide +kernel
theorem dX4_heldTotal_0 : decode cX4_heldTotal 0 = .ok (.aload_n 0, 1) := by decide +kernel
theorem dX4_heldTotal_1 : decode cX4_heldTotal 1 = .ok (.aload_n 0, 1) := by decide +kernel
theorem dX4_heldTotal_2 : decode cX4_heldTotal 2 = .ok (.invokevirtual 237, 3) := by decide +kernel
theorem dX4_heldTotal_5 : decode cX4_heldTotal 5 = .ok (.invokevirtual 125, 3) := by decide +kernel
theorem dX4_heldTotal_8 : decode cX4_heldTotal 8 = .ok (.ireturn, 1) := by decide +kernel
theorem dX4_movementCount_0 : decode cX4_movementCount 0 = .ok (.aload_n 0, 1) := by decide +kernel
theorem dX4_movementCount_1 : decode cX4_movementCount 1 = .ok (.aload_n 0, 1) := by decide +kernel
theorem dX4_movementCount_2 : decode cX4_movementCount 2 = .ok (.getfield 72, 3) := by decide +kernel
theorem dX4_movementCount_5 : decode cX4_movementCount 5 = .ok (.invokevirtual 125, 3) := by decide +kernel
theorem dX4_movementCount_8 : decode cX4_movementCount 8 = .ok (.ireturn, 1) := by decide +kernel
theorem dX4_movementFrom_0 : decode cX4_movementFrom 0 = .ok (.iload_n 1, 1) := by decide +kernel
theorem dX4_movementFrom_1 : decode cX4_movementFrom 1 = .ok (.iconst 0, 1) := by decide +kernel
theorem dX4_movementFrom_2 : decode cX4_movementFrom 2 = .ok (.aload_n 0, 1) := by decide +kernel
theorem dX4_movementFrom_3 : decode cX4_movementFrom 3 = .ok (.getfield 72, 3) := by decide +kernel
theorem dX4_movementFrom_6 : decode cX4_movementFrom 6 = .ok (.iconst 1, 1) := by decide +kernel
theorem dX4_movementFrom_7 : decode cX4_movementFrom 7 = .ok (.isub, 1) := by decide +kernel
theorem dX4_movementFrom_8 : decode cX4_movementFrom 8 = .ok (.invokestatic 104, 3) := by decide +kernel
theorem dX4_movementFrom_11 : decode cX4_movementFrom 11 = .ok (.ifCond .eq 16, 3) := by decide +kernel
theorem dX4_movementFrom_14 : decode cX4_movementFrom 14 = .ok (.aload_n 0, 1) := by decide +kernel
theorem dX4_movementFrom_15 : decode cX4_movementFrom 15 = .ok (.aload_n 0, 1) := by decide +kernel
theorem dX4_movementFrom_16 : decode cX4_movementFrom 16 = .ok (.getfield 76, 3) := by decide +kernel
theorem dX4_movementFrom_19 : decode cX4_movementFrom 19 = .ok (.iload_n 1, 1) := by decide +kernel
theorem dX4_movementFrom_20 : decode cX4_movementFrom 20 = .ok (.iaload, 1) := by decide +kernel
theorem dX4_movementFrom_21 : decode cX4_movementFrom 21 = .ok (.invokevirtual 125, 3) := by decide +kernel
theorem dX4_movementFrom_24 : decode cX4_movementFrom 24 = .ok (.goto 8, 3) := by decide +kernel
theorem dX4_movementFrom_27 : decode cX4_movementFrom 27 = .ok (.aload_n 0, 1) := by decide +kernel
theorem dX4_movementFrom_28 : decode cX4_movementFrom 28 = .ok (.iconst 1, 1) := by decide +kernel
theorem dX4_movementFrom_29 : decode cX4_movementFrom 29 = .ok (.invokevirtual 121, 3) := by decide +kernel
theorem dX4_movementFrom_32 : decode cX4_movementFrom 32 = .ok (.ireturn, 1) := by decide +kernel
theorem dX4_movementTo_0 : decode cX4_movementTo 0 = .ok (.iload_n 1, 1) := by decide +kernel
theorem dX4_movementTo_1 : decode cX4_movementTo 1 = .ok (.iconst 0, 1) := by decide +kernel
theorem dX4_movementTo_2 : decode cX4_movementTo 2 = .ok (.aload_n 0, 1) := by decide +kernel
theorem dX4_movementTo_3 : decode cX4_movementTo 3 = .ok (.getfield 72, 3) := by decide +kernel
theorem dX4_movementTo_6 : decode cX4_movementTo 6 = .ok (.iconst 1, 1) := by decide +kernel
theorem dX4_movementTo_7 : decode cX4_movementTo 7 = .ok (.isub, 1) := by decide +kernel
theorem dX4_movementTo_8 : decode cX4_movementTo 8 = .ok (.invokestatic 104, 3) := by decide +kernel
theorem dX4_movementTo_11 : decode cX4_movementTo 11 = .ok (.ifCond .eq 16, 3) := by decide +kernel
theorem dX4_movementTo_14 : decode cX4_movementTo 14 = .ok (.aload_n 0, 1) := by decide +kernel
theorem dX4_movementTo_15 : decode cX4_movementTo 15 = .ok (.aload_n 0, 1) := by decide +kernel
theorem dX4_movementTo_16 : decode cX4_movementTo 16 = .ok (.getfield 79, 3) := by decide +kernel
theorem dX4_movementTo_19 : decode cX4_movementTo 19 = .ok (.iload_n 1, 1) := by decide +kernel
theorem dX4_movementTo_20 : decode cX4_movementTo 20 = .ok (.iaload, 1) := by decide +kernel
theorem dX4_movementTo_21 : decode cX4_movementTo 21 = .ok (.invokevirtual 125, 3) := by decide +kernel
theorem dX4_movementTo_24 : decode cX4_movementTo 24 = .ok (.goto 8, 3) := by decide +kernel
theorem dX4_movementTo_27 : decode cX4_movementTo 27 = .ok (.aload_n 0, 1) := by decide +kernel
theorem dX4_movementTo_28 : decode cX4_movementTo 28 = .ok (.iconst 1, 1) := by decide +kernel
theorem dX4_movementTo_29 : decode cX4_movementTo 29 = .ok (.invokevirtual 121, 3) := by decide +kernel
theorem dX4_movementTo_32 : decode cX4_movementTo 32 = .ok (.ireturn, 1) := by decide +kernel
theorem dX4_movementVolume_0 : decode cX4_movementVolume 0 = .ok (.iload_n 1, 1) := by decide +kernel
theorem dX4_movementVolume_1 : decode cX4_movementVolume 1 = .ok (.iconst 0, 1) := by decide +kernel
theorem dX4_movementVolume_2 : decode cX4_movementVolume 2 = .ok (.aload_n 0, 1) := by decide +kernel
theorem dX4_movementVolume_3 : decode cX4_movementVolume 3 = .ok (.getfield 72, 3) := by decide +kernel
theorem dX4_movementVolume_6 : decode cX4_movementVolume 6 = .ok (.iconst 1, 1) := by decide +kernel
theorem dX4_movementVolume_7 : decode cX4_movementVolume 7 = .ok (.isub, 1) := by decide +kernel
theorem dX4_movementVolume_8 : decode cX4_movementVolume 8 = .ok (.invokestatic 104, 3) := by decide +kernel
theorem dX4_movementVolume_11 : decode cX4_movementVolume 11 = .ok (.ifCond .eq 16, 3) := by decide +kernel
theorem dX4_movementVolume_14 : decode cX4_movementVolume 14 = .ok (.aload_n 0, 1) := by decide +kernel
theorem dX4_movementVolume_15 : decode cX4_movementVolume 15 = .ok (.aload_n 0, 1) := by decide +kernel
theorem dX4_movementVolume_16 : decode cX4_movementVolume 16 = .ok (.getfield 82, 3) := by decide +kernel
theorem dX4_movementVolume_19 : decode cX4_movementVolume 19 = .ok (.iload_n 1, 1) := by decide +kernel
theorem dX4_movementVolume_20 : decode cX4_movementVolume 20 = .ok (.iaload, 1) := by decide +kernel
theorem dX4_movementVolume_21 : decode cX4_movementVolume 21 = .ok (.invokevirtual 125, 3) := by decide +kernel
theorem dX4_movementVolume_24 : decode cX4_movementVolume 24 = .ok (.goto 8, 3) := by decide +kernel
theorem dX4_movementVolume_27 : decode cX4_movementVolume 27 = .ok (.aload_n 0, 1) := by decide +kernel
theorem dX4_movementVolume_28 : decode cX4_movementVolume 28 = .ok (.iconst 1, 1) := by decide +kernel
theorem dX4_movementVolume_29 : decode cX4_movementVolume 29 = .ok (.invokevirtual 121, 3) := by decide +kernel
theorem dX4_movementVolume_32 : decode cX4_movementVolume 32 = .ok (.ireturn, 1) := by decide +kernel
theorem dX4_meanLevel_0 : decode cX4_meanLevel 0 = .ok (.aload_n 0, 1) := by decide +kernel
theorem dX4_meanLevel_1 : decode cX4_meanLevel 1 = .ok (.iconst 0, 1) := by decide +kernel
theorem dX4_meanLevel_2 : decode cX4_meanLevel 2 = .ok (.putfield 101, 3) := by decide +kernel
theorem dX4_meanLevel_5 : decode cX4_meanLevel 5 = .ok (.iconst 0, 1) := by decide +kernel
theorem dX4_meanLevel_6 : decode cX4_meanLevel 6 = .ok (.istore_n 1, 1) := by decide +kernel
theorem dX4_meanLevel_7 : decode cX4_meanLevel 7 = .ok (.iconst 0, 1) := by decide +kernel
theorem dX4_meanLevel_8 : decode cX4_meanLevel 8 = .ok (.istore_n 2, 1) := by decide +kernel
theorem dX4_meanLevel_9 : decode cX4_meanLevel 9 = .ok (.iload_n 2, 1) := by decide +kernel
theorem dX4_meanLevel_10 : decode cX4_meanLevel 10 = .ok (.aload_n 0, 1) := by decide +kernel
theorem dX4_meanLevel_11 : decode cX4_meanLevel 11 = .ok (.getfield 7, 3) := by decide +kernel
theorem dX4_meanLevel_14 : decode cX4_meanLevel 14 = .ok (.if_icmp .ge 17, 3) := by decide +kernel
theorem dX4_meanLevel_17 : decode cX4_meanLevel 17 = .ok (.iload_n 1, 1) := by decide +kernel
theorem dX4_meanLevel_18 : decode cX4_meanLevel 18 = .ok (.aload_n 0, 1) := by decide +kernel
theorem dX4_meanLevel_19 : decode cX4_meanLevel 19 = .ok (.iload_n 2, 1) := by decide +kernel
theorem dX4_meanLevel_20 : decode cX4_meanLevel 20 = .ok (.invokevirtual 135, 3) := by decide +kernel
theorem dX4_meanLevel_23 : decode cX4_meanLevel 23 = .ok (.iadd, 1) := by decide +kernel
theorem dX4_meanLevel_24 : decode cX4_meanLevel 24 = .ok (.istore_n 1, 1) := by decide +kernel
theorem dX4_meanLevel_25 : decode cX4_meanLevel 25 = .ok (.iinc 2 1, 3) := by decide +kernel
theorem dX4_meanLevel_28 : decode cX4_meanLevel 28 = .ok (.goto (-19), 3) := by decide +kernel
theorem dX4_meanLevel_31 : decode cX4_meanLevel 31 = .ok (.iload_n 1, 1) := by decide +kernel
theorem dX4_meanLevel_32 : decode cX4_meanLevel 32 = .ok (.i2d, 1) := by decide +kernel
theorem dX4_meanLevel_33 : decode cX4_meanLevel 33 = .ok (.aload_n 0, 1) := by decide +kernel
theorem dX4_meanLevel_34 : decode cX4_meanLevel 34 = .ok (.getfield 7, 3) := by decide +kernel
theorem dX4_meanLevel_37 : decode cX4_meanLevel 37 = .ok (.i2d, 1) := by decide +kernel
theorem dX4_meanLevel_38 : decode cX4_meanLevel 38 = .ok (.ddiv, 1) := by decide +kernel
theorem dX4_meanLevel_39 : decode cX4_meanLevel 39 = .ok (.dreturn, 1) := by decide +kernel
theorem dX4_isBalanced_0 : decode cX4_isBalanced 0 = .ok (.aload_n 0, 1) := by decide +kernel
theorem dX4_isBalanced_1 : decode cX4_isBalanced 1 = .ok (.getfield 69, 3) := by decide +kernel
theorem dX4_isBalanced_4 : decode cX4_isBalanced 4 = .ok (.aload_n 0, 1) := by decide +kernel
theorem dX4_isBalanced_5 : decode cX4_isBalanced 5 = .ok (.invokevirtual 237, 3) := by decide +kernel
theorem dX4_isBalanced_8 : decode cX4_isBalanced 8 = .ok (.aload_n 0, 1) := by decide +kernel
theorem dX4_isBalanced_9 : decode cX4_isBalanced 9 = .ok (.getfield 115, 3) := by decide +kernel
theorem dX4_isBalanced_12 : decode cX4_isBalanced 12 = .ok (.iadd, 1) := by decide +kernel
theorem dX4_isBalanced_13 : decode cX4_isBalanced 13 = .ok (.aload_n 0, 1) := by decide +kernel
theorem dX4_isBalanced_14 : decode cX4_isBalanced 14 = .ok (.getfield 152, 3) := by decide +kernel
theorem dX4_isBalanced_17 : decode cX4_isBalanced 17 = .ok (.iadd, 1) := by decide +kernel
theorem dX4_isBalanced_18 : decode cX4_isBalanced 18 = .ok (.if_icmp .ne 7, 3) := by decide +kernel
theorem dX4_isBalanced_21 : decode cX4_isBalanced 21 = .ok (.iconst 1, 1) := by decide +kernel
theorem dX4_isBalanced_22 : decode cX4_isBalanced 22 = .ok (.goto 4, 3) := by decide +kernel
theorem dX4_isBalanced_25 : decode cX4_isBalanced 25 = .ok (.iconst 0, 1) := by decide +kernel
theorem dX4_isBalanced_26 : decode cX4_isBalanced 26 = .ok (.istore_n 1, 1) := by decide +kernel
theorem dX4_isBalanced_27 : decode cX4_isBalanced 27 = .ok (.iconst 0, 1) := by decide +kernel
theorem dX4_isBalanced_28 : decode cX4_isBalanced 28 = .ok (.istore_n 2, 1) := by decide +kernel
theorem dX4_isBalanced_29 : decode cX4_isBalanced 29 = .ok (.iload_n 2, 1) := by decide +kernel
theorem dX4_isBalanced_30 : decode cX4_isBalanced 30 = .ok (.aload_n 0, 1) := by decide +kernel
theorem dX4_isBalanced_31 : decode cX4_isBalanced 31 = .ok (.getfield 7, 3) := by decide +kernel
theorem dX4_isBalanced_34 : decode cX4_isBalanced 34 = .ok (.if_icmp .ge 33, 3) := by decide +kernel
theorem dX4_isBalanced_37 : decode cX4_isBalanced 37 = .ok (.iload_n 1, 1) := by decide +kernel
theorem dX4_isBalanced_38 : decode cX4_isBalanced 38 = .ok (.ifCond .eq 21, 3) := by decide +kernel
theorem dX4_isBalanced_41 : decode cX4_isBalanced 41 = .ok (.aload_n 0, 1) := by decide +kernel
theorem dX4_isBalanced_42 : decode cX4_isBalanced 42 = .ok (.iload_n 2, 1) := by decide +kernel
theorem dX4_isBalanced_43 : decode cX4_isBalanced 43 = .ok (.invokevirtual 132, 3) := by decide +kernel
theorem dX4_isBalanced_46 : decode cX4_isBalanced 46 = .ok (.aload_n 0, 1) := by decide +kernel
theorem dX4_isBalanced_47 : decode cX4_isBalanced 47 = .ok (.getfield 17, 3) := by decide +kernel
theorem dX4_isBalanced_50 : decode cX4_isBalanced 50 = .ok (.iload_n 2, 1) := by decide +kernel
theorem dX4_isBalanced_51 : decode cX4_isBalanced 51 = .ok (.iaload, 1) := by decide +kernel
theorem dX4_isBalanced_52 : decode cX4_isBalanced 52 = .ok (.if_icmp .ne 7, 3) := by decide +kernel
theorem dX4_isBalanced_55 : decode cX4_isBalanced 55 = .ok (.iconst 1, 1) := by decide +kernel
theorem dX4_isBalanced_56 : decode cX4_isBalanced 56 = .ok (.goto 4, 3) := by decide +kernel
theorem dX4_isBalanced_59 : decode cX4_isBalanced 59 = .ok (.iconst 0, 1) := by decide +kernel
theorem dX4_isBalanced_60 : decode cX4_isBalanced 60 = .ok (.istore_n 1, 1) := by decide +kernel
theorem dX4_isBalanced_61 : decode cX4_isBalanced 61 = .ok (.iinc 2 1, 3) := by decide +kernel
theorem dX4_isBalanced_64 : decode cX4_isBalanced 64 = .ok (.goto (-35), 3) := by decide +kernel
theorem dX4_isBalanced_67 : decode cX4_isBalanced 67 = .ok (.aload_n 0, 1) := by decide +kernel
theorem dX4_isBalanced_68 : decode cX4_isBalanced 68 = .ok (.iconst 0, 1) := by decide +kernel
theorem dX4_isBalanced_69 : decode cX4_isBalanced 69 = .ok (.iload_n 1, 1) := by decide +kernel
theorem dX4_isBalanced_70 : decode cX4_isBalanced 70 = .ok (.invokevirtual 141, 3) := by decide +kernel
theorem dX4_isBalanced_73 : decode cX4_isBalanced 73 = .ok (.ireturn, 1) := by decide +kernel
theorem dX4_writes_0 : decode cX4_writes 0 = .ok (.aload_n 0, 1) := by decide +kernel
theorem dX4_writes_1 : decode cX4_writes 1 = .ok (.getfield 97, 3) := by decide +kernel
theorem dX4_writes_4 : decode cX4_writes 4 = .ok (.aload_n 0, 1) := by decide +kernel
theorem dX4_writes_5 : decode cX4_writes 5 = .ok (.getfield 240, 3) := by decide +kernel
theorem dX4_writes_8 : decode cX4_writes 8 = .ok (.iload_n 1, 1) := by decide +kernel
theorem dX4_writes_9 : decode cX4_writes 9 = .ok (.castore, 1) := by decide +kernel
theorem dX4_writes_10 : decode cX4_writes 10 = .ok (.aload_n 0, 1) := by decide +kernel
theorem dX4_writes_11 : decode cX4_writes 11 = .ok (.dup, 1) := by decide +kernel
theorem dX4_writes_12 : decode cX4_writes 12 = .ok (.getfield 240, 3) := by decide +kernel
theorem dX4_writes_15 : decode cX4_writes 15 = .ok (.iconst 1, 1) := by decide +kernel
theorem dX4_writes_16 : decode cX4_writes 16 = .ok (.iadd, 1) := by decide +kernel
theorem dX4_writes_17 : decode cX4_writes 17 = .ok (.putfield 240, 3) := by decide +kernel
theorem dX4_writes_20 : decode cX4_writes 20 = .ok (.return_, 1) := by decide +kernel
theorem dX4_writeReach_0 : decode cX4_writeReach 0 = .ok (.aload_n 0, 1) := by decide +kernel
theorem dX4_writeReach_1 : decode cX4_writeReach 1 = .ok (.iload_n 1, 1) := by decide +kernel
theorem dX4_writeReach_2 : decode cX4_writeReach 2 = .ok (.invokevirtual 128, 3) := by decide +kernel
theorem dX4_writeReach_5 : decode cX4_writeReach 5 = .ok (.ifCond .ne 9, 3) := by decide +kernel
theorem dX4_writeReach_8 : decode cX4_writeReach 8 = .ok (.aload_n 0, 1) := by decide +kernel
theorem dX4_writeReach_9 : decode cX4_writeReach 9 = .ok (.iconst 1, 1) := by decide +kernel
theorem dX4_writeReach_10 : decode cX4_writeReach 10 = .ok (.invokevirtual 121, 3) := by decide +kernel
theorem dX4_writeReach_13 : decode cX4_writeReach 13 = .ok (.ireturn, 1) := by decide +kernel
theorem dX4_writeReach_14 : decode cX4_writeReach 14 = .ok (.aload_n 0, 1) := by decide +kernel
theorem dX4_writeReach_15 : decode cX4_writeReach 15 = .ok (.iconst 0, 1) := by decide +kernel
theorem dX4_writeReach_16 : decode cX4_writeReach 16 = .ok (.putfield 240, 3) := by decide +kernel
theorem dX4_writeReach_19 : decode cX4_writeReach 19 = .ok (.aload_n 0, 1) := by decide +kernel
theorem dX4_writeReach_20 : decode cX4_writeReach 20 = .ok (.bipush 48, 2) := by decide +kernel
theorem dX4_writeReach_22 : decode cX4_writeReach 22 = .ok (.iload_n 1, 1) := by decide +kernel
theorem dX4_writeReach_23 : decode cX4_writeReach 23 = .ok (.iadd, 1) := by decide +kernel
theorem dX4_writeReach_24 : decode cX4_writeReach 24 = .ok (.i2c, 1) := by decide +kernel
theorem dX4_writeReach_25 : decode cX4_writeReach 25 = .ok (.invokevirtual 243, 3) := by decide +kernel
theorem dX4_writeReach_28 : decode cX4_writeReach 28 = .ok (.aload_n 0, 1) := by decide +kernel
theorem dX4_writeReach_29 : decode cX4_writeReach 29 = .ok (.bipush 58, 2) := by decide +kernel
theorem dX4_writeReach_31 : decode cX4_writeReach 31 = .ok (.invokevirtual 243, 3) := by decide +kernel
theorem dX4_writeReach_34 : decode cX4_writeReach 34 = .ok (.aload_n 0, 1) := by decide +kernel
theorem dX4_writeReach_35 : decode cX4_writeReach 35 = .ok (.bipush 32, 2) := by decide +kernel
theorem dX4_writeReach_37 : decode cX4_writeReach 37 = .ok (.invokevirtual 243, 3) := by decide +kernel
theorem dX4_writeReach_40 : decode cX4_writeReach 40 = .ok (.aload_n 0, 1) := by decide +kernel
theorem dX4_writeReach_41 : decode cX4_writeReach 41 = .ok (.iload_n 1, 1) := by decide +kernel
theorem dX4_writeReach_42 : decode cX4_writeReach 42 = .ok (.invokevirtual 135, 3) := by decide +kernel
theorem dX4_writeReach_45 : decode cX4_writeReach 45 = .ok (.bipush 9, 2) := by decide +kernel
theorem dX4_writeReach_47 : decode cX4_writeReach 47 = .ok (.if_icmp .le 19, 3) := by decide +kernel
theorem dX4_writeReach_50 : decode cX4_writeReach 50 = .ok (.aload_n 0, 1) := by decide +kernel
theorem dX4_writeReach_51 : decode cX4_writeReach 51 = .ok (.bipush 48, 2) := by decide +kernel
theorem dX4_writeReach_53 : decode cX4_writeReach 53 = .ok (.aload_n 0, 1) := by decide +kernel
theorem dX4_writeReach_54 : decode cX4_writeReach 54 = .ok (.iload_n 1, 1) := by decide +kernel
theorem dX4_writeReach_55 : decode cX4_writeReach 55 = .ok (.invokevirtual 135, 3) := by decide +kernel
theorem dX4_writeReach_58 : decode cX4_writeReach 58 = .ok (.bipush 10, 2) := by decide +kernel
theorem dX4_writeReach_60 : decode cX4_writeReach 60 = .ok (.idiv, 1) := by decide +kernel
theorem dX4_writeReach_61 : decode cX4_writeReach 61 = .ok (.iadd, 1) := by decide +kernel
theorem dX4_writeReach_62 : decode cX4_writeReach 62 = .ok (.i2c, 1) := by decide +kernel
theorem dX4_writeReach_63 : decode cX4_writeReach 63 = .ok (.invokevirtual 243, 3) := by decide +kernel
theorem dX4_writeReach_66 : decode cX4_writeReach 66 = .ok (.aload_n 0, 1) := by decide +kernel
theorem dX4_writeReach_67 : decode cX4_writeReach 67 = .ok (.bipush 48, 2) := by decide +kernel
theorem dX4_writeReach_69 : decode cX4_writeReach 69 = .ok (.aload_n 0, 1) := by decide +kernel
theorem dX4_writeReach_70 : decode cX4_writeReach 70 = .ok (.iload_n 1, 1) := by decide +kernel
theorem dX4_writeReach_71 : decode cX4_writeReach 71 = .ok (.invokevirtual 135, 3) := by decide +kernel
theorem dX4_writeReach_74 : decode cX4_writeReach 74 = .ok (.bipush 10, 2) := by decide +kernel
theorem dX4_writeReach_76 : decode cX4_writeReach 76 = .ok (.irem, 1) := by decide +kernel
theorem dX4_writeReach_77 : decode cX4_writeReach 77 = .ok (.iadd, 1) := by decide +kernel
theorem dX4_writeReach_78 : decode cX4_writeReach 78 = .ok (.i2c, 1) := by decide +kernel
theorem dX4_writeReach_79 : decode cX4_writeReach 79 = .ok (.invokevirtual 243, 3) := by decide +kernel
theorem dX4_writeReach_82 : decode cX4_writeReach 82 = .ok (.aload_n 0, 1) := by decide +kernel
theorem dX4_writeReach_83 : decode cX4_writeReach 83 = .ok (.bipush 100, 2) := by decide +kernel
theorem dX4_writeReach_85 : decode cX4_writeReach 85 = .ok (.invokevirtual 243, 3) := by decide +kernel
theorem dX4_writeReach_88 : decode cX4_writeReach 88 = .ok (.aload_n 0, 1) := by decide +kernel
theorem dX4_writeReach_89 : decode cX4_writeReach 89 = .ok (.bipush 109, 2) := by decide +kernel
theorem dX4_writeReach_91 : decode cX4_writeReach 91 = .ok (.invokevirtual 243, 3) := by decide +kernel
theorem dX4_writeReach_94 : decode cX4_writeReach 94 = .ok (.iconst 0, 1) := by decide +kernel
theorem dX4_writeReach_95 : decode cX4_writeReach 95 = .ok (.istore_n 2, 1) := by decide +kernel
theorem dX4_writeReach_96 : decode cX4_writeReach 96 = .ok (.iload_n 2, 1) := by decide +kernel
theorem dX4_writeReach_97 : decode cX4_writeReach 97 = .ok (.aload_n 0, 1) := by decide +kernel
theorem dX4_writeReach_98 : decode cX4_writeReach 98 = .ok (.getfield 108, 3) := by decide +kernel
theorem dX4_writeReach_101 : decode cX4_writeReach 101 = .ok (.if_icmp .ge 74, 3) := by decide +kernel
theorem dX4_writeReach_104 : decode cX4_writeReach 104 = .ok (.aload_n 0, 1) := by decide +kernel
theorem dX4_writeReach_105 : decode cX4_writeReach 105 = .ok (.getfield 42, 3) := by decide +kernel
theorem dX4_writeReach_108 : decode cX4_writeReach 108 = .ok (.iload_n 2, 1) := by decide +kernel
theorem dX4_writeReach_109 : decode cX4_writeReach 109 = .ok (.iaload, 1) := by decide +kernel
theorem dX4_writeReach_110 : decode cX4_writeReach 110 = .ok (.iload_n 1, 1) := by decide +kernel
theorem dX4_writeReach_111 : decode cX4_writeReach 111 = .ok (.if_icmp .ne 58, 3) := by decide +kernel
theorem dX4_writeReach_114 : decode cX4_writeReach 114 = .ok (.aload_n 0, 1) := by decide +kernel
theorem dX4_writeReach_115 : decode cX4_writeReach 115 = .ok (.getfield 57, 3) := by decide +kernel
theorem dX4_writeReach_118 : decode cX4_writeReach 118 = .ok (.iload_n 2, 1) := by decide +kernel
theorem dX4_writeReach_119 : decode cX4_writeReach 119 = .ok (.iaload, 1) := by decide +kernel
theorem dX4_writeReach_120 : decode cX4_writeReach 120 = .ok (.iconst (-1), 1) := by decide +kernel
theorem dX4_writeReach_121 : decode cX4_writeReach 121 = .ok (.if_icmp .eq 6, 3) := by decide +kernel
theorem dX4_writeReach_124 : decode cX4_writeReach 124 = .ok (.goto 45, 3) := by decide +kernel
theorem dX4_writeReach_127 : decode cX4_writeReach 127 = .ok (.iload_n 2, 1) := by decide +kernel
theorem dX4_writeReach_128 : decode cX4_writeReach 128 = .ok (.istore_n 3, 1) := by decide +kernel
theorem dX4_writeReach_129 : decode cX4_writeReach 129 = .ok (.iload_n 3, 1) := by decide +kernel
theorem dX4_writeReach_130 : decode cX4_writeReach 130 = .ok (.iconst (-1), 1) := by decide +kernel
theorem dX4_writeReach_131 : decode cX4_writeReach 131 = .ok (.if_icmp .eq 38, 3) := by decide +kernel
theorem dX4_writeReach_134 : decode cX4_writeReach 134 = .ok (.aload_n 0, 1) := by decide +kernel
theorem dX4_writeReach_135 : decode cX4_writeReach 135 = .ok (.iload_n 3, 1) := by decide +kernel
theorem dX4_writeReach_136 : decode cX4_writeReach 136 = .ok (.iload_n 2, 1) := by decide +kernel
theorem dX4_writeReach_137 : decode cX4_writeReach 137 = .ok (.if_icmp .ne 8, 3) := by decide +kernel
theorem dX4_writeReach_140 : decode cX4_writeReach 140 = .ok (.bipush 32, 2) := by decide +kernel
theorem dX4_writeReach_142 : decode cX4_writeReach 142 = .ok (.goto 5, 3) := by decide +kernel
theorem dX4_writeReach_145 : decode cX4_writeReach 145 = .ok (.bipush 43, 2) := by decide +kernel
theorem dX4_writeReach_147 : decode cX4_writeReach 147 = .ok (.invokevirtual 243, 3) := by decide +kernel
theorem dX4_writeReach_150 : decode cX4_writeReach 150 = .ok (.aload_n 0, 1) := by decide +kernel
theorem dX4_writeReach_151 : decode cX4_writeReach 151 = .ok (.bipush 48, 2) := by decide +kernel
theorem dX4_writeReach_153 : decode cX4_writeReach 153 = .ok (.iload_n 3, 1) := by decide +kernel
theorem dX4_writeReach_154 : decode cX4_writeReach 154 = .ok (.iadd, 1) := by decide +kernel
theorem dX4_writeReach_155 : decode cX4_writeReach 155 = .ok (.i2c, 1) := by decide +kernel
theorem dX4_writeReach_156 : decode cX4_writeReach 156 = .ok (.invokevirtual 243, 3) := by decide +kernel
theorem dX4_writeReach_159 : decode cX4_writeReach 159 = .ok (.aload_n 0, 1) := by decide +kernel
theorem dX4_writeReach_160 : decode cX4_writeReach 160 = .ok (.getfield 60, 3) := by decide +kernel
theorem dX4_writeReach_163 : decode cX4_writeReach 163 = .ok (.iload_n 3, 1) := by decide +kernel
theorem dX4_writeReach_164 : decode cX4_writeReach 164 = .ok (.iaload, 1) := by decide +kernel
theorem dX4_writeReach_165 : decode cX4_writeReach 165 = .ok (.istore_n 3, 1) := by decide +kernel
theorem dX4_writeReach_166 : decode cX4_writeReach 166 = .ok (.goto (-37), 3) := by decide +kernel
theorem dX4_writeReach_169 : decode cX4_writeReach 169 = .ok (.iinc 2 1, 3) := by decide +kernel
theorem dX4_writeReach_172 : decode cX4_writeReach 172 = .ok (.goto (-76), 3) := by decide +kernel
theorem dX4_writeReach_175 : decode cX4_writeReach 175 = .ok (.aload_n 0, 1) := by decide +kernel
theorem dX4_writeReach_176 : decode cX4_writeReach 176 = .ok (.aload_n 0, 1) := by decide +kernel
theorem dX4_writeReach_177 : decode cX4_writeReach 177 = .ok (.getfield 240, 3) := by decide +kernel
theorem dX4_writeReach_180 : decode cX4_writeReach 180 = .ok (.invokevirtual 125, 3) := by decide +kernel
theorem dX4_writeReach_183 : decode cX4_writeReach 183 = .ok (.ireturn, 1) := by decide +kernel
theorem dX4_lineAt_0 : decode cX4_lineAt 0 = .ok (.aload_n 0, 1) := by decide +kernel
theorem dX4_lineAt_1 : decode cX4_lineAt 1 = .ok (.iload_n 1, 1) := by decide +kernel
theorem dX4_lineAt_2 : decode cX4_lineAt 2 = .ok (.iconst 0, 1) := by decide +kernel
theorem dX4_lineAt_3 : decode cX4_lineAt 3 = .ok (.aload_n 0, 1) := by decide +kernel
theorem dX4_lineAt_4 : decode cX4_lineAt 4 = .ok (.getfield 240, 3) := by decide +kernel
theorem dX4_lineAt_7 : decode cX4_lineAt 7 = .ok (.iconst 1, 1) := by decide +kernel
theorem dX4_lineAt_8 : decode cX4_lineAt 8 = .ok (.isub, 1) := by decide +kernel
theorem dX4_lineAt_9 : decode cX4_lineAt 9 = .ok (.invokestatic 104, 3) := by decide +kernel
theorem dX4_lineAt_12 : decode cX4_lineAt 12 = .ok (.ifCond .eq 7, 3) := by decide +kernel
theorem dX4_lineAt_15 : decode cX4_lineAt 15 = .ok (.iconst 0, 1) := by decide +kernel
theorem dX4_lineAt_16 : decode cX4_lineAt 16 = .ok (.goto 4, 3) := by decide +kernel
theorem dX4_lineAt_19 : decode cX4_lineAt 19 = .ok (.iconst 1, 1) := by decide +kernel
theorem dX4_lineAt_20 : decode cX4_lineAt 20 = .ok (.putfield 101, 3) := by decide +kernel
theorem dX4_lineAt_23 : decode cX4_lineAt 23 = .ok (.aload_n 0, 1) := by decide +kernel
theorem dX4_lineAt_24 : decode cX4_lineAt 24 = .ok (.getfield 101, 3) := by decide +kernel
theorem dX4_lineAt_27 : decode cX4_lineAt 27 = .ok (.ifCond .ne 12, 3) := by decide +kernel
theorem dX4_lineAt_30 : decode cX4_lineAt 30 = .ok (.aload_n 0, 1) := by decide +kernel
theorem dX4_lineAt_31 : decode cX4_lineAt 31 = .ok (.getfield 97, 3) := by decide +kernel
theorem dX4_lineAt_34 : decode cX4_lineAt 34 = .ok (.iload_n 1, 1) := by decide +kernel
theorem dX4_lineAt_35 : decode cX4_lineAt 35 = .ok (.caload, 1) := by decide +kernel
theorem dX4_lineAt_36 : decode cX4_lineAt 36 = .ok (.goto 5, 3) := by decide +kernel
theorem dX4_lineAt_39 : decode cX4_lineAt 39 = .ok (.bipush 32, 2) := by decide +kernel
theorem dX4_lineAt_41 : decode cX4_lineAt 41 = .ok (.ireturn, 1) := by decide +kernel
end
section
/-! LAYER A: the machine's heap seen through places. A place is a region and a number; 'ad' tells its address, 'K' what lies there. A method's body is a judgement az_W over places alone; each row is one row of the kit, said over places. -/
abbrev az_K : Type := Nat → Nat → Option va_E
abbrev az_A : Type := Nat → Nat → Nat
/-- what is fixed for the whole run: where the run's own cells begin, the classes' numbers and slots, the array classes, what the statics hold -/
abbrev az_G : Type := Nat × va_G × (Nat → ClassId) × (State → Heap → Prop)
abbrev az_O : Type := Option Value ⊕ String
abbrev az_B : String := "BargeRiver$Barge"
abbrev az_tys (cs : Nat → ClassId) : List (ClassId × FieldType) := [(cs 0, .int), (cs 1, .boolean), (cs 2, .char), (cs 3, .byte), (cs 4, .long), (cs 5, .object az_B)]
def az_ok (l : Launch) (G : az_G) : Prop :=
  (∀ (s U : State) (H : Heap), s.WarmedH U.vm → G.2.2.2 s H → G.2.2.2 U H) ∧
  (∀ (U : State) (H H1 : Heap), (∀ q : Nat, q < H.size → q < G.1 → H1[q]? = H[q]?) → G.2.2.2 U H → G.2.2.2 U H1) ∧
  (∀ (U : State) (H : Heap) (g : JFrame) (mk : MethodId) (a : Array Value), G.2.2.2 U H → G.2.2.2 (U.calling g mk a) H) ∧ l.stackTraces = false
def az_P (G : az_G) (ad : az_A) (K : az_K) (H : Heap) : Prop :=
  (∀ (r i : Nat) (e : va_E), K r i = some e → va_at G.2.1 vwCl (ad r i, e) H ∧ G.1 ≤ ad r i) ∧
  ∀ (r i r' i' : Nat) (e e' : va_E), K r i = some e → K r' i' = some e' → ad r i = ad r' i' → r = r' ∧ i = i'
def az_u (K : az_K) (r i : Nat) (e : va_E) : az_K := fun r' i' => if r' = r ∧ i' = i then some e else K r' i'
def az_ua (ad : az_A) (r i q : Nat) : az_A := fun r' i' => if r' = r ∧ i' = i then q else ad r' i'
theorem az_u_s {K : az_K} {r i : Nat} {e : va_E} : az_u K r i e r i = some e := if_pos ⟨rfl, rfl⟩
theorem az_u_n {K : az_K} {r i r' i' : Nat} {e : va_E} (h : ¬ (r' = r ∧ i' = i)) : az_u K r i e r' i' = K r' i' := if_neg h
theorem az_P.set {G : az_G} {ad : az_A} {K : az_K} {H H1 : Heap} {r i : Nat} {e0 e : va_E} (h : az_P G ad K H) (h0 : K r i = some e0) (he : va_at G.2.1 vwCl (ad r i, e) H1) (oq : ∀ q : Nat, q ≠ ad r i → H1[q]? = H[q]?) : az_P G ad (az_u K r i e) H1 := by
  have key : ∀ (r' i' : Nat) (e' : va_E), az_u K r i e r' i' = some e' → ∃ e2, K r' i' = some e2 := by
    intro r' i' e' hk
    by_cases hh : r' = r ∧ i' = i
    · obtain ⟨rfl, rfl⟩ := hh; exact ⟨e0, h0⟩
    · rw [az_u_n hh] at hk; exact ⟨e', hk⟩
  refine ⟨fun r' i' e' hk => ?_, fun a b a' b' x x' hx hx' hq => ?_⟩
  · by_cases hh : r' = r ∧ i' = i
    · obtain ⟨rfl, rfl⟩ := hh
      rw [az_u_s] at hk; cases hk
      exact ⟨he, (h.1 _ _ _ h0).2⟩
    · rw [az_u_n hh] at hk
      refine ⟨(h.1 _ _ _ hk).1.kept (oq _ fun hq => hh (h.2 _ _ _ _ _ _ hk h0 hq)), (h.1 _ _ _ hk).2⟩
  · obtain ⟨y, hy⟩ := key _ _ _ hx
    obtain ⟨y', hy'⟩ := key _ _ _ hx'
    exact h.2 _ _ _ _ _ _ hy hy' hq
theorem az_P.new {G : az_G} {ad : az_A} {K : az_K} {H H1 : Heap} {r i q : Nat} {e : va_E} (h : az_P G ad K H) (hq : q = H.size) (he : va_at G.2.1 vwCl (q, e) H1) (oq : ∀ z : Nat, z < q → H1[z]? = H[z]?) (hb : G.1 ≤ q) : az_P G (az_ua ad r i q) (az_u K r i e) H1 := by
  have lt : ∀ (r' i' : Nat) (e' : va_E), K r' i' = some e' → ad r' i' < q := fun r' i' e' hk => by rw [hq]; exact (h.1 _ _ _ hk).1.lt
  refine ⟨fun r' i' e' hk => ?_, fun a b a' b' x x' hx hx' hz => ?_⟩
  · by_cases hh : r' = r ∧ i' = i
    · obtain ⟨rfl, rfl⟩ := hh
      rw [az_u_s] at hk; cases hk
      rw [show az_ua ad r' i' q r' i' = q from if_pos ⟨rfl, rfl⟩]
      exact ⟨he, hb⟩
    · rw [az_u_n hh] at hk
      rw [show az_ua ad r i q r' i' = ad r' i' from if_neg hh]
      exact ⟨(h.1 _ _ _ hk).1.kept (oq _ (lt _ _ _ hk)), (h.1 _ _ _ hk).2⟩
  · by_cases h1 : a = r ∧ b = i <;> by_cases h2 : a' = r ∧ b' = i
    · exact ⟨h1.1.trans h2.1.symm, h1.2.trans h2.2.symm⟩
    · rw [az_u_n h2] at hx'
      rw [show az_ua ad r i q a b = q from if_pos h1, show az_ua ad r i q a' b' = ad a' b' from if_neg h2] at hz
      exact absurd hz (Nat.ne_of_gt (lt _ _ _ hx'))
    · rw [az_u_n h1] at hx
      rw [show az_ua ad r i q a b = ad a b from if_neg h1, show az_ua ad r i q a' b' = q from if_pos h2] at hz
      exact absurd hz (Nat.ne_of_lt (lt _ _ _ hx))
    · rw [az_u_n h1] at hx
      rw [az_u_n h2] at hx'
      rw [show az_ua ad r i q a b = ad a b from if_neg h1, show az_ua ad r i q a' b' = ad a' b' from if_neg h2] at hz
      exact h.2 _ _ _ _ _ _ hx hx' hz
/-- other names for the same cells: each new name means an old one, no two the same -/
theorem az_P.mv {G : az_G} {ad ad' : az_A} {K K' : az_K} {H : Heap} (h : az_P G ad K H) (f : Nat → Nat → Nat × Nat) (h1 : ∀ (r i : Nat) (e : va_E), K' r i = some e → K (f r i).1 (f r i).2 = some e ∧ ad' r i = ad (f r i).1 (f r i).2) (h2 : ∀ (r i r' i' : Nat) (e e' : va_E), K' r i = some e → K' r' i' = some e' → f r i = f r' i' → r = r' ∧ i = i') : az_P G ad' K' H := by
  refine ⟨fun r i e hk => ?_, fun r i r' i' e e' hk hk' hq => ?_⟩
  · obtain ⟨a, b⟩ := h1 r i e hk
    rw [b]
    exact h.1 _ _ _ a
  · obtain ⟨a, b⟩ := h1 r i e hk
    obtain ⟨a', b'⟩ := h1 r' i' e' hk'
    rw [b, b'] at hq
    obtain ⟨c, d⟩ := h.2 _ _ _ _ _ _ a a' hq
    exact h2 r i r' i' e e' hk hk' (Prod.ext c d)
def az_E (G : az_G) (U : State) : Prop := va_K G.2.1 vwCl (az_tys G.2.2.1) U ∧ G.2.2.2 U U.heap ∧ G.1 ≤ U.heap.size
abbrev az_rm (d mc ms : Nat) : Room := { frames := d, cells := mc, slots := ms, locals := 40 * d }
abbrev az_Pc (G : az_G) (av : List Value) (ad : az_A) (K : az_K) : Array Value → State → Prop := va_Pc av (fun U => az_E G U ∧ az_P G ad K U.heap)
def az_Qc (G : az_G) (post : az_O → az_A → az_K → Prop) : Array Value → State → Outcome → State → Prop := fun _ st oc t => (∃ (v : Option Value) (ad' : az_A) (K' : az_K), oc = .returned v ∧ post (.inl v) ad' K' ∧ az_P G ad' K' t.heap) ∧ va_F (fun q => G.1 ≤ q) st t
def az_XC (G : az_G) (post : az_O → az_A → az_K → Prop) : String → State → State → Prop := fun E st t => (∃ (ad' : az_A) (K' : az_K), post (.inr E) ad' K' ∧ az_P G ad' K' t.heap) ∧ va_F (fun q => G.1 ≤ q) st t
def az_fr (G : az_G) : Addr → Prop := fun q => G.1 ≤ q
/-- a contract: from the places as K has them the method comes back (or throws) with 'post' -/
def az_M (l : Launch) (G : az_G) (y : MethodName) (ws : List Cond) (d : Nat) (av : List Value) (ad : az_A) (K : az_K) (mc ms : Nat) (post : az_O → az_A → az_K → Prop) : Prop :=
  vx_Met l y ws (az_rm d mc ms) (az_Pc G av ad K) (az_Qc G post) (az_XC G post) mc ms (az_fr G)
def az_good : List Cond := lw_tbl.filter goodWord
abbrev az_ws (y : MethodName) (b : ByteArray) (n : Nat) (ret : Option FieldType) : List Cond := Cond.code y b n ret :: az_good
/-- the answer v, and the places as they are now -/
def az_r (v : Option Value) (ad : az_A) (K : az_K) : az_O → az_A → az_K → Prop := fun o ad' K' => o = .inl v ∧ ad' = ad ∧ K' = K
/-- it throws E, and the places as they are now -/
def az_x (E : String) (ad : az_A) (K : az_K) : az_O → az_A → az_K → Prop := fun o ad' K' => o = .inr E ∧ ad' = ad ∧ K' = K
theorem az_t {w : Cond} {i : Nat} (h : tables_1[i]? = some w) : w ∈ lw_tbl := List.mem_append_right _ (List.mem_of_getElem? h)
theorem az_tp {w : Cond} {i : Nat} (h : (k2_sels lw_privs)[i]? = some w) : w ∈ lw_tbl := List.mem_append_left _ (List.mem_of_getElem? h)
/-- a method, as the tables have it -/
def az_Y (y : MethodName) (b : ByteArray) (n : Nat) (ret : Option FieldType) (k : Nat) : Prop :=
  Cond.code y b n ret ∈ lw_tbl ∧ Cond.initialized y.cls ∈ lw_tbl ∧ (y.cls ≠ "java/lang/invoke/MethodHandle" ∧ y.cls ≠ "java/lang/invoke/VarHandle") ∧ (parseMethodDescriptor y.desc).map (fun d => d.parameters.length) = some k
def az_cl (ci : Nat) (C : String) (T : u_T) (N : Nat) (ty : Nat → FieldType) : Prop :=
  vwCl[ci]? = some (C, T, N) ∧ (∀ w ∈ u_ws C T N, w ∈ lw_tbl ∧ goodWord w = true) ∧ (∀ k, k < N → parseFieldDescriptor (T k).2.2.1 = some (ty k)) ∧ (∀ a, a < N → ∀ b, b < N → a ≠ b → (T a).2.1 ≠ (T b).2.1)
def az_C (l : Launch) (G : az_G) (p : Program) (s : State) (m : MethodId) (args : Array Value) (meth : Method) (c : Code) (cc : ByteArray) (own : String) (nL : Nat) (ret : Option FieldType) (tab : List ExceptionTableEntry) : Prop :=
  p.tables.exec = Jvm.exec ∧ c.code = cc ∧ c.maxLocals = nL ∧ s.vm.findClass own = some m.cls ∧ (∀ w ∈ lw_tbl, goodWord w = true → w.before args s = true) ∧ va_K G.2.1 vwCl (az_tys G.2.2.1) s ∧ G.2.2.2 s s.heap ∧ G.1 ≤ s.heap.size ∧ meth.locks = false ∧ meth.sig.returnType = ret ∧ c.exceptionTable.toList = tab ∧ az_ok l G
def az_W (l : Launch) (G : az_G) (nL : Nat) (Q : State → Prop) (p : Program) (e : Env) (R : Room) (s : State) (m : MethodId) (args : Array Value) (below : List Frame) (meth : Method) (c : Code) (ad : az_A) (K : az_K) (k n pc : Nat) (lv : List (Nat × Value)) (st : List Value) : Prop :=
  ∀ (H : Heap) (locs : List Loc) (ls : Array Slot), az_P G ad K H → va_S (fun q => G.1 ≤ q) s.heap H locs → lv_has ls nL lv → W p l e R s m args below meth c H locs k n Q (F0 m pc ls st)
/-- thrown, at pc -/
def az_X (l : Launch) (G : az_G) (nL : Nat) (Q : State → Prop) (p : Program) (e : Env) (R : Room) (s : State) (m : MethodId) (args : Array Value) (below : List Frame) (meth : Method) (c : Code) (ad : az_A) (K : az_K) (k n pc : Nat) (lv : List (Nat × Value)) (E : String) : Prop :=
  ∀ (H : Heap) (locs : List Loc) (ls : Array Slot) (rest : List Value) (q : Addr) (ce : Cell), az_P G ad K H → va_S (fun q => G.1 ≤ q) s.heap H locs → lv_has ls nL lv → H[q]? = some ce → ce.vm = .none → s.vm.findClass E = some ce.cls → vx_W p l e R s m args below meth c H locs k n Q (F0 m pc ls rest) q
abbrev az_Q (G : az_G) (post : az_O → az_A → az_K → Prop) (below : List Frame) (args : Array Value) (s : State) (mc ms : Nat) : State → Prop := vx_MQ below (az_Qc G post) (az_XC G post) args s mc ms (az_fr G)
section AZR
variable {l : Launch} {G : az_G} {nL : Nat} {Q : State → Prop} {p : Program} {e : Env} {R : Room} {s : State} {m : MethodId} {args : Array Value} {below : List Frame} {meth : Method} {c : Code} {ad : az_A} {K : az_K} {k n pc : Nat} {lv : List (Nat × Value)} {st : List Value}
variable {cc : ByteArray} {own : String} {ret : Option FieldType} {tab : List ExceptionTableEntry}

theorem az_iconst (C : az_C l G p s m args meth c cc own nL ret tab) {j : Int} {v : Int32} (d : decode cc pc = .ok (.iconst j, 1)) (hv : Int32.ofInt j = v) (kk : az_W l G nL Q p e R s m args below meth c ad K k n (pc + 1) lv (.int v :: st)) : az_W l G nL Q p e R s m args below meth c ad K k n pc lv (st) :=
  fun H locs ls hP hS hl => lv_iconst C.1 C.2.1 d hv (kk H locs ls hP hS hl)
theorem az_lconst (C : az_C l G p s m args meth c cc own nL ret tab) {j : Fin 2} {v : Int64} (d : decode cc pc = .ok (.lconst j, 1)) (hv : Int64.ofNat (j : Nat) = v) (kk : az_W l G nL Q p e R s m args below meth c ad K k n (pc + 1) lv (.long v :: st)) : az_W l G nL Q p e R s m args below meth c ad K k n pc lv (st) :=
  fun H locs ls hP hS hl => lv_lconst C.1 C.2.1 d hv (kk H locs ls hP hS hl)
theorem az_bipush (C : az_C l G p s m args meth c cc own nL ret tab) {j : Int} {v : Int32} (d : decode cc pc = .ok (.bipush j, 2)) (hv : (Int8.ofInt j).toInt32 = v) (kk : az_W l G nL Q p e R s m args below meth c ad K k n (pc + 2) lv (.int v :: st)) : az_W l G nL Q p e R s m args below meth c ad K k n pc lv (st) :=
  fun H locs ls hP hS hl => lv_bipush C.1 C.2.1 d hv (kk H locs ls hP hS hl)
theorem az_sipush (C : az_C l G p s m args meth c cc own nL ret tab) {j : Int} {v : Int32} (d : decode cc pc = .ok (.sipush j, 3)) (hv : (Int16.ofInt j).toInt32 = v) (kk : az_W l G nL Q p e R s m args below meth c ad K k n (pc + 3) lv (.int v :: st)) : az_W l G nL Q p e R s m args below meth c ad K k n pc lv (st) :=
  fun H locs ls hP hS hl => lv_sipush C.1 C.2.1 d hv (kk H locs ls hP hS hl)
theorem az_null (C : az_C l G p s m args meth c cc own nL ret tab)  (d : decode cc pc = .ok (.aconst_null, 1))  (kk : az_W l G nL Q p e R s m args below meth c ad K k n (pc + 1) lv (.null :: st)) : az_W l G nL Q p e R s m args below meth c ad K k n pc lv (st) :=
  fun H locs ls hP hS hl => lv_null C.1 C.2.1 d (kk H locs ls hP hS hl)
theorem az_iload_n (C : az_C l G p s m args meth c cc own nL ret tab) {j : Fin 4} {x : Int32} (z : Nat) (d : decode cc pc = .ok (.iload_n j, 1)) (hl0 : lv[z]? = some ((j : Nat), .int x)) (kk : az_W l G nL Q p e R s m args below meth c ad K k n (pc + 1) lv (.int x :: st)) : az_W l G nL Q p e R s m args below meth c ad K k n pc lv (st) :=
  fun H locs ls hP hS hl => lv_iload_n C.1 C.2.1 d rfl (lv_at hl z hl0) (kk H locs ls hP hS hl)
theorem az_iload (C : az_C l G p s m args meth c cc own nL ret tab) {j : Nat} {x : Int32} (z : Nat) (d : decode cc pc = .ok (.iload j, 2)) (hl0 : lv[z]? = some (j, .int x)) (kk : az_W l G nL Q p e R s m args below meth c ad K k n (pc + 2) lv (.int x :: st)) : az_W l G nL Q p e R s m args below meth c ad K k n pc lv (st) :=
  fun H locs ls hP hS hl => lv_iload C.1 C.2.1 d (lv_at hl z hl0) (kk H locs ls hP hS hl)
theorem az_lload_n (C : az_C l G p s m args meth c cc own nL ret tab) {j : Fin 4} {x : Int64} (z : Nat) (d : decode cc pc = .ok (.lload_n j, 1)) (hl0 : lv[z]? = some ((j : Nat), .long x)) (kk : az_W l G nL Q p e R s m args below meth c ad K k n (pc + 1) lv (.long x :: st)) : az_W l G nL Q p e R s m args below meth c ad K k n pc lv (st) :=
  fun H locs ls hP hS hl => lv_lload_n C.1 C.2.1 d rfl (lv_at hl z hl0) (kk H locs ls hP hS hl)
theorem az_lload (C : az_C l G p s m args meth c cc own nL ret tab) {j : Nat} {x : Int64} (z : Nat) (d : decode cc pc = .ok (.lload j, 2)) (hl0 : lv[z]? = some (j, .long x)) (kk : az_W l G nL Q p e R s m args below meth c ad K k n (pc + 2) lv (.long x :: st)) : az_W l G nL Q p e R s m args below meth c ad K k n pc lv (st) :=
  fun H locs ls hP hS hl => lv_lload C.1 C.2.1 d (lv_at hl z hl0) (kk H locs ls hP hS hl)
theorem az_dload (C : az_C l G p s m args meth c cc own nL ret tab) {j : Nat} {x : UInt64} (z : Nat) (d : decode cc pc = .ok (.dload j, 2)) (hl0 : lv[z]? = some (j, .double x)) (kk : az_W l G nL Q p e R s m args below meth c ad K k n (pc + 2) lv (.double x :: st)) : az_W l G nL Q p e R s m args below meth c ad K k n pc lv (st) :=
  fun H locs ls hP hS hl => lv_dload C.1 C.2.1 d (lv_at hl z hl0) (kk H locs ls hP hS hl)
theorem az_aload_n (C : az_C l G p s m args meth c cc own nL ret tab) {j : Fin 4} {x : Nat} (z : Nat) (d : decode cc pc = .ok (.aload_n j, 1)) (hl0 : lv[z]? = some ((j : Nat), .ref x)) (kk : az_W l G nL Q p e R s m args below meth c ad K k n (pc + 1) lv (.ref x :: st)) : az_W l G nL Q p e R s m args below meth c ad K k n pc lv (st) :=
  fun H locs ls hP hS hl => lv_aload_n C.1 C.2.1 d rfl (lv_at hl z hl0) (kk H locs ls hP hS hl)
theorem az_aload (C : az_C l G p s m args meth c cc own nL ret tab) {j : Nat} {x : Nat} (z : Nat) (d : decode cc pc = .ok (.aload j, 2)) (hl0 : lv[z]? = some (j, .ref x)) (kk : az_W l G nL Q p e R s m args below meth c ad K k n (pc + 2) lv (.ref x :: st)) : az_W l G nL Q p e R s m args below meth c ad K k n pc lv (st) :=
  fun H locs ls hP hS hl => lv_aload C.1 C.2.1 d (lv_at hl z hl0) (kk H locs ls hP hS hl)
theorem az_aload_nN (C : az_C l G p s m args meth c cc own nL ret tab) {j : Fin 4} (z : Nat) (d : decode cc pc = .ok (.aload_n j, 1)) (hl0 : lv[z]? = some ((j : Nat), .null)) (kk : az_W l G nL Q p e R s m args below meth c ad K k n (pc + 1) lv (.null :: st)) : az_W l G nL Q p e R s m args below meth c ad K k n pc lv (st) :=
  fun H locs ls hP hS hl => lv_aload_nN C.1 C.2.1 d rfl (lv_at hl z hl0) (kk H locs ls hP hS hl)
theorem az_aloadN (C : az_C l G p s m args meth c cc own nL ret tab) {j : Nat} (z : Nat) (d : decode cc pc = .ok (.aload j, 2)) (hl0 : lv[z]? = some (j, .null)) (kk : az_W l G nL Q p e R s m args below meth c ad K k n (pc + 2) lv (.null :: st)) : az_W l G nL Q p e R s m args below meth c ad K k n pc lv (st) :=
  fun H locs ls hP hS hl => lv_aloadN C.1 C.2.1 d (lv_at hl z hl0) (kk H locs ls hP hS hl)
theorem az_istore_n (C : az_C l G p s m args meth c cc own nL ret tab) {i : Fin 4} {j : Nat} {x : Int32} (hi : (i : Nat) = j) {lv' : List (Nat × Value)} (d : decode cc pc = .ok (.istore_n i, 1)) (hn : j < nL) (hl1 : (j, Value.int x) :: lv.filter (fun q => !(q.1 == j) && !(q.1 + 1 == j && q.2.category == 2)) = lv') (kk : az_W l G nL Q p e R s m args below meth c ad K k n (pc + 1) lv' st) : az_W l G nL Q p e R s m args below meth c ad K k n pc lv (Value.int x :: st) :=
  fun H locs ls hP hS hl => lv_istore_n C.1 C.2.1 d hi hl hn hl1 (fun ls' hl' => kk H locs ls' hP hS hl')
theorem az_istore (C : az_C l G p s m args meth c cc own nL ret tab) {j : Nat} {x : Int32} {lv' : List (Nat × Value)} (d : decode cc pc = .ok (.istore j, 2)) (hn : j < nL) (hl1 : (j, Value.int x) :: lv.filter (fun q => !(q.1 == j) && !(q.1 + 1 == j && q.2.category == 2)) = lv') (kk : az_W l G nL Q p e R s m args below meth c ad K k n (pc + 2) lv' st) : az_W l G nL Q p e R s m args below meth c ad K k n pc lv (Value.int x :: st) :=
  fun H locs ls hP hS hl => lv_istore C.1 C.2.1 d hl hn hl1 (fun ls' hl' => kk H locs ls' hP hS hl')
theorem az_lstore_n (C : az_C l G p s m args meth c cc own nL ret tab) {i : Fin 4} {j : Nat} {x : Int64} (hi : (i : Nat) = j) {lv' : List (Nat × Value)} (d : decode cc pc = .ok (.lstore_n i, 1)) (hn : j + 1 < nL) (hl1 : (j, Value.long x) :: lv.filter (fun q => !(q.1 == j) && (!(q.1 == j + 1) && !(q.1 + 1 == j && q.2.category == 2))) = lv') (kk : az_W l G nL Q p e R s m args below meth c ad K k n (pc + 1) lv' st) : az_W l G nL Q p e R s m args below meth c ad K k n pc lv (Value.long x :: st) :=
  fun H locs ls hP hS hl => lv_lstore_n C.1 C.2.1 d hi hl hn hl1 (fun ls' hl' => kk H locs ls' hP hS hl')
theorem az_lstore (C : az_C l G p s m args meth c cc own nL ret tab) {j : Nat} {x : Int64} {lv' : List (Nat × Value)} (d : decode cc pc = .ok (.lstore j, 2)) (hn : j + 1 < nL) (hl1 : (j, Value.long x) :: lv.filter (fun q => !(q.1 == j) && (!(q.1 == j + 1) && !(q.1 + 1 == j && q.2.category == 2))) = lv') (kk : az_W l G nL Q p e R s m args below meth c ad K k n (pc + 2) lv' st) : az_W l G nL Q p e R s m args below meth c ad K k n pc lv (Value.long x :: st) :=
  fun H locs ls hP hS hl => lv_lstore C.1 C.2.1 d hl hn hl1 (fun ls' hl' => kk H locs ls' hP hS hl')
theorem az_astore_n (C : az_C l G p s m args meth c cc own nL ret tab) {i : Fin 4} {j : Nat} {x : Nat} (hi : (i : Nat) = j) {lv' : List (Nat × Value)} (d : decode cc pc = .ok (.astore_n i, 1)) (hn : j < nL) (hl1 : (j, Value.ref x) :: lv.filter (fun q => !(q.1 == j) && !(q.1 + 1 == j && q.2.category == 2)) = lv') (kk : az_W l G nL Q p e R s m args below meth c ad K k n (pc + 1) lv' st) : az_W l G nL Q p e R s m args below meth c ad K k n pc lv (Value.ref x :: st) :=
  fun H locs ls hP hS hl => lv_astore_n C.1 C.2.1 d hi hl hn hl1 (fun ls' hl' => kk H locs ls' hP hS hl')
theorem az_astore (C : az_C l G p s m args meth c cc own nL ret tab) {j : Nat} {x : Nat} {lv' : List (Nat × Value)} (d : decode cc pc = .ok (.astore j, 2)) (hn : j < nL) (hl1 : (j, Value.ref x) :: lv.filter (fun q => !(q.1 == j) && !(q.1 + 1 == j && q.2.category == 2)) = lv') (kk : az_W l G nL Q p e R s m args below meth c ad K k n (pc + 2) lv' st) : az_W l G nL Q p e R s m args below meth c ad K k n pc lv (Value.ref x :: st) :=
  fun H locs ls hP hS hl => lv_astore C.1 C.2.1 d hl hn hl1 (fun ls' hl' => kk H locs ls' hP hS hl')
theorem az_dstore (C : az_C l G p s m args meth c cc own nL ret tab) {j : Nat} {x : UInt64} {lv' : List (Nat × Value)} (d : decode cc pc = .ok (.dstore j, 2)) (hn : j + 1 < nL) (hl1 : (j, Value.double x) :: lv.filter (fun q => !(q.1 == j) && (!(q.1 == j + 1) && !(q.1 + 1 == j && q.2.category == 2))) = lv') (kk : az_W l G nL Q p e R s m args below meth c ad K k n (pc + 2) lv' st) : az_W l G nL Q p e R s m args below meth c ad K k n pc lv (Value.double x :: st) :=
  fun H locs ls hP hS hl => lv_dstore C.1 C.2.1 d hl hn hl1 (fun ls' hl' => kk H locs ls' hP hS hl')
theorem az_astore_nN (C : az_C l G p s m args meth c cc own nL ret tab) {i : Fin 4} {j : Nat} (hi : (i : Nat) = j) {lv' : List (Nat × Value)} (d : decode cc pc = .ok (.astore_n i, 1)) (hn : j < nL) (hl1 : (j, Value.null) :: lv.filter (fun q => !(q.1 == j) && !(q.1 + 1 == j && q.2.category == 2)) = lv') (kk : az_W l G nL Q p e R s m args below meth c ad K k n (pc + 1) lv' st) : az_W l G nL Q p e R s m args below meth c ad K k n pc lv (Value.null :: st) :=
  fun H locs ls hP hS hl => lv_astore_nN C.1 C.2.1 d hi hl hn hl1 (fun ls' hl' => kk H locs ls' hP hS hl')
theorem az_astoreN (C : az_C l G p s m args meth c cc own nL ret tab) {j : Nat} {lv' : List (Nat × Value)} (d : decode cc pc = .ok (.astore j, 2)) (hn : j < nL) (hl1 : (j, Value.null) :: lv.filter (fun q => !(q.1 == j) && !(q.1 + 1 == j && q.2.category == 2)) = lv') (kk : az_W l G nL Q p e R s m args below meth c ad K k n (pc + 2) lv' st) : az_W l G nL Q p e R s m args below meth c ad K k n pc lv (Value.null :: st) :=
  fun H locs ls hP hS hl => lv_astoreN C.1 C.2.1 d hl hn hl1 (fun ls' hl' => kk H locs ls' hP hS hl')
theorem az_iinc (C : az_C l G p s m args meth c cc own nL ret tab) {j : Nat} {a : Int} {x v : Int32} (z : Nat) {lv' : List (Nat × Value)} (d : decode cc pc = .ok (.iinc j a, 3)) (hl0 : lv[z]? = some (j, .int x)) (hv : x + Int32.ofInt a = v) (hn : j < nL) (hl1 : (j, Value.int v) :: lv.filter (fun q => !(q.1 == j) && !(q.1 + 1 == j && q.2.category == 2)) = lv') (kk : az_W l G nL Q p e R s m args below meth c ad K k n (pc + 3) lv' st) : az_W l G nL Q p e R s m args below meth c ad K k n pc lv st :=
  fun H locs ls hP hS hl => lv_iinc C.1 C.2.1 d hl (k := z) hl0 hv hn hl1 (fun ls' hl' => kk H locs ls' hP hS hl')
theorem az_iadd (C : az_C l G p s m args meth c cc own nL ret tab) {x y : Int32} (d : decode cc pc = .ok (.iadd, 1))  (kk : az_W l G nL Q p e R s m args below meth c ad K k n (pc + 1) lv (.int (x + y) :: st)) : az_W l G nL Q p e R s m args below meth c ad K k n pc lv (.int y :: .int x :: st) :=
  fun H locs ls hP hS hl => lv_iadd C.1 C.2.1 d (kk H locs ls hP hS hl)
theorem az_isub (C : az_C l G p s m args meth c cc own nL ret tab) {x y : Int32} (d : decode cc pc = .ok (.isub, 1))  (kk : az_W l G nL Q p e R s m args below meth c ad K k n (pc + 1) lv (.int (x - y) :: st)) : az_W l G nL Q p e R s m args below meth c ad K k n pc lv (.int y :: .int x :: st) :=
  fun H locs ls hP hS hl => lv_isub C.1 C.2.1 d (kk H locs ls hP hS hl)
theorem az_imul (C : az_C l G p s m args meth c cc own nL ret tab) {x y : Int32} (d : decode cc pc = .ok (.imul, 1))  (kk : az_W l G nL Q p e R s m args below meth c ad K k n (pc + 1) lv (.int (x * y) :: st)) : az_W l G nL Q p e R s m args below meth c ad K k n pc lv (.int y :: .int x :: st) :=
  fun H locs ls hP hS hl => lv_imul C.1 C.2.1 d (kk H locs ls hP hS hl)
theorem az_iand (C : az_C l G p s m args meth c cc own nL ret tab) {x y : Int32} (d : decode cc pc = .ok (.iand, 1))  (kk : az_W l G nL Q p e R s m args below meth c ad K k n (pc + 1) lv (.int (x &&& y) :: st)) : az_W l G nL Q p e R s m args below meth c ad K k n pc lv (.int y :: .int x :: st) :=
  fun H locs ls hP hS hl => lv_iand C.1 C.2.1 d (kk H locs ls hP hS hl)
theorem az_ishr (C : az_C l G p s m args meth c cc own nL ret tab) {x y : Int32} (d : decode cc pc = .ok (.ishr, 1))  (kk : az_W l G nL Q p e R s m args below meth c ad K k n (pc + 1) lv (.int (x >>> (y &&& 31)) :: st)) : az_W l G nL Q p e R s m args below meth c ad K k n pc lv (.int y :: .int x :: st) :=
  fun H locs ls hP hS hl => lv_ishr C.1 C.2.1 d (kk H locs ls hP hS hl)
theorem az_ladd (C : az_C l G p s m args meth c cc own nL ret tab) {x y : Int64} (d : decode cc pc = .ok (.ladd, 1))  (kk : az_W l G nL Q p e R s m args below meth c ad K k n (pc + 1) lv (.long (x + y) :: st)) : az_W l G nL Q p e R s m args below meth c ad K k n pc lv (.long y :: .long x :: st) :=
  fun H locs ls hP hS hl => lv_ladd C.1 C.2.1 d (kk H locs ls hP hS hl)
theorem az_lsub (C : az_C l G p s m args meth c cc own nL ret tab) {x y : Int64} (d : decode cc pc = .ok (.lsub, 1))  (kk : az_W l G nL Q p e R s m args below meth c ad K k n (pc + 1) lv (.long (x - y) :: st)) : az_W l G nL Q p e R s m args below meth c ad K k n pc lv (.long y :: .long x :: st) :=
  fun H locs ls hP hS hl => lv_lsub C.1 C.2.1 d (kk H locs ls hP hS hl)
theorem az_lmul (C : az_C l G p s m args meth c cc own nL ret tab) {x y : Int64} (d : decode cc pc = .ok (.lmul, 1))  (kk : az_W l G nL Q p e R s m args below meth c ad K k n (pc + 1) lv (.long (x * y) :: st)) : az_W l G nL Q p e R s m args below meth c ad K k n pc lv (.long y :: .long x :: st) :=
  fun H locs ls hP hS hl => lv_lmul C.1 C.2.1 d (kk H locs ls hP hS hl)
theorem az_idiv (C : az_C l G p s m args meth c cc own nL ret tab) {x y : Int32} (d : decode cc pc = .ok (.idiv, 1)) (h0 : ¬ y = 0) (kk : az_W l G nL Q p e R s m args below meth c ad K k n (pc + 1) lv (.int (x / y) :: st)) : az_W l G nL Q p e R s m args below meth c ad K k n pc lv (.int y :: .int x :: st) :=
  fun H locs ls hP hS hl => lv_idiv C.1 C.2.1 d h0 (kk H locs ls hP hS hl)
theorem az_irem (C : az_C l G p s m args meth c cc own nL ret tab) {x y : Int32} (d : decode cc pc = .ok (.irem, 1)) (h0 : ¬ y = 0) (kk : az_W l G nL Q p e R s m args below meth c ad K k n (pc + 1) lv (.int (x - x / y * y) :: st)) : az_W l G nL Q p e R s m args below meth c ad K k n pc lv (.int y :: .int x :: st) :=
  fun H locs ls hP hS hl => lv_irem C.1 C.2.1 d h0 (kk H locs ls hP hS hl)
theorem az_ineg (C : az_C l G p s m args meth c cc own nL ret tab) {x : Int32} (d : decode cc pc = .ok (.ineg, 1))  (kk : az_W l G nL Q p e R s m args below meth c ad K k n (pc + 1) lv (.int (-x) :: st)) : az_W l G nL Q p e R s m args below meth c ad K k n pc lv (.int x :: st) :=
  fun H locs ls hP hS hl => lv_ineg C.1 C.2.1 d (kk H locs ls hP hS hl)
theorem az_lcmp (C : az_C l G p s m args meth c cc own nL ret tab) {x y : Int64} (d : decode cc pc = .ok (.lcmp, 1))  (kk : az_W l G nL Q p e R s m args below meth c ad K k n (pc + 1) lv (.int (lg_cmp x y) :: st)) : az_W l G nL Q p e R s m args below meth c ad K k n pc lv (.long y :: .long x :: st) :=
  fun H locs ls hP hS hl => W.lcmp C.1 C.2.1 d (kk H locs ls hP hS hl)
theorem az_i2l (C : az_C l G p s m args meth c cc own nL ret tab) {x : Int32} (d : decode cc pc = .ok (.i2l, 1))  (kk : az_W l G nL Q p e R s m args below meth c ad K k n (pc + 1) lv (.long x.toInt64 :: st)) : az_W l G nL Q p e R s m args below meth c ad K k n pc lv (.int x :: st) :=
  fun H locs ls hP hS hl => lv_i2l C.1 C.2.1 d rfl (kk H locs ls hP hS hl)
theorem az_l2i (C : az_C l G p s m args meth c cc own nL ret tab) {x : Int64} (d : decode cc pc = .ok (.l2i, 1))  (kk : az_W l G nL Q p e R s m args below meth c ad K k n (pc + 1) lv (.int x.toInt32 :: st)) : az_W l G nL Q p e R s m args below meth c ad K k n pc lv (.long x :: st) :=
  fun H locs ls hP hS hl => lv_l2i C.1 C.2.1 d rfl (kk H locs ls hP hS hl)
theorem az_i2c (C : az_C l G p s m args meth c cc own nL ret tab) {x : Int32} (d : decode cc pc = .ok (.i2c, 1))  (kk : az_W l G nL Q p e R s m args below meth c ad K k n (pc + 1) lv (.int (x.toUInt32 % 65536).toInt32 :: st)) : az_W l G nL Q p e R s m args below meth c ad K k n pc lv (.int x :: st) :=
  fun H locs ls hP hS hl => lv_i2c C.1 C.2.1 d rfl (kk H locs ls hP hS hl)
theorem az_i2b (C : az_C l G p s m args meth c cc own nL ret tab) {x : Int32} (d : decode cc pc = .ok (.i2b, 1))  (kk : az_W l G nL Q p e R s m args below meth c ad K k n (pc + 1) lv (.int x.toInt8.toInt32 :: st)) : az_W l G nL Q p e R s m args below meth c ad K k n pc lv (.int x :: st) :=
  fun H locs ls hP hS hl => lv_i2b C.1 C.2.1 d rfl (kk H locs ls hP hS hl)
theorem az_i2d (C : az_C l G p s m args meth c cc own nL ret tab) {x : Int32} (d : decode cc pc = .ok (.i2d, 1))  (kk : az_W l G nL Q p e R s m args below meth c ad K k n (pc + 1) lv (.double (FP.i2d x) :: st)) : az_W l G nL Q p e R s m args below meth c ad K k n pc lv (.int x :: st) :=
  fun H locs ls hP hS hl => lv_i2d C.1 C.2.1 d (kk H locs ls hP hS hl)
theorem az_ddiv (C : az_C l G p s m args meth c cc own nL ret tab) {x y : UInt64} (d : decode cc pc = .ok (.ddiv, 1)) (hne : vf_n64 (FP.ddiv x y)) (kk : az_W l G nL Q p e R s m args below meth c ad K k n (pc + 1) lv (.double (FP.ddiv x y) :: st)) : az_W l G nL Q p e R s m args below meth c ad K k n pc lv (.double y :: .double x :: st) :=
  fun H locs ls hP hS hl => lv_ddiv C.1 C.2.1 d hne (kk H locs ls hP hS hl)
theorem az_dcmp (C : az_C l G p s m args meth c cc own nL ret tab) {x y : UInt64} {o : CmpOp} (d : decode cc pc = .ok (.dcmp o, 1))  (kk : az_W l G nL Q p e R s m args below meth c ad K k n (pc + 1) lv (.int (Op.cmpValue (FP.dcmp x y) o) :: st)) : az_W l G nL Q p e R s m args below meth c ad K k n pc lv (.double y :: .double x :: st) :=
  fun H locs ls hP hS hl => lv_dcmp C.1 C.2.1 d (kk H locs ls hP hS hl)
theorem az_dup (C : az_C l G p s m args meth c cc own nL ret tab) {v : Value} (d : decode cc pc = .ok (.dup, 1)) (hv : v.category = 1) (kk : az_W l G nL Q p e R s m args below meth c ad K k n (pc + 1) lv (v :: v :: st)) : az_W l G nL Q p e R s m args below meth c ad K k n pc lv (v :: st) :=
  fun H locs ls hP hS hl => lv_dup C.1 C.2.1 d hv (kk H locs ls hP hS hl)
theorem az_pop (C : az_C l G p s m args meth c cc own nL ret tab) {v : Value} (d : decode cc pc = .ok (.pop, 1)) (hv : v.category = 1) (kk : az_W l G nL Q p e R s m args below meth c ad K k n (pc + 1) lv (st)) : az_W l G nL Q p e R s m args below meth c ad K k n pc lv (v :: st) :=
  fun H locs ls hP hS hl => lv_pop C.1 C.2.1 d hv (kk H locs ls hP hS hl)
theorem az_dup2 (C : az_C l G p s m args meth c cc own nL ret tab) {v u : Value} (d : decode cc pc = .ok (.dup2, 1)) (hv : v.category = 1) (hu : u.category = 1) (kk : az_W l G nL Q p e R s m args below meth c ad K k n (pc + 1) lv (v :: u :: v :: u :: st)) : az_W l G nL Q p e R s m args below meth c ad K k n pc lv (v :: u :: st) :=
  fun H locs ls hP hS hl => lv_dup2_11 C.1 C.2.1 d hv hu (kk H locs ls hP hS hl)
theorem az_dup_x1 (C : az_C l G p s m args meth c cc own nL ret tab) {v u : Value} (d : decode cc pc = .ok (.dup_x1, 1)) (hv : v.category = 1) (hu : u.category = 1) (kk : az_W l G nL Q p e R s m args below meth c ad K k n (pc + 1) lv (v :: u :: v :: st)) : az_W l G nL Q p e R s m args below meth c ad K k n pc lv (v :: u :: st) :=
  fun H locs ls hP hS hl => lv_dup_x1 C.1 C.2.1 d hv hu (kk H locs ls hP hS hl)
theorem az_topi {x : Int32} (kk : ∀ y : Int32, y = x → az_W l G nL Q p e R s m args below meth c ad K k n pc lv (.int y :: st)) : az_W l G nL Q p e R s m args below meth c ad K k n pc lv (.int x :: st) := kk x rfl
theorem az_topl {x : Int64} (kk : ∀ y : Int64, y = x → az_W l G nL Q p e R s m args below meth c ad K k n pc lv (.long y :: st)) : az_W l G nL Q p e R s m args below meth c ad K k n pc lv (.long x :: st) := kk x rfl
theorem az_top {x : Int32} (y : Int32) (h : x = y) (kk : az_W l G nL Q p e R s m args below meth c ad K k n pc lv (.int y :: st)) : az_W l G nL Q p e R s m args below meth c ad K k n pc lv (.int x :: st) := h ▸ kk
theorem az_st (st' : List Value) (h : st = st') (kk : az_W l G nL Q p e R s m args below meth c ad K k n pc lv st') : az_W l G nL Q p e R s m args below meth c ad K k n pc lv st := h ▸ kk
theorem az_lv (ks : List Nat) {lv' : List (Nat × Value)} (h : lv_pick lv ks = lv') (kk : az_W l G nL Q p e R s m args below meth c ad K k n pc lv' st) : az_W l G nL Q p e R s m args below meth c ad K k n pc lv st := fun H locs ls hP hS hl => kk H locs ls hP hS (lv_sub hl ks h)
theorem az_kn (k' n' : Nat) (h1 : k ≤ k') (h2 : n ≤ n') (kk : az_W l G nL Q p e R s m args below meth c ad K k' n' pc lv st) : az_W l G nL Q p e R s m args below meth c ad K k n pc lv st := fun H locs ls hP hS hl => W.widen h1 h2 (kk H locs ls hP hS hl)
theorem az_to {ad' : az_A} {K' : az_K} (h1 : ad = ad') (h2 : K = K') (kk : az_W l G nL Q p e R s m args below meth c ad' K' k n pc lv st) : az_W l G nL Q p e R s m args below meth c ad K k n pc lv st := by subst h1; subst h2; exact kk
theorem az_mv {ad' : az_A} {K' : az_K} (f : Nat → Nat → Nat × Nat) (h1 : ∀ (r i : Nat) (e : va_E), K' r i = some e → K (f r i).1 (f r i).2 = some e ∧ ad' r i = ad (f r i).1 (f r i).2) (h2 : ∀ (r i r' i' : Nat) (e e' : va_E), K' r i = some e → K' r' i' = some e' → f r i = f r' i' → r = r' ∧ i = i') (kk : az_W l G nL Q p e R s m args below meth c ad' K' k n pc lv st) : az_W l G nL Q p e R s m args below meth c ad K k n pc lv st := fun H locs ls hP hS hl => kk H locs ls (hP.mv f h1 h2) hS hl
theorem az_if_eq (C : az_C l G p s m args meth c cc own nL ret tab) {x : Int32} {off : Int} (tgt : Nat) (d : decode cc pc = .ok (.ifCond .eq off, 3)) (ht : (pc : Int) + off = (tgt : Int)) (kt : x = 0 → az_W l G nL Q p e R s m args below meth c ad K k n tgt lv st) (kf : ¬ x = 0 → az_W l G nL Q p e R s m args below meth c ad K k n (pc + 3) lv st) : az_W l G nL Q p e R s m args below meth c ad K k n pc lv (.int x :: st) :=
  fun H locs ls hP hS hl => lv_if_eq C.1 C.2.1 d ht (fun q => kt q H locs ls hP hS hl) (fun q => kf q H locs ls hP hS hl)
theorem az_icmp_eq (C : az_C l G p s m args meth c cc own nL ret tab) {x y : Int32} {off : Int} (tgt : Nat) (d : decode cc pc = .ok (.if_icmp .eq off, 3)) (ht : (pc : Int) + off = (tgt : Int)) (kt : x = y → az_W l G nL Q p e R s m args below meth c ad K k n tgt lv st) (kf : ¬ x = y → az_W l G nL Q p e R s m args below meth c ad K k n (pc + 3) lv st) : az_W l G nL Q p e R s m args below meth c ad K k n pc lv (.int y :: .int x :: st) :=
  fun H locs ls hP hS hl => lv_icmp_eq C.1 C.2.1 d ht (fun q => kt q H locs ls hP hS hl) (fun q => kf q H locs ls hP hS hl)
theorem az_if_ne (C : az_C l G p s m args meth c cc own nL ret tab) {x : Int32} {off : Int} (tgt : Nat) (d : decode cc pc = .ok (.ifCond .ne off, 3)) (ht : (pc : Int) + off = (tgt : Int)) (kt : ¬ x = 0 → az_W l G nL Q p e R s m args below meth c ad K k n tgt lv st) (kf : x = 0 → az_W l G nL Q p e R s m args below meth c ad K k n (pc + 3) lv st) : az_W l G nL Q p e R s m args below meth c ad K k n pc lv (.int x :: st) :=
  fun H locs ls hP hS hl => lv_if_ne C.1 C.2.1 d ht (fun q => kt q H locs ls hP hS hl) (fun q => kf q H locs ls hP hS hl)
theorem az_icmp_ne (C : az_C l G p s m args meth c cc own nL ret tab) {x y : Int32} {off : Int} (tgt : Nat) (d : decode cc pc = .ok (.if_icmp .ne off, 3)) (ht : (pc : Int) + off = (tgt : Int)) (kt : ¬ x = y → az_W l G nL Q p e R s m args below meth c ad K k n tgt lv st) (kf : x = y → az_W l G nL Q p e R s m args below meth c ad K k n (pc + 3) lv st) : az_W l G nL Q p e R s m args below meth c ad K k n pc lv (.int y :: .int x :: st) :=
  fun H locs ls hP hS hl => lv_icmp_ne C.1 C.2.1 d ht (fun q => kt q H locs ls hP hS hl) (fun q => kf q H locs ls hP hS hl)
theorem az_if_lt (C : az_C l G p s m args meth c cc own nL ret tab) {x : Int32} {off : Int} (tgt : Nat) (d : decode cc pc = .ok (.ifCond .lt off, 3)) (ht : (pc : Int) + off = (tgt : Int)) (kt : x < 0 → az_W l G nL Q p e R s m args below meth c ad K k n tgt lv st) (kf : ¬ x < 0 → az_W l G nL Q p e R s m args below meth c ad K k n (pc + 3) lv st) : az_W l G nL Q p e R s m args below meth c ad K k n pc lv (.int x :: st) :=
  fun H locs ls hP hS hl => lv_if_lt C.1 C.2.1 d ht (fun q => kt q H locs ls hP hS hl) (fun q => kf q H locs ls hP hS hl)
theorem az_icmp_lt (C : az_C l G p s m args meth c cc own nL ret tab) {x y : Int32} {off : Int} (tgt : Nat) (d : decode cc pc = .ok (.if_icmp .lt off, 3)) (ht : (pc : Int) + off = (tgt : Int)) (kt : x < y → az_W l G nL Q p e R s m args below meth c ad K k n tgt lv st) (kf : ¬ x < y → az_W l G nL Q p e R s m args below meth c ad K k n (pc + 3) lv st) : az_W l G nL Q p e R s m args below meth c ad K k n pc lv (.int y :: .int x :: st) :=
  fun H locs ls hP hS hl => lv_icmp_lt C.1 C.2.1 d ht (fun q => kt q H locs ls hP hS hl) (fun q => kf q H locs ls hP hS hl)
theorem az_if_ge (C : az_C l G p s m args meth c cc own nL ret tab) {x : Int32} {off : Int} (tgt : Nat) (d : decode cc pc = .ok (.ifCond .ge off, 3)) (ht : (pc : Int) + off = (tgt : Int)) (kt : 0 ≤ x → az_W l G nL Q p e R s m args below meth c ad K k n tgt lv st) (kf : ¬ 0 ≤ x → az_W l G nL Q p e R s m args below meth c ad K k n (pc + 3) lv st) : az_W l G nL Q p e R s m args below meth c ad K k n pc lv (.int x :: st) :=
  fun H locs ls hP hS hl => lv_if_ge C.1 C.2.1 d ht (fun q => kt q H locs ls hP hS hl) (fun q => kf q H locs ls hP hS hl)
theorem az_icmp_ge (C : az_C l G p s m args meth c cc own nL ret tab) {x y : Int32} {off : Int} (tgt : Nat) (d : decode cc pc = .ok (.if_icmp .ge off, 3)) (ht : (pc : Int) + off = (tgt : Int)) (kt : y ≤ x → az_W l G nL Q p e R s m args below meth c ad K k n tgt lv st) (kf : ¬ y ≤ x → az_W l G nL Q p e R s m args below meth c ad K k n (pc + 3) lv st) : az_W l G nL Q p e R s m args below meth c ad K k n pc lv (.int y :: .int x :: st) :=
  fun H locs ls hP hS hl => lv_icmp_ge C.1 C.2.1 d ht (fun q => kt q H locs ls hP hS hl) (fun q => kf q H locs ls hP hS hl)
theorem az_if_gt (C : az_C l G p s m args meth c cc own nL ret tab) {x : Int32} {off : Int} (tgt : Nat) (d : decode cc pc = .ok (.ifCond .gt off, 3)) (ht : (pc : Int) + off = (tgt : Int)) (kt : 0 < x → az_W l G nL Q p e R s m args below meth c ad K k n tgt lv st) (kf : ¬ 0 < x → az_W l G nL Q p e R s m args below meth c ad K k n (pc + 3) lv st) : az_W l G nL Q p e R s m args below meth c ad K k n pc lv (.int x :: st) :=
  fun H locs ls hP hS hl => lv_if_gt C.1 C.2.1 d ht (fun q => kt q H locs ls hP hS hl) (fun q => kf q H locs ls hP hS hl)
theorem az_icmp_gt (C : az_C l G p s m args meth c cc own nL ret tab) {x y : Int32} {off : Int} (tgt : Nat) (d : decode cc pc = .ok (.if_icmp .gt off, 3)) (ht : (pc : Int) + off = (tgt : Int)) (kt : y < x → az_W l G nL Q p e R s m args below meth c ad K k n tgt lv st) (kf : ¬ y < x → az_W l G nL Q p e R s m args below meth c ad K k n (pc + 3) lv st) : az_W l G nL Q p e R s m args below meth c ad K k n pc lv (.int y :: .int x :: st) :=
  fun H locs ls hP hS hl => lv_icmp_gt C.1 C.2.1 d ht (fun q => kt q H locs ls hP hS hl) (fun q => kf q H locs ls hP hS hl)
theorem az_if_le (C : az_C l G p s m args meth c cc own nL ret tab) {x : Int32} {off : Int} (tgt : Nat) (d : decode cc pc = .ok (.ifCond .le off, 3)) (ht : (pc : Int) + off = (tgt : Int)) (kt : x ≤ 0 → az_W l G nL Q p e R s m args below meth c ad K k n tgt lv st) (kf : ¬ x ≤ 0 → az_W l G nL Q p e R s m args below meth c ad K k n (pc + 3) lv st) : az_W l G nL Q p e R s m args below meth c ad K k n pc lv (.int x :: st) :=
  fun H locs ls hP hS hl => lv_if_le C.1 C.2.1 d ht (fun q => kt q H locs ls hP hS hl) (fun q => kf q H locs ls hP hS hl)
theorem az_icmp_le (C : az_C l G p s m args meth c cc own nL ret tab) {x y : Int32} {off : Int} (tgt : Nat) (d : decode cc pc = .ok (.if_icmp .le off, 3)) (ht : (pc : Int) + off = (tgt : Int)) (kt : x ≤ y → az_W l G nL Q p e R s m args below meth c ad K k n tgt lv st) (kf : ¬ x ≤ y → az_W l G nL Q p e R s m args below meth c ad K k n (pc + 3) lv st) : az_W l G nL Q p e R s m args below meth c ad K k n pc lv (.int y :: .int x :: st) :=
  fun H locs ls hP hS hl => lv_icmp_le C.1 C.2.1 d ht (fun q => kt q H locs ls hP hS hl) (fun q => kf q H locs ls hP hS hl)
theorem az_goto (C : az_C l G p s m args meth c cc own nL ret tab) {off : Int} (tgt : Nat) (d : decode cc pc = .ok (.goto off, 3)) (ht : (pc : Int) + off = (tgt : Int)) (kk : az_W l G nL Q p e R s m args below meth c ad K k n tgt lv st) : az_W l G nL Q p e R s m args below meth c ad K k n pc lv st :=
  fun H locs ls hP hS hl => lv_goto C.1 C.2.1 d ht (kk H locs ls hP hS hl)
theorem az_ifnonnull (C : az_C l G p s m args meth c cc own nL ret tab) {x : Nat} {off : Int} (tgt : Nat) (d : decode cc pc = .ok (.ifnonnull off, 3)) (ht : (pc : Int) + off = (tgt : Int)) (kk : az_W l G nL Q p e R s m args below meth c ad K k n tgt lv st) : az_W l G nL Q p e R s m args below meth c ad K k n pc lv (.ref x :: st) :=
  fun H locs ls hP hS hl => lv_ifnonnull C.1 C.2.1 d ht (kk H locs ls hP hS hl)
theorem az_ifnull (C : az_C l G p s m args meth c cc own nL ret tab) {x : Nat} {off : Int} (d : decode cc pc = .ok (.ifnull off, 3)) (kk : az_W l G nL Q p e R s m args below meth c ad K k n (pc + 3) lv st) : az_W l G nL Q p e R s m args below meth c ad K k n pc lv (.ref x :: st) :=
  fun H locs ls hP hS hl => lv_ifnull C.1 C.2.1 d (kk H locs ls hP hS hl)
theorem az_ifnullN (C : az_C l G p s m args meth c cc own nL ret tab) {off : Int} (tgt : Nat) (d : decode cc pc = .ok (.ifnull off, 3)) (ht : (pc : Int) + off = (tgt : Int)) (kk : az_W l G nL Q p e R s m args below meth c ad K k n tgt lv st) : az_W l G nL Q p e R s m args below meth c ad K k n pc lv (.null :: st) :=
  fun H locs ls hP hS hl => lv_ifnullN C.1 C.2.1 d ht (kk H locs ls hP hS hl)
theorem az_ifnonnullN (C : az_C l G p s m args meth c cc own nL ret tab) {off : Int} (d : decode cc pc = .ok (.ifnonnull off, 3)) (kk : az_W l G nL Q p e R s m args below meth c ad K k n (pc + 3) lv st) : az_W l G nL Q p e R s m args below meth c ad K k n pc lv (.null :: st) :=
  fun H locs ls hP hS hl => lv_ifnonnullN C.1 C.2.1 d (kk H locs ls hP hS hl)
theorem az_acmp_eq (C : az_C l G p s m args meth c cc own nL ret tab) {rx ry : Option Nat} {vx vy : Value} {off : Int} (tgt : Nat) (hx : vx = va_rf rx) (hy : vy = va_rf ry) (d : decode cc pc = .ok (.if_acmp .eq off, 3)) (ht : (pc : Int) + off = (tgt : Int)) (kt : rx = ry → az_W l G nL Q p e R s m args below meth c ad K k n tgt lv st) (kf : ¬ rx = ry → az_W l G nL Q p e R s m args below meth c ad K k n (pc + 3) lv st) : az_W l G nL Q p e R s m args below meth c ad K k n pc lv (vy :: vx :: st) := by
  subst hx; subst hy
  exact fun H locs ls hP hS hl => lv_acmp_eq C.1 C.2.1 d ht (fun q => kt q H locs ls hP hS hl) (fun q => kf q H locs ls hP hS hl)
theorem az_acmp_ne (C : az_C l G p s m args meth c cc own nL ret tab) {rx ry : Option Nat} {vx vy : Value} {off : Int} (tgt : Nat) (hx : vx = va_rf rx) (hy : vy = va_rf ry) (d : decode cc pc = .ok (.if_acmp .ne off, 3)) (ht : (pc : Int) + off = (tgt : Int)) (kt : ¬ rx = ry → az_W l G nL Q p e R s m args below meth c ad K k n tgt lv st) (kf : rx = ry → az_W l G nL Q p e R s m args below meth c ad K k n (pc + 3) lv st) : az_W l G nL Q p e R s m args below meth c ad K k n pc lv (vy :: vx :: st) := by
  subst hx; subst hy
  exact fun H locs ls hP hS hl => lv_acmp_ne C.1 C.2.1 d ht (fun q => kt q H locs ls hP hS hl) (fun q => kf q H locs ls hP hS hl)
theorem az_ldc (C : az_C l G p s m args meth c cc own nL ret tab) {v : Int32} {idx : Nat} (hw : Cond.constant own idx v ∈ lw_tbl) (d : decode cc pc = .ok (.ldc idx, 2)) (kk : az_W l G nL Q p e R s m args below meth c ad K k n (pc + 2) lv (.int v :: st)) : az_W l G nL Q p e R s m args below meth c ad K k n pc lv st :=
  fun H locs ls hP hS hl => lv_ldc C.1 C.2.1 C.2.2.2.1 (C.2.2.2.2.1 _ hw rfl) d (kk H locs ls hP hS hl)
theorem az_ldc2 (C : az_C l G p s m args meth c cc own nL ret tab) {v : Int64} {idx : Nat} (hw : Cond.constantLong own idx v ∈ lw_tbl) (d : decode cc pc = .ok (.ldc2_w idx, 3)) (kk : az_W l G nL Q p e R s m args below meth c ad K k n (pc + 3) lv (.long v :: st)) : az_W l G nL Q p e R s m args below meth c ad K k n pc lv st :=
  fun H locs ls hP hS hl => lv_ldc2 C.1 C.2.1 C.2.2.2.1 (C.2.2.2.2.1 _ hw rfl) d (kk H locs ls hP hS hl)
theorem az_one {D : va_G} {a : Nat} {x : va_E} {H : Heap} (h : va_at D vwCl (a, x) H) : va_P D vwCl [(a, x)] H := fun j q hj => by
  have hz : j < 1 := (List.getElem?_eq_some_iff.mp hj).1
  rw [show j = 0 by omega] at hj
  cases hj
  exact h
theorem az_get (C : az_C l G p s m args meth c cc own nL ret tab) {C0 : String} {T : u_T} {N ci : Nat} {ty : Nat → FieldType} (c0 : az_cl ci C0 T N ty) {idx a : Nat} (r i j : Nat) {fs : List Value} {v : Value} (hw : Cond.fieldLink own idx (T j).1 (T j).2.1 (T j).2.2.1 ∈ lw_tbl) (d : decode cc pc = .ok (.getfield idx, 3)) (ha : ad r i = a) (hk : K r i = some (.inr (ci, fs))) (hv : fs[j]? = some v) (hj : j < N)
    (kk : az_W l G nL Q p e R s m args below meth c ad K k n (pc + 3) lv (v :: st)) : az_W l G nL Q p e R s m args below meth c ad K k n pc lv (.ref a :: st) := by
  subst ha
  intro H locs ls hP hS hl
  exact va_get (D := G.2.1) (ref := (T j).1) C.1 C.2.1 (Ts := lw_tbl.filter goodWord) (fun w hw => C.2.2.2.2.1 w (List.mem_filter.mp hw).1 (List.mem_filter.mp hw).2) (fun w hw => List.mem_filter.mpr (c0.2.1 w hw)) C.2.2.2.1 C.2.2.2.2.2.1 (az_one (hP.1 _ _ _ hk).1) 0 rfl c0.1 j hj (C.2.2.2.2.1 _ hw rfl) (fun _ h => h) hv d (kk H locs ls hP hS hl)
theorem az_put (C : az_C l G p s m args meth c cc own nL ret tab) {C0 : String} {T : u_T} {N ci : Nat} {ty : Nat → FieldType} (c0 : az_cl ci C0 T N ty) {idx a : Nat} (r i j : Nat) {fs : List Value} {v : Value} (hw : Cond.fieldLink own idx (T j).1 (T j).2.1 (T j).2.2.1 ∈ lw_tbl) (d : decode cc pc = .ok (.putfield idx, 3)) (ha : ad r i = a) (hk : K r i = some (.inr (ci, fs))) (hj : j < N) (hjl : j < fs.length) (hfin : (T j).2.2.2 = false) (hn : narrow (ty j) v = v) (hfit : fits (ty j) v = true)
    (kk : az_W l G nL Q p e R s m args below meth c ad (az_u K r i (.inr (ci, fs.set j v))) k n (pc + 3) lv st) : az_W l G nL Q p e R s m args below meth c ad K k n pc lv (v :: .ref a :: st) := by
  subst ha
  intro H locs ls hP hS hl
  have hts : ∀ w ∈ lw_tbl.filter goodWord, w.before args s = true := fun w hw => C.2.2.2.2.1 w (List.mem_filter.mp hw).1 (List.mem_filter.mp hw).2
  have hin : ∀ w ∈ u_ws C0 T N, w ∈ lw_tbl.filter goodWord := fun w hw => List.mem_filter.mpr (c0.2.1 w hw)
  have hK := C.2.2.2.2.2.1
  have hc := c0.1
  have hap := va_apart (own := own) (args := args) hts hin ty c0.2.2.1 c0.2.2.2 hK hc
  obtain ⟨r9, h1, cell, q1, q2, q3, q4⟩ := (hP.1 _ _ _ hk).1
  have hr : r9 = (C0, T, N) := Option.some.inj (h1.symm.trans hc)
  subst hr
  obtain ⟨hSl, hfc, kC, hkC, hkind⟩ := hK.1 ci _ hc
  obtain ⟨cf, kf, fi, f, hi, hsl⟩ := hSl j hj
  have hlay := hts _ (hin _ (u_in_lay hj))
  unfold u_lay at hlay
  rw [if_neg (by rw [hfin]; decide)] at hlay
  have hst := (u_facts hfc hkC (u_lays hts hin hj) hi).1
  have h6 := u_store hfc hkC hkind hlay hi (c0.2.2.1 j hj) hn hfit
  refine W.putK C.1 C.2.1 (f := f) ⟨C.2.2.2.1, C.2.2.2.2.1 _ hw rfl, ⟨_, _, _, hi⟩, hst⟩ (by rw [q2]; exact h6) q1 q3 (by rw [hsl]; exact k2_hasslot (q4 j hj)) rfl rfl d fun H' e1 e2 e3 => ?_
  rw [hsl] at e1
  exact kk H' _ ls (hP.set hk ⟨_, hc, t_OB.to (V := updV (vp_V fs) j v) ⟨_, e1, q2, q3, t_set q4 hap hj v⟩ (fun z _ => vp_updV_set hjl v z)⟩ e3) (hS.put e2 e3 (hP.1 _ _ _ hk).2) hl
theorem az_putF (C : az_C l G p s m args meth c cc own nL ret tab) {C0 : String} {T : u_T} {N ci : Nat} {ty : Nat → FieldType} (c0 : az_cl ci C0 T N ty) {idx a : Nat} (r i j : Nat) {fs : List Value} {v : Value} (hin2 : meth.name = "<init>") (hw : Cond.fieldLink own idx (T j).1 (T j).2.1 (T j).2.2.1 ∈ lw_tbl) (d : decode cc pc = .ok (.putfield idx, 3)) (ha : ad r i = a) (hk : K r i = some (.inr (ci, fs))) (hj : j < N) (hjl : j < fs.length) (hfin : (T j).2.2.2 = true) (hdecl : (T j).1 = own) (hn : narrow (ty j) v = v) (hfit : fits (ty j) v = true)
    (kk : az_W l G nL Q p e R s m args below meth c ad (az_u K r i (.inr (ci, fs.set j v))) k n (pc + 3) lv st) : az_W l G nL Q p e R s m args below meth c ad K k n pc lv (v :: .ref a :: st) := by
  subst ha
  intro H locs ls hP hS hl
  have hts : ∀ w ∈ lw_tbl.filter goodWord, w.before args s = true := fun w hw => C.2.2.2.2.1 w (List.mem_filter.mp hw).1 (List.mem_filter.mp hw).2
  have hin : ∀ w ∈ u_ws C0 T N, w ∈ lw_tbl.filter goodWord := fun w hw => List.mem_filter.mpr (c0.2.1 w hw)
  have hK := C.2.2.2.2.2.1
  have hc := c0.1
  have hown := C.2.2.2.1
  have hap := va_apart (own := own) (args := args) hts hin ty c0.2.2.1 c0.2.2.2 hK hc
  obtain ⟨r9, h1, cell, q1, q2, q3, q4⟩ := (hP.1 _ _ _ hk).1
  have hr : r9 = (C0, T, N) := Option.some.inj (h1.symm.trans hc)
  subst hr
  obtain ⟨hSl, hfc, kC, hkC, hkind⟩ := hK.1 ci _ hc
  obtain ⟨cf, kf, fi, f, hi, hsl⟩ := hSl j hj
  have hlay := hts _ (hin _ (u_in_lay hj))
  unfold u_lay at hlay
  rw [if_pos hfin] at hlay
  have hst := (u_facts hfc hkC (u_lays hts hin hj) hi).1
  have hcf : m.cls = cf := by
    obtain ⟨_, _, c', _, _, _, -, -, hf', -, -, -, hown2, -⟩ := Cond.laysFinal_spec hlay
    have e1 : c' = cf := by have := hi.symm.trans hf'; simp at this; exact this.1.symm
    rw [hdecl] at hown2
    rw [← e1]; exact Option.some.inj (hown.symm.trans hown2)
  have h6 := u_fits hfc hkC hkind (Or.inr hlay) hi (c0.2.2.1 j hj) hn hfit
  refine W.putFinK C.1 C.2.1 hown (C.2.2.2.2.1 _ hw rfl) hi hst hcf hin2 (by rw [q2]; exact h6) q1 q3 (by rw [hsl]; exact k2_hasslot (q4 j hj)) rfl rfl d fun H' e1 e2 e3 => ?_
  rw [hsl] at e1
  exact kk H' _ ls (hP.set hk ⟨_, hc, t_OB.to (V := updV (vp_V fs) j v) ⟨_, e1, q2, q3, t_set q4 hap hj v⟩ (fun z _ => vp_updV_set hjl v z)⟩ e3) (hS.put e2 e3 (hP.1 _ _ _ hk).2) hl
theorem az_iald (C : az_C l G p s m args meth c cc own nL ret tab) {N a : Nat} {f : Nat → Int32} (r i : Nat) {x : Int32} (d : decode cc pc = .ok (.iaload, 1)) (ha : ad r i = a) (hk : K r i = some (.inl (G.2.2.1 0, N, .inl f))) (hx : vp_in x N) (kk : az_W l G nL Q p e R s m args below meth c ad K k n (pc + 1) lv (.int (f x.toNatClampNeg) :: st)) : az_W l G nL Q p e R s m args below meth c ad K k n pc lv (.int x :: .ref a :: st) := by
  subst ha
  exact fun H locs ls hP hS hl => va_iald C.1 C.2.1 C.2.2.2.2.2.1 (az_one (hP.1 _ _ _ hk).1) 0 0 rfl rfl hx d (kk H locs ls hP hS hl)
theorem az_zald (C : az_C l G p s m args meth c cc own nL ret tab) {N a : Nat} {f : Nat → Int32} (r i : Nat) {x : Int32} (d : decode cc pc = .ok (.baload, 1)) (ha : ad r i = a) (hk : K r i = some (.inl (G.2.2.1 1, N, .inl f))) (hx : vp_in x N) (kk : az_W l G nL Q p e R s m args below meth c ad K k n (pc + 1) lv (.int (f x.toNatClampNeg) :: st)) : az_W l G nL Q p e R s m args below meth c ad K k n pc lv (.int x :: .ref a :: st) := by
  subst ha
  exact fun H locs ls hP hS hl => va_zald C.1 C.2.1 C.2.2.2.2.2.1 (az_one (hP.1 _ _ _ hk).1) 0 1 rfl rfl hx d (kk H locs ls hP hS hl)
theorem az_cald (C : az_C l G p s m args meth c cc own nL ret tab) {N a : Nat} {f : Nat → Int32} (r i : Nat) {x : Int32} (d : decode cc pc = .ok (.caload, 1)) (ha : ad r i = a) (hk : K r i = some (.inl (G.2.2.1 2, N, .inl f))) (hx : vp_in x N) (kk : az_W l G nL Q p e R s m args below meth c ad K k n (pc + 1) lv (.int (f x.toNatClampNeg) :: st)) : az_W l G nL Q p e R s m args below meth c ad K k n pc lv (.int x :: .ref a :: st) := by
  subst ha
  exact fun H locs ls hP hS hl => va_cald C.1 C.2.1 C.2.2.2.2.2.1 (az_one (hP.1 _ _ _ hk).1) 0 2 rfl rfl hx d (kk H locs ls hP hS hl)
theorem az_bald (C : az_C l G p s m args meth c cc own nL ret tab) {N a : Nat} {f : Nat → Int32} (r i : Nat) {x : Int32} (d : decode cc pc = .ok (.baload, 1)) (ha : ad r i = a) (hk : K r i = some (.inl (G.2.2.1 3, N, .inl f))) (hx : vp_in x N) (kk : az_W l G nL Q p e R s m args below meth c ad K k n (pc + 1) lv (.int (f x.toNatClampNeg) :: st)) : az_W l G nL Q p e R s m args below meth c ad K k n pc lv (.int x :: .ref a :: st) := by
  subst ha
  exact fun H locs ls hP hS hl => va_bald C.1 C.2.1 C.2.2.2.2.2.1 (az_one (hP.1 _ _ _ hk).1) 0 3 rfl rfl hx d (kk H locs ls hP hS hl)
theorem az_lald (C : az_C l G p s m args meth c cc own nL ret tab) {N a : Nat} {f : Nat → Int64} (r i : Nat) {x : Int32} (d : decode cc pc = .ok (.laload, 1)) (ha : ad r i = a) (hk : K r i = some (.inl (G.2.2.1 4, N, .inr (.inl f)))) (hx : vp_in x N) (kk : az_W l G nL Q p e R s m args below meth c ad K k n (pc + 1) lv (.long (f x.toNatClampNeg) :: st)) : az_W l G nL Q p e R s m args below meth c ad K k n pc lv (.int x :: .ref a :: st) := by
  subst ha
  exact fun H locs ls hP hS hl => va_lald C.1 C.2.1 C.2.2.2.2.2.1 (az_one (hP.1 _ _ _ hk).1) 0 4 rfl rfl hx d (kk H locs ls hP hS hl)
theorem az_aald (C : az_C l G p s m args meth c cc own nL ret tab) {N a : Nat} {f : Nat → Option Nat} (r i : Nat) {x : Int32} (d : decode cc pc = .ok (.aaload, 1)) (ha : ad r i = a) (hk : K r i = some (.inl (G.2.2.1 5, N, .inr (.inr (.inr (.inr f)))))) (hx : vp_in x N) (kk : az_W l G nL Q p e R s m args below meth c ad K k n (pc + 1) lv (va_rf (f x.toNatClampNeg) :: st)) : az_W l G nL Q p e R s m args below meth c ad K k n pc lv (.int x :: .ref a :: st) := by
  subst ha
  exact fun H locs ls hP hS hl => va_aldq C.1 C.2.1 C.2.2.2.2.2.1 (az_one (hP.1 _ _ _ hk).1) 0 5 rfl rfl hx d (kk H locs ls hP hS hl)
theorem az_alen (C : az_C l G p s m args meth c cc own nL ret tab) {a : Nat} {y : vp_A} {z : Nat} (r i : Nat) (d : decode cc pc = .ok (.arraylength, 1)) {cy : ClassId × FieldType} (ha : ad r i = a) (hk : K r i = some (.inl (cy.1, y))) (hz : (az_tys G.2.2.1)[z]? = some cy) (kk : az_W l G nL Q p e R s m args below meth c ad K k n (pc + 1) lv (.int (Int32.ofNat y.1) :: st)) : az_W l G nL Q p e R s m args below meth c ad K k n pc lv (.ref a :: st) := by
  subst ha
  exact fun H locs ls hP hS hl => va_alen C.1 C.2.1 C.2.2.2.2.2.1 (az_one (hP.1 _ _ _ hk).1) 0 z rfl hz rfl d (kk H locs ls hP hS hl)
theorem az_iast (C : az_C l G p s m args meth c cc own nL ret tab) {N a : Nat} {f : Nat → Int32} (r i : Nat) {x j : Int32} (d : decode cc pc = .ok (.iastore, 1)) (ha : ad r i = a) (hk : K r i = some (.inl (G.2.2.1 0, N, .inl f))) (hx : vp_in j N) (kk : az_W l G nL Q p e R s m args below meth c ad (az_u K r i (.inl (G.2.2.1 0, N, .inl (upd f j.toNatClampNeg x)))) k n (pc + 1) lv st) : az_W l G nL Q p e R s m args below meth c ad K k n pc lv (.int x :: .int j :: .ref a :: st) := by
  subst ha
  intro H locs ls hP hS hl
  refine W.iast C.1 C.2.1 (hP.1 _ _ _ hk).1 ((C.2.2.2.2.2.1.2 0 _ rfl).1 N (fun j => .int (f j))) (fun q => by cases q) (by show ¬ (j < 0 ∨ (arrV _ _ _).slots.size ≤ _); rw [arrV_size]; exact hx) rfl rfl d fun H1 e1 z oq => ?_
  refine kk H1 _ ls (hP.set hk ?_ oq) (hS.put z oq (hP.1 _ _ _ hk).2) hl
  show H1[ad r i]? = some (vp_cell _ _)
  rw [e1]
  rw [vp_cell_i, vp_cell_i, arrV_store]
  congr 2
  funext q
  by_cases hq : q = j.toNatClampNeg
  · subst hq
    simp [updV, upd, vp_nar]
    try rfl
  · simp [updV, upd, hq]
theorem az_zast (C : az_C l G p s m args meth c cc own nL ret tab) {N a : Nat} {f : Nat → Int32} (r i : Nat) {x j : Int32} (d : decode cc pc = .ok (.bastore, 1)) (ha : ad r i = a) (hk : K r i = some (.inl (G.2.2.1 1, N, .inl f))) (hx : vp_in j N) (kk : az_W l G nL Q p e R s m args below meth c ad (az_u K r i (.inl (G.2.2.1 1, N, .inl (upd f j.toNatClampNeg (vp_nar .boolean x))))) k n (pc + 1) lv st) : az_W l G nL Q p e R s m args below meth c ad K k n pc lv (.int x :: .int j :: .ref a :: st) := by
  subst ha
  intro H locs ls hP hS hl
  refine W.zast C.1 C.2.1 (hP.1 _ _ _ hk).1 ((C.2.2.2.2.2.1.2 1 _ rfl).1 N (fun j => .int (f j))) (fun q => by cases q) (by show ¬ (j < 0 ∨ (arrV _ _ _).slots.size ≤ _); rw [arrV_size]; exact hx) rfl rfl d fun H1 e1 z oq => ?_
  refine kk H1 _ ls (hP.set hk ?_ oq) (hS.put z oq (hP.1 _ _ _ hk).2) hl
  show H1[ad r i]? = some (vp_cell _ _)
  rw [e1]
  rw [vp_cell_i, vp_cell_i, arrV_store]
  congr 2
  funext q
  by_cases hq : q = j.toNatClampNeg
  · subst hq
    simp [updV, upd, vp_nar]
    try rfl
  · simp [updV, upd, hq]
theorem az_cast (C : az_C l G p s m args meth c cc own nL ret tab) {N a : Nat} {f : Nat → Int32} (r i : Nat) {x j : Int32} (d : decode cc pc = .ok (.castore, 1)) (ha : ad r i = a) (hk : K r i = some (.inl (G.2.2.1 2, N, .inl f))) (hx : vp_in j N) (kk : az_W l G nL Q p e R s m args below meth c ad (az_u K r i (.inl (G.2.2.1 2, N, .inl (upd f j.toNatClampNeg (vp_nar .char x))))) k n (pc + 1) lv st) : az_W l G nL Q p e R s m args below meth c ad K k n pc lv (.int x :: .int j :: .ref a :: st) := by
  subst ha
  intro H locs ls hP hS hl
  refine W.cast C.1 C.2.1 (hP.1 _ _ _ hk).1 ((C.2.2.2.2.2.1.2 2 _ rfl).1 N (fun j => .int (f j))) (fun q => by cases q) (by show ¬ (j < 0 ∨ (arrV _ _ _).slots.size ≤ _); rw [arrV_size]; exact hx) rfl rfl d fun H1 e1 z oq => ?_
  refine kk H1 _ ls (hP.set hk ?_ oq) (hS.put z oq (hP.1 _ _ _ hk).2) hl
  show H1[ad r i]? = some (vp_cell _ _)
  rw [e1]
  rw [vp_cell_i, vp_cell_i, arrV_store]
  congr 2
  funext q
  by_cases hq : q = j.toNatClampNeg
  · subst hq
    simp [updV, upd, vp_nar]
    try rfl
  · simp [updV, upd, hq]
theorem az_bast (C : az_C l G p s m args meth c cc own nL ret tab) {N a : Nat} {f : Nat → Int32} (r i : Nat) {x j : Int32} (d : decode cc pc = .ok (.bastore, 1)) (ha : ad r i = a) (hk : K r i = some (.inl (G.2.2.1 3, N, .inl f))) (hx : vp_in j N) (kk : az_W l G nL Q p e R s m args below meth c ad (az_u K r i (.inl (G.2.2.1 3, N, .inl (upd f j.toNatClampNeg (vp_nar .byte x))))) k n (pc + 1) lv st) : az_W l G nL Q p e R s m args below meth c ad K k n pc lv (.int x :: .int j :: .ref a :: st) := by
  subst ha
  intro H locs ls hP hS hl
  refine W.bast C.1 C.2.1 (hP.1 _ _ _ hk).1 ((C.2.2.2.2.2.1.2 3 _ rfl).1 N (fun j => .int (f j))) (fun q => by cases q) (by show ¬ (j < 0 ∨ (arrV _ _ _).slots.size ≤ _); rw [arrV_size]; exact hx) rfl rfl d fun H1 e1 z oq => ?_
  refine kk H1 _ ls (hP.set hk ?_ oq) (hS.put z oq (hP.1 _ _ _ hk).2) hl
  show H1[ad r i]? = some (vp_cell _ _)
  rw [e1]
  rw [vp_cell_i, vp_cell_i, arrV_store]
  congr 2
  funext q
  by_cases hq : q = j.toNatClampNeg
  · subst hq
    simp [updV, upd, vp_nar]
    try rfl
  · simp [updV, upd, hq]
theorem az_last (C : az_C l G p s m args meth c cc own nL ret tab) {N a : Nat} {f : Nat → Int64} (r i : Nat) {x : Int64} {j : Int32} (d : decode cc pc = .ok (.lastore, 1)) (ha : ad r i = a) (hk : K r i = some (.inl (G.2.2.1 4, N, .inr (.inl f)))) (hx : vp_in j N) (kk : az_W l G nL Q p e R s m args below meth c ad (az_u K r i (.inl (G.2.2.1 4, N, .inr (.inl (vp_updL f j.toNatClampNeg x))))) k n (pc + 1) lv st) : az_W l G nL Q p e R s m args below meth c ad K k n pc lv (.long x :: .int j :: .ref a :: st) := by
  subst ha
  intro H locs ls hP hS hl
  refine W.last C.1 C.2.1 (hP.1 _ _ _ hk).1 ((C.2.2.2.2.2.1.2 4 _ rfl).1 N (fun j => .long (f j))) (fun q => by cases q) (by show ¬ (j < 0 ∨ (arrV _ _ _).slots.size ≤ _); rw [arrV_size]; exact hx) rfl rfl d fun H1 e1 z oq => ?_
  refine kk H1 _ ls (hP.set hk ?_ oq) (hS.put z oq (hP.1 _ _ _ hk).2) hl
  show H1[ad r i]? = some (vp_cell _ _)
  rw [e1]
  rw [vp_cell_l, vp_cell_l, arrV_store]
  congr 2
  funext q
  by_cases hq : q = j.toNatClampNeg
  · subst hq
    simp [updV, vp_updL]
  · simp [updV, vp_updL, hq]
end AZR
end
section
/-! ===== BEGIN a constructor that throws (launches without stack traces) ===== -/
section VXIA
variable {p : Program} {l : Launch} {e : Env} {R : Room} {s : State} {m : MethodId} {args : Array Value} {below : List Frame} {meth : Method} {c : Code} {T : State} {locs : List Loc} {cells slots : Nat}
theorem vx_callI (X : Stand p l e R s m args below meth c T locs cells slots) (hexec : p.tables.exec = Jvm.exec) {own : String} {index : Nat} {y : MethodName} {bytes : ByteArray} {maxL : Nat}
    (hown : s.vm.findClass own = some m.cls) (hy1 : y.name = "<init>") (hlink : (Cond.methodLink own index y).before args s = true) (hinst : (Cond.instanceMethod y).before args s = true)
    (hcode : (Cond.code y bytes maxL none).before args s = true) (hy : y.cls ≠ "java/lang/invoke/MethodHandle" ∧ y.cls ≠ "java/lang/invoke/VarHandle")
    {W9 : Nat} {Pre : Pt → Array Value → Prop} {Post : Pt → Array Value → Option Value → Pt → Prop} {PostX : Pt → Array Value → Addr → Pt → Prop} (hK : vx_Back l R p e below s args y 3 W9 Pre Post PostX)
    {g : JFrame} (hg : g.method = m) (hsize : g.locals.size = c.maxLocals) {a : Addr} {argsL rest : List Value} (hlen : ∀ sig, parseMethodDescriptor y.desc = some sig → argsL.length = sig.parameters.length)
    (hstack : g.stack = argsL.reverse ++ .ref a :: rest) (hW : 2 * g.monitorRoom + (rest.map fun v => v.category).sum ≤ W9) (hdg : decode c.code g.pc = .ok (.invokespecial index, 3))
    (hpre : ∀ vm₁, s.WarmedH vm₁ → Pre ⟨T.setVm vm₁, locs, cells, slots⟩ (Value.ref a :: argsL).toArray) :
    (∃ (v : Option Value) (vm₁ : Vm) (B : Pt), s.WarmedH vm₁ ∧ Stand p l e R s m args below meth c B.U B.locs B.cells B.slots ∧ Post ⟨T.setVm vm₁, locs, cells, slots⟩ (Value.ref a :: argsL).toArray v B ∧
      ∀ target, Steps p.tables e below (B.U.setTop { g with pc := g.pc + 3, stack := v.toList ++ rest }) target → Steps p.tables e below (T.setTop g) target) ∨
    (∃ (q : Addr) (vm₁ : Vm) (B : Pt), s.WarmedH vm₁ ∧ Stand p l e R s m args below meth c B.U B.locs B.cells B.slots ∧ PostX ⟨T.setVm vm₁, locs, cells, slots⟩ (Value.ref a :: argsL).toArray q B ∧
      Steps p.tables e below (T.setTop g) ((B.U.setTop { g with stack := rest }).pushFrame (.throwing q))) := by
  subst hg
  have hpl : e.platform.magicAccessors = ({} : Platform).magicAccessors := by rw [X.admits.platform]
  obtain ⟨mk, methM, cM, kP, vm₁, hnamed, hmethM, hcodeM, -, hlocalsM, -, hkP, -, hW₁, hstep₁⟩ := Steps.initColdArgs (e := e) X.here hexec X.warmed hpl hown hy1 hy hlink hinst hcode (f := g) rfl hlen hstack hdg
  have X₁ := X.noted hW₁
  rcases hK g.method meth c ⟨T.setVm vm₁, locs, cells, slots⟩ { g with stack := rest } (.invokespecial index) mk (Value.ref a :: argsL).toArray X₁ rfl hsize hdg hW (X₁.named hnamed) (hpre vm₁ X₁.warmed) with ⟨v, B, X', hpost, hsteps⟩ | ⟨q, B, X', hpost, hsteps⟩
  · exact Or.inl ⟨v, vm₁, B, X₁.warmed, X', hpost, fun target h => hstep₁ _ fun acts => by rw [doInvoke_state]; exact hsteps.trans h⟩
  · exact Or.inr ⟨q, vm₁, B, X₁.warmed, X', hpost, hstep₁ _ fun acts => by rw [doInvoke_state]; exact hsteps⟩
end VXIA
section VXIB
variable {p : Program} {l : Launch} {e : Env} {R : Room} {s : State} {m : MethodId} {args : Array Value} {below : List Frame} {meth : Method} {c : Code} {H : Heap} {locs : List Loc} {cells slots : Nat}
variable {y : MethodName} {bytes cc : ByteArray} {maxL nL mc ms n index : Nat} {ret : Option FieldType} {ws : List Cond} {rm : Room} {Pc : Array Value → State → Prop} {Qc : Array Value → State → Outcome → State → Prop} {XC : String → State → State → Prop} {free : Addr → Prop} {Ts : List Cond} {own C : String} {b : Addr} {As rest : List Value} {g : JFrame}
theorem vx_runI (S : CallFix p m c cc nL s args Ts own) (hM : vx_Met l y ws rm Pc Qc XC mc ms free) (cw : CallB R s args own index y bytes maxL none ws rm mc ms n ∧ y.name = "<init>" ∧ (Cond.instanceMethod y).before args s = true) (hp : PreS s H Pc (.ref b :: As))
    (hg : g.method = m) (hn : As.length = n) (hsize : g.locals.size = nL) (hstack : g.stack = As.reverse ++ .ref b :: rest) (hW : 2 * g.monitorRoom + (rest.map fun v => v.category).sum ≤ 8) (hdg : decode cc g.pc = .ok (.invokespecial index, 3)) (hf : cells + mc ≤ R.cells ∧ slots + ms ≤ R.slots) :
    vx_Run p l e R s m args below meth c H locs cells slots mc ms g rest (Qc (Value.ref b :: As).toArray) XC free := by
  have hK : vx_Back l R p e below s args y 3 8 (PreOf R mc ms Pc) (PostOf Qc mc ms free) (vx_Post XC mc ms free) := vx_callBack cw.1 hM hp.1
  obtain ⟨⟨-, -, -, -, -, -, hcode, -, hy, hlen, hl⟩, hy1, hin⟩ := cw
  obtain ⟨hx, hb, hml, ho, -⟩ := S
  have hPc := hp.2
  intro T hT X
  rcases vx_callI X hx (bytes := bytes) (maxL := maxL) ho hy1 hl hin hcode hy hK hg (hsize.trans hml.symm) (a := b) (argsL := As) (rest := rest) (fun sig h => hn.trans (hlen sig h)) hstack hW (by rw [hb]; exact hdg)
    (fun vm₁ hW₁ => ⟨hf.1, hf.2, hPc (T.setVm vm₁) hT hW₁⟩) with ⟨v, vm₁, ⟨U', l2, c2, s2⟩, hW₁, X', ⟨g', mk, t, L, e1, e2, hq, h1, hL, h2, h3⟩, st⟩ | ⟨q, vm₁, ⟨U', l2, c2, s2⟩, hW₁, X', ⟨g', mk, t, L, E, ce, e1, e2, hq, hce, hcv, hcl, h1, hL, h2, h3⟩, st⟩
  · dsimp only [Pt.U, Pt.locs, Pt.cells, Pt.slots] at X' e1 e2 h1 h2 h3 st
    subst h1; subst h2; subst h3
    exact Or.inl ⟨v, (T.setVm vm₁).calling g' mk (Value.ref b :: As).toArray, t, U', L, hT, X', hL, e1, e2, hq, st⟩
  · dsimp only [Pt.U, Pt.locs, Pt.cells, Pt.slots] at X' e1 e2 h1 h2 h3 st hcl
    subst h1; subst h2; subst h3
    exact Or.inr ⟨q, (T.setVm vm₁).calling g' mk (Value.ref b :: As).toArray, t, U', L, E, ce, hT, X', hL, e1, e2, hq, hce, hcv, vx_cls hW₁ hcl, st⟩
end VXIB
/-! ===== END ===== -/
/-! ===== BEGIN a private constructor of a nest mate that throws ===== -/
section VXIC
variable {p : Program} {l : Launch} {e : Env} {R : Room} {s : State} {m : MethodId} {args : Array Value} {below : List Frame} {meth : Method} {c : Code} {T : State} {locs : List Loc} {cells slots : Nat}
theorem vx_callIN (X : Stand p l e R s m args below meth c T locs cells slots) (hexec : p.tables.exec = Jvm.exec) {own : String} {index : Nat} {host : String} {y : MethodName} {bytes : ByteArray} {maxL : Nat}
    (hown : s.vm.findClass own = some m.cls) (hy1 : y.name = "<init>") (hlink : (Cond.methodLinkNest own index y host).before args s = true) (hinst : (Cond.instanceMethod y).before args s = true)
    (hcode : (Cond.code y bytes maxL none).before args s = true) (hy : y.cls ≠ "java/lang/invoke/MethodHandle" ∧ y.cls ≠ "java/lang/invoke/VarHandle")
    {W9 : Nat} {Pre : Pt → Array Value → Prop} {Post : Pt → Array Value → Option Value → Pt → Prop} {PostX : Pt → Array Value → Addr → Pt → Prop} (hK : vx_Back l R p e below s args y 3 W9 Pre Post PostX)
    {g : JFrame} (hg : g.method = m) (hsize : g.locals.size = c.maxLocals) {a : Addr} {argsL rest : List Value} (hlen : ∀ sig, parseMethodDescriptor y.desc = some sig → argsL.length = sig.parameters.length)
    (hstack : g.stack = argsL.reverse ++ .ref a :: rest) (hW : 2 * g.monitorRoom + (rest.map fun v => v.category).sum ≤ W9) (hdg : decode c.code g.pc = .ok (.invokespecial index, 3))
    (hpre : ∀ vm₁, s.WarmedH vm₁ → Pre ⟨T.setVm vm₁, locs, cells, slots⟩ (Value.ref a :: argsL).toArray) :
    (∃ (v : Option Value) (vm₁ : Vm) (B : Pt), s.WarmedH vm₁ ∧ Stand p l e R s m args below meth c B.U B.locs B.cells B.slots ∧ Post ⟨T.setVm vm₁, locs, cells, slots⟩ (Value.ref a :: argsL).toArray v B ∧
      ∀ target, Steps p.tables e below (B.U.setTop { g with pc := g.pc + 3, stack := v.toList ++ rest }) target → Steps p.tables e below (T.setTop g) target) ∨
    (∃ (q : Addr) (vm₁ : Vm) (B : Pt), s.WarmedH vm₁ ∧ Stand p l e R s m args below meth c B.U B.locs B.cells B.slots ∧ PostX ⟨T.setVm vm₁, locs, cells, slots⟩ (Value.ref a :: argsL).toArray q B ∧
      Steps p.tables e below (T.setTop g) ((B.U.setTop { g with stack := rest }).pushFrame (.throwing q))) := by
  subst hg
  have hpl : e.platform.magicAccessors = ({} : Platform).magicAccessors := by rw [X.admits.platform]
  obtain ⟨mk, methM, cM, kP, vm₁, hnamed, hmethM, hcodeM, -, hlocalsM, -, hkP, -, hW₁, hstep₁⟩ := Steps.initColdArgsNest (e := e) X.here hexec X.warmed hpl hown hy1 hy hlink hinst hcode (f := g) rfl hlen hstack hdg
  have X₁ := X.noted hW₁
  rcases hK g.method meth c ⟨T.setVm vm₁, locs, cells, slots⟩ { g with stack := rest } (.invokespecial index) mk (Value.ref a :: argsL).toArray X₁ rfl hsize hdg hW (X₁.named hnamed) (hpre vm₁ X₁.warmed) with ⟨v, B, X', hpost, hsteps⟩ | ⟨q, B, X', hpost, hsteps⟩
  · exact Or.inl ⟨v, vm₁, B, X₁.warmed, X', hpost, fun target h => hstep₁ _ fun acts => by rw [doInvoke_state]; exact hsteps.trans h⟩
  · exact Or.inr ⟨q, vm₁, B, X₁.warmed, X', hpost, hstep₁ _ fun acts => by rw [doInvoke_state]; exact hsteps⟩
end VXIC
section VXID
variable {p : Program} {l : Launch} {e : Env} {R : Room} {s : State} {m : MethodId} {args : Array Value} {below : List Frame} {meth : Method} {c : Code} {H : Heap} {locs : List Loc} {cells slots : Nat}
theorem vx_runIN {y : MethodName} {bytes cc : ByteArray} {maxL nL mc ms n index : Nat} {ws : List Cond} {rm : Room} {Pc : Array Value → State → Prop} {Qc : Array Value → State → Outcome → State → Prop} {XC : String → State → State → Prop} {free : Addr → Prop} {Ts : List Cond} {own host : String} {b : Addr} {As rest : List Value} {g : JFrame}
    (S : CallFix p m c cc nL s args Ts own) (hM : vx_Met l y ws rm Pc Qc XC mc ms free) (cw : va_CN R s args own index y host bytes maxL none ws rm mc ms n ∧ y.name = "<init>" ∧ (Cond.instanceMethod y).before args s = true) (hp : PreS s H Pc (.ref b :: As))
    (hg : g.method = m) (hn : As.length = n) (hsize : g.locals.size = nL) (hstack : g.stack = As.reverse ++ .ref b :: rest) (hW : 2 * g.monitorRoom + (rest.map fun v => v.category).sum ≤ 8) (hdg : decode cc g.pc = .ok (.invokespecial index, 3)) (hf : cells + mc ≤ R.cells ∧ slots + ms ≤ R.slots) :
    vx_Run p l e R s m args below meth c H locs cells slots mc ms g rest (Qc (Value.ref b :: As).toArray) XC free := by
  obtain ⟨⟨⟨hrc, hrs, hfr, hlo, hws, hcw⟩, hcode, hini, hy, hlen, hl⟩, hx1, hx2⟩ := cw
  have hK : vx_Back l R p e below s args y 3 8 (PreOf R mc ms Pc) (PostOf Qc mc ms free) (vx_Post XC mc ms free) := vx_back (bytes := bytes) (maxL := maxL) (ret := none) hM hp.1 hrc hrs hfr hlo hws hcw (fun a' U hW => word_at hW (Or.inl (by first | rfl | simp [Cond.onTables, Cond.keeps, Cond.steady])) hini)
  obtain ⟨hx, hb, hml, ho, -⟩ := S
  have hPc := hp.2
  intro T hT X
  rcases vx_callIN X hx (bytes := bytes) (maxL := maxL) ho hx1 hl hx2 hcode hy hK hg (hsize.trans hml.symm) (a := b) (argsL := As) (rest := rest) (fun sig h => hn.trans (hlen sig h)) hstack hW (by rw [hb]; exact hdg)
    (fun vm₁ hW₁ => ⟨hf.1, hf.2, hPc (T.setVm vm₁) hT hW₁⟩) with ⟨v, vm₁, ⟨U', l2, c2, s2⟩, hW₁, X', ⟨g', mk, t, L, e1, e2, hq, h1, hL, h2, h3⟩, st⟩ | ⟨q, vm₁, ⟨U', l2, c2, s2⟩, hW₁, X', ⟨g', mk, t, L, E, ce, e1, e2, hq, hce, hcv, hcl, h1, hL, h2, h3⟩, st⟩
  · dsimp only [Pt.U, Pt.locs, Pt.cells, Pt.slots] at X' e1 e2 h1 h2 h3 st
    subst h1; subst h2; subst h3
    exact Or.inl ⟨v, (T.setVm vm₁).calling g' mk (Value.ref b :: As).toArray, t, U', L, hT, X', hL, e1, e2, hq, st⟩
  · dsimp only [Pt.U, Pt.locs, Pt.cells, Pt.slots] at X' e1 e2 h1 h2 h3 st hcl
    subst h1; subst h2; subst h3
    exact Or.inr ⟨q, (T.setVm vm₁).calling g' mk (Value.ref b :: As).toArray, t, U', L, E, ce, hT, X', hL, e1, e2, hq, hce, hcv, vx_cls hW₁ hcl, st⟩
end VXID
/-! ===== BEGIN a method of a class above, found by the receiver, that may throw (follows va_callVU, va_runU of this kit) ===== -/
section
variable {p : Program} {l : Launch} {e : Env} {R : Room} {s : State} {m : MethodId} {args : Array Value} {below : List Frame} {meth : Method} {c : Code} {H : Heap} {locs : List Loc} {cells slots : Nat}
theorem vx_callVU {T : State} {locs : List Loc} {cells slots : Nat} (X : Stand p l e R s m args below meth c T locs cells slots) (hexec : p.tables.exec = Jvm.exec) {own C owner : String} {index : Nat} {x y : MethodName} {bytes : ByteArray} {maxL : Nat} {ret : Option FieldType}
    (hown : s.vm.findClass own = some m.cls) (hlink : (Cond.methodLink own index x).before args s = true) (hsame : (Cond.sameMethod x.cls owner x.name x.desc).before args s = true)
    (hd0 : va_Decl s ⟨owner, x.name, x.desc⟩) (howner : owner ≠ "java/lang/invoke/MethodHandle" ∧ owner ≠ "java/lang/invoke/VarHandle")
    (hsel : (Cond.selects C x y).before args s = true) (hinst : (Cond.instanceMethod y).before args s = true) (hcode : (Cond.code y bytes maxL ret).before args s = true)
    {W : Nat} {Pre : Pt → Array Value → Prop} {Post : Pt → Array Value → Option Value → Pt → Prop} {PostX : Pt → Array Value → Addr → Pt → Prop} (hK : vx_Back l R p e below s args y 3 W Pre Post PostX)
    {b : Addr} {cellB : Cell} (hcell : T.heap[b]? = some cellB) (hobj : cellB.vm.isStatics = false) (hcls : s.vm.findClass C = some cellB.cls)
    {g : JFrame} (hg : g.method = m) (hsize : g.locals.size = c.maxLocals) {argsL rest : List Value} (hlen : ∀ sig, parseMethodDescriptor x.desc = some sig → argsL.length = sig.parameters.length)
    (hstack : g.stack = argsL.reverse ++ .ref b :: rest) (hW : 2 * g.monitorRoom + (rest.map fun v => v.category).sum ≤ W) (hdg : decode c.code g.pc = .ok (.invokevirtual index, 3))
    (hpre : ∀ vm₁, s.WarmedH vm₁ → Pre ⟨T.setVm vm₁, locs, cells, slots⟩ (Value.ref b :: argsL).toArray) :
    (∃ (v : Option Value) (vm₁ : Vm) (B : Pt), s.WarmedH vm₁ ∧ Stand p l e R s m args below meth c B.U B.locs B.cells B.slots ∧ Post ⟨T.setVm vm₁, locs, cells, slots⟩ (Value.ref b :: argsL).toArray v B ∧
      ∀ target, Steps p.tables e below (B.U.setTop { g with pc := g.pc + 3, stack := v.toList ++ rest }) target → Steps p.tables e below (T.setTop g) target) ∨
    (∃ (q : Addr) (vm₁ : Vm) (B : Pt), s.WarmedH vm₁ ∧ Stand p l e R s m args below meth c B.U B.locs B.cells B.slots ∧ PostX ⟨T.setVm vm₁, locs, cells, slots⟩ (Value.ref b :: argsL).toArray q B ∧
      Steps p.tables e below (T.setTop g) ((B.U.setTop { g with stack := rest }).pushFrame (.throwing q))) := by
  obtain ⟨r0, r, hn, hrm, hstR, hsigR⟩ := hd0
  obtain ⟨cn, ck, r1, hcn, hck, hni, hf, hn1⟩ := Cond.sameMethod_found hsame
  cases hn.symm.trans hn1
  obtain ⟨mk, methM, hnamed, hmethM, -, habM⟩ := Cond.instanceMethod_spec hinst
  obtain ⟨c2, r2, m2, q1, q2, q3, q4, kP, hkP, hkPi⟩ := Cond.selects_spec hsel
  cases hcls.symm.trans q1
  cases hf.symm.trans q2
  cases hnamed.symm.trans q3
  have hselP : selectMethod e.platform s.vm cellB.cls r0 = .method mk := by rw [Launch.admits_selectMethod X.admits]; exact q4
  obtain ⟨vm₁, X₁, hstep₁⟩ := X.invokevirtualUp hexec hown hlink hsame howner hn hrm hstR (a := b) (cell := cellB) hcell
    (fun z h => by rw [h] at hobj; cases hobj) hselP hmethM habM hkP hkPi (g := g) hg (argsL := argsL) (rest := rest) (hlen _ hsigR) hstack hdg
  rcases hK m meth c ⟨T.setVm vm₁, locs, cells, slots⟩ { g with stack := rest } (.invokevirtual index) mk (Value.ref b :: argsL).toArray X₁ hg hsize hdg hW (X₁.named hnamed) (hpre vm₁ X₁.warmed) with ⟨v, B, X', hpost, hsteps⟩ | ⟨q, B, X', hpost, hsteps⟩
  · exact Or.inl ⟨v, vm₁, B, X₁.warmed, X', hpost, fun target h => hstep₁ _ fun acts => by rw [doInvoke_state]; exact hsteps.trans h⟩
  · exact Or.inr ⟨q, vm₁, B, X₁.warmed, X', hpost, hstep₁ _ fun acts => by rw [doInvoke_state]; exact hsteps⟩
theorem vx_runU {x y : MethodName} {bytes cc : ByteArray} {maxL nL mc ms n index : Nat} {ret : Option FieldType} {ws : List Cond} {rm : Room} {Pc : Array Value → State → Prop} {Qc : Array Value → State → Outcome → State → Prop} {XC : String → State → State → Prop} {free : Addr → Prop} {Ts : List Cond} {own C owner : String} {b : Addr} {As rest : List Value} {g : JFrame}
    (S : CallFix p m c cc nL s args Ts own) (hM : vx_Met l y ws rm Pc Qc XC mc ms free) (cw : va_CU R s args own C owner index x y bytes maxL ret ws rm mc ms n) (hp : PreV s H C b Pc As)
    (hg : g.method = m) (hn : As.length = n) (hsize : g.locals.size = nL) (hstack : g.stack = As.reverse ++ .ref b :: rest) (hW : 2 * g.monitorRoom + (rest.map fun v => v.category).sum ≤ 8) (hdg : decode cc g.pc = .ok (.invokevirtual index, 3)) (hf : cells + mc ≤ R.cells ∧ slots + ms ≤ R.slots) :
    vx_Run p l e R s m args below meth c H locs cells slots mc ms g rest (Qc (Value.ref b :: As).toArray) XC free := by
  obtain ⟨hrc, hrs, hfr, hlo, hws, hcw⟩ := cw.back
  have hini := cw.init
  have hK : vx_Back l R p e below s args y 3 8 (PreOf R mc ms Pc) (PostOf Qc mc ms free) (vx_Post XC mc ms free) := vx_back (bytes := bytes) (maxL := maxL) (ret := ret) hM hp.1 hrc hrs hfr hlo hws hcw (fun a' U hW => word_at hW (Or.inl (by first | rfl | simp [Cond.onTables, Cond.keeps, Cond.steady])) hini)
  obtain ⟨hx, hb, hml, ho, -⟩ := S
  obtain ⟨-, ⟨cellB, hcB, hoB, hclB⟩, hPc⟩ := hp
  intro T hT X
  rcases vx_callVU X hx (C := C) (owner := owner) (bytes := bytes) (maxL := maxL) (ret := ret) ho cw.link cw.same cw.decl cw.notMH cw.sel cw.inst cw.code hK (by rw [hT]; exact hcB) hoB hclB hg (hsize.trans hml.symm) (argsL := As) (rest := rest) (fun sig h => hn.trans (cw.len sig h)) hstack hW (by rw [hb]; exact hdg)
    (fun vm₁ hW₁ => ⟨hf.1, hf.2, hPc (T.setVm vm₁) hT hW₁⟩) with ⟨v, vm₁, ⟨U', l2, c2, s2⟩, hW₁, X', ⟨g', mk, t, L, e1, e2, hq, h1, hL, h2, h3⟩, st⟩ | ⟨q, vm₁, ⟨U', l2, c2, s2⟩, hW₁, X', ⟨g', mk, t, L, E, ce, e1, e2, hq, hce, hcv, hcl, h1, hL, h2, h3⟩, st⟩
  · dsimp only [Pt.U, Pt.locs, Pt.cells, Pt.slots] at X' e1 e2 h1 h2 h3 st
    subst h1; subst h2; subst h3
    exact Or.inl ⟨v, (T.setVm vm₁).calling g' mk (Value.ref b :: As).toArray, t, U', L, hT, X', hL, e1, e2, hq, st⟩
  · dsimp only [Pt.U, Pt.locs, Pt.cells, Pt.slots] at X' e1 e2 h1 h2 h3 st hcl
    subst h1; subst h2; subst h3
    exact Or.inr ⟨q, (T.setVm vm₁).calling g' mk (Value.ref b :: As).toArray, t, U', L, E, ce, hT, X', hL, e1, e2, hq, hce, hcv, vx_cls hW₁ hcl, st⟩
end
/-! ===== BEGIN super.m(..) that may throw (follows va_callSU, va_runSU) ===== -/
section
variable {p : Program} {l : Launch} {e : Env} {R : Room} {s : State} {m : MethodId} {args : Array Value} {below : List Frame} {meth : Method} {c : Code} {H : Heap} {locs : List Loc} {cells slots : Nat}
theorem vx_callSU {T : State} {locs : List Loc} {cells slots : Nat} (X : Stand p l e R s m args below meth c T locs cells slots) (hexec : p.tables.exec = Jvm.exec) {own : String} {index : Nat} {y : MethodName} {bytes : ByteArray} {maxL : Nat} {ret : Option FieldType}
    (hown : s.vm.findClass own = some m.cls) (hlink : (Cond.methodLink own index y).before args s = true) (hsame : (Cond.sameMethod y.cls y.cls y.name y.desc).before args s = true) (hsup : (Cond.superclass own y.cls).before args s = true)
    (hinst : (Cond.instanceMethod y).before args s = true) (hcode : (Cond.code y bytes maxL ret).before args s = true) (hno : y.name ≠ "<init>")
    {W : Nat} {Pre : Pt → Array Value → Prop} {Post : Pt → Array Value → Option Value → Pt → Prop} {PostX : Pt → Array Value → Addr → Pt → Prop} (hK : vx_Back l R p e below s args y 3 W Pre Post PostX)
    {b : Addr} {cellB : Cell} {kB : Class} (hcell : T.heap[b]? = some cellB) (hobj : cellB.vm.isStatics = false) (hkB : s.vm.classes[cellB.cls]? = some kB)
    {g : JFrame} (hg : g.method = m) (hsize : g.locals.size = c.maxLocals) {argsL rest : List Value} (hlen : ∀ sig, parseMethodDescriptor y.desc = some sig → argsL.length = sig.parameters.length)
    (hstack : g.stack = argsL.reverse ++ .ref b :: rest) (hW : 2 * g.monitorRoom + (rest.map fun v => v.category).sum ≤ W) (hdg : decode c.code g.pc = .ok (.invokespecial index, 3))
    (hpre : ∀ vm₁, s.WarmedH vm₁ → Pre ⟨T.setVm vm₁, locs, cells, slots⟩ (Value.ref b :: argsL).toArray) :
    (∃ (v : Option Value) (vm₁ : Vm) (B : Pt), s.WarmedH vm₁ ∧ Stand p l e R s m args below meth c B.U B.locs B.cells B.slots ∧ Post ⟨T.setVm vm₁, locs, cells, slots⟩ (Value.ref b :: argsL).toArray v B ∧
      ∀ target, Steps p.tables e below (B.U.setTop { g with pc := g.pc + 3, stack := v.toList ++ rest }) target → Steps p.tables e below (T.setTop g) target) ∨
    (∃ (q : Addr) (vm₁ : Vm) (B : Pt), s.WarmedH vm₁ ∧ Stand p l e R s m args below meth c B.U B.locs B.cells B.slots ∧ PostX ⟨T.setVm vm₁, locs, cells, slots⟩ (Value.ref b :: argsL).toArray q B ∧
      Steps p.tables e below (T.setTop g) ((B.U.setTop { g with stack := rest }).pushFrame (.throwing q))) := by
  obtain ⟨mk, methM, hnamed, hmethM, hstM, habM⟩ := Cond.instanceMethod_spec hinst
  obtain ⟨methM', cM, hmethM', -, -, -, -, -, -, hsigM⟩ := Cond.code_spec hnamed hcode
  cases hmethM.symm.trans hmethM'
  obtain ⟨ps, dk, kp, hps, hdk, hkp, hsuper, -, -, hnid⟩ := Cond.superclass_spec hown hsup
  have hn : s.methodNamed? ⟨y.cls, y.name, y.desc⟩ = some mk := hnamed
  have hpm : ps = mk.cls := Option.some.inj (hps.symm.trans (findClass_of_methodNamed hnamed))
  have hsub : s.vm.isSubclass ps mk.cls = true := by rw [hpm]; simp [Vm.isSubclass, Vm.isSubclassAux]
  obtain ⟨vm₁, X₁, hstep₁⟩ := X.invokespecialUp hexec hown hlink hsame hn hmethM hstM habM hno hdk hnid hps hsuper hsub (a := b) (cell := cellB) hcell
    (fun z h => by rw [h] at hobj; cases hobj) hkB (g := g) hg (argsL := argsL) (rest := rest) (hlen _ hsigM) hstack hdg
  rcases hK m meth c ⟨T.setVm vm₁, locs, cells, slots⟩ { g with stack := rest } (.invokespecial index) mk (Value.ref b :: argsL).toArray X₁ hg hsize hdg hW (X₁.named hnamed) (hpre vm₁ X₁.warmed) with ⟨v, B, X', hpost, hsteps⟩ | ⟨q, B, X', hpost, hsteps⟩
  · exact Or.inl ⟨v, vm₁, B, X₁.warmed, X', hpost, fun target h => hstep₁ _ (by rw [doInvoke_state]; exact hsteps.trans h)⟩
  · exact Or.inr ⟨q, vm₁, B, X₁.warmed, X', hpost, hstep₁ _ (by rw [doInvoke_state]; exact hsteps)⟩
theorem vx_runSU {y : MethodName} {bytes cc : ByteArray} {maxL nL mc ms n index : Nat} {ret : Option FieldType} {ws : List Cond} {rm : Room} {Pc : Array Value → State → Prop} {Qc : Array Value → State → Outcome → State → Prop} {XC : String → State → State → Prop} {free : Addr → Prop} {Ts : List Cond} {own C : String} {cC : ClassId} {b : Addr} {As rest : List Value} {g : JFrame}
    (hat : ClassAt s C cC) (S : CallFix p m c cc nL s args Ts own) (hM : vx_Met l y ws rm Pc Qc XC mc ms free) (cw : va_CS R s args own index y bytes maxL ret ws rm mc ms n) (hp : PreV s H C b Pc As)
    (hg : g.method = m) (hn : As.length = n) (hsize : g.locals.size = nL) (hstack : g.stack = As.reverse ++ .ref b :: rest) (hW : 2 * g.monitorRoom + (rest.map fun v => v.category).sum ≤ 8) (hdg : decode cc g.pc = .ok (.invokespecial index, 3)) (hf : cells + mc ≤ R.cells ∧ slots + ms ≤ R.slots) :
    vx_Run p l e R s m args below meth c H locs cells slots mc ms g rest (Qc (Value.ref b :: As).toArray) XC free := by
  obtain ⟨⟨hrc, hrs, hfr, hlo, hws, hcw⟩, hl1, hl2, hl3, hl4, hini, hcode, hno, hlen⟩ := cw
  have hK : vx_Back l R p e below s args y 3 8 (PreOf R mc ms Pc) (PostOf Qc mc ms free) (vx_Post XC mc ms free) := vx_back (bytes := bytes) (maxL := maxL) (ret := ret) hM hp.1 hrc hrs hfr hlo hws hcw (fun a' U hW => word_at hW (Or.inl (by first | rfl | simp [Cond.onTables, Cond.keeps, Cond.steady])) hini)
  obtain ⟨hx, hb, hml, ho, -⟩ := S
  obtain ⟨-, ⟨cellB, hcB, hoB, hclB⟩, hPc⟩ := hp
  obtain ⟨hfc, kB, hkB, -⟩ := hat
  cases hfc.symm.trans hclB
  intro T hT X
  rcases vx_callSU X hx (bytes := bytes) (maxL := maxL) (ret := ret) ho hl1 hl2 hl3 hl4 hcode hno hK (by rw [hT]; exact hcB) hoB hkB hg (hsize.trans hml.symm) (argsL := As) (rest := rest) (fun sig h => hn.trans (hlen sig h)) hstack hW (by rw [hb]; exact hdg)
    (fun vm₁ hW₁ => ⟨hf.1, hf.2, hPc (T.setVm vm₁) hT hW₁⟩) with ⟨v, vm₁, ⟨U', l2, c2, s2⟩, hW₁, X', ⟨g', mk, t, L, e1, e2, hq, h1, hL, h2, h3⟩, st⟩ | ⟨q, vm₁, ⟨U', l2, c2, s2⟩, hW₁, X', ⟨g', mk, t, L, E, ce, e1, e2, hq, hce, hcv, hcl, h1, hL, h2, h3⟩, st⟩
  · dsimp only [Pt.U, Pt.locs, Pt.cells, Pt.slots] at X' e1 e2 h1 h2 h3 st
    subst h1; subst h2; subst h3
    exact Or.inl ⟨v, (T.setVm vm₁).calling g' mk (Value.ref b :: As).toArray, t, U', L, hT, X', hL, e1, e2, hq, st⟩
  · dsimp only [Pt.U, Pt.locs, Pt.cells, Pt.slots] at X' e1 e2 h1 h2 h3 st hcl
    subst h1; subst h2; subst h3
    exact Or.inr ⟨q, (T.setVm vm₁).calling g' mk (Value.ref b :: As).toArray, t, U', L, E, ce, hT, X', hL, e1, e2, hq, hce, hcv, vx_cls hW₁ hcl, st⟩
end
/-! LAYER A, second part: entry, ends, calls, making, copying, throwing -/
section AZS
variable {l : Launch} {G : az_G} {nL : Nat} {Q : State → Prop} {p : Program} {e : Env} {R : Room} {s : State} {m : MethodId} {args : Array Value} {below : List Frame} {meth : Method} {c : Code} {ad : az_A} {K : az_K} {k n pc : Nat} {lv : List (Nat × Value)} {st : List Value}
variable {cc : ByteArray} {own : String} {ret : Option FieldType} {tab : List ExceptionTableEntry} {post : az_O → az_A → az_K → Prop} {mc ms : Nat}
theorem az_start {y : MethodName} {maxL d : Nat} {av : List Value} (hG : az_ok l G) (hy : plainName y.cls = true) (hlen : (lg_sl av).length ≤ maxL)
    (body : ∀ (p : Program) (e : Env) (s : State) (m : MethodId) (args : Array Value) (below : List Frame) (meth : Method) (c : Code), az_C l G p s m args meth c cc y.cls maxL ret [] → meth.name = y.name → az_W l G maxL (az_Q G post below args s mc ms) p e (az_rm d mc ms) s m args below meth c ad K 0 0 0 (lv_args 0 av) []) : az_M l G y (az_ws y cc maxL ret) d av ad K mc ms post := by
  refine vx_ofW (cc := cc) (maxL := maxL) (ret := ret) hy rfl ?_
  intro p e s m args below meth c s₁ B hml htab hv
  obtain ⟨rfl, hE, hP⟩ := hv
  have hts := atoms_spec (ws := az_ws y cc maxL ret) B.pre
  have C : az_C l G p s m av.toArray meth c cc y.cls maxL ret [] := ⟨B.exec, B.bytes, hml, findClass_of_methodNamed B.named, fun w hw hg => hts w (List.mem_cons_of_mem _ (List.mem_filter.mpr ⟨hw, hg⟩)), hE.1, hE.2.1, hE.2.2, B.notSynchronized, B.returns, List.eq_nil_iff_forall_not_mem.mpr htab, hG⟩
  have hl := lv_entry av (n := maxL) hlen
  rw [lg_entry_eq]
  exact body p e s m _ below meth c C (name_of_methodNamed B.named B.method).1 s.heap [] _ hP va_S.rf hl
theorem az_C.hx (C : az_C l G p s m args meth c cc own nL ret tab) : p.tables.exec = Jvm.exec := C.1
theorem az_C.hlocks (C : az_C l G p s m args meth c cc own nL ret tab) : meth.locks = false := C.2.2.2.2.2.2.2.2.1
theorem az_C.hret (C : az_C l G p s m args meth c cc own nL ret tab) : meth.sig.returnType = ret := C.2.2.2.2.2.2.2.2.2.1
theorem az_C.htab (C : az_C l G p s m args meth c cc own nL ret tab) : c.exceptionTable.toList = tab := C.2.2.2.2.2.2.2.2.2.2.1
theorem az_C.hG (C : az_C l G p s m args meth c cc own nL ret tab) : az_ok l G := C.2.2.2.2.2.2.2.2.2.2.2
theorem az_C.hw (C : az_C l G p s m args meth c cc own nL ret tab) {w : Cond} (h : w ∈ lw_tbl) (hg : goodWord w = true) : w.before args s = true := C.2.2.2.2.1 w h hg
theorem az_C.hts (C : az_C l G p s m args meth c cc own nL ret tab) : ∀ w ∈ az_good, w.before args s = true := fun w hw => C.2.2.2.2.1 w (List.mem_filter.mp hw).1 (List.mem_filter.mp hw).2
theorem az_C.hK (C : az_C l G p s m args meth c cc own nL ret tab) : va_K G.2.1 vwCl (az_tys G.2.2.1) s := C.2.2.2.2.2.1
theorem az_C.hO (C : az_C l G p s m args meth c cc own nL ret tab) : G.2.2.2 s s.heap := C.2.2.2.2.2.2.1
theorem az_C.hb (C : az_C l G p s m args meth c cc own nL ret tab) : G.1 ≤ s.heap.size := C.2.2.2.2.2.2.2.1

theorem az_iret (C : az_C l G p s m args meth c cc own nL ret tab) {v : Int32} (hr : ret = some .int) (d : decode cc pc = .ok (.ireturn, 1)) (hk : k ≤ mc) (hn : n ≤ ms) (hp : post (.inl (some (.int v))) ad K) : az_W l G nL (az_Q G post below args s mc ms) p e R s m args below meth c ad K k n pc lv [.int v] :=
  fun H locs ls hP hS hl => W.widen hk hn (vx_ret (W.iret C.1 C.2.1 (C.hret.trans hr) (fun t ht _ => ⟨⟨_, ad, K, rfl, hp, by rw [ht]; exact hP⟩, hS.F ht⟩) hS.2.2 d C.hlocks))
theorem az_zret (C : az_C l G p s m args meth c cc own nL ret tab) {v : Int32} (ty : FieldType) (hr : ret = some ty) (hnar : narrow ty (.int v) = .int v) (d : decode cc pc = .ok (.ireturn, 1)) (hk : k ≤ mc) (hn : n ≤ ms) (hp : post (.inl (some (.int v))) ad K) : az_W l G nL (az_Q G post below args s mc ms) p e R s m args below meth c ad K k n pc lv [.int v] :=
  fun H locs ls hP hS hl => W.widen hk hn (vx_ret (W.zret C.1 C.2.1 (C.hret.trans hr) hnar (fun t ht _ => ⟨⟨_, ad, K, rfl, hp, by rw [ht]; exact hP⟩, hS.F ht⟩) hS.2.2 d C.hlocks))
theorem az_lret (C : az_C l G p s m args meth c cc own nL ret tab) {v : Int64} (hr : ret = some .long) (d : decode cc pc = .ok (.lreturn, 1)) (hk : k ≤ mc) (hn : n ≤ ms) (hp : post (.inl (some (.long v))) ad K) : az_W l G nL (az_Q G post below args s mc ms) p e R s m args below meth c ad K k n pc lv [.long v] :=
  fun H locs ls hP hS hl => W.widen hk hn (vx_ret (W.lret C.1 C.2.1 (C.hret.trans hr) (fun t ht _ => ⟨⟨_, ad, K, rfl, hp, by rw [ht]; exact hP⟩, hS.F ht⟩) hS.2.2 d C.hlocks))
theorem az_dret (C : az_C l G p s m args meth c cc own nL ret tab) {v : UInt64} (hr : ret = some .double) (d : decode cc pc = .ok (.dreturn, 1)) (hk : k ≤ mc) (hn : n ≤ ms) (hp : post (.inl (some (.double v))) ad K) : az_W l G nL (az_Q G post below args s mc ms) p e R s m args below meth c ad K k n pc lv [.double v] :=
  fun H locs ls hP hS hl => W.widen hk hn (vx_ret (W.dret C.1 C.2.1 (C.hret.trans hr) (fun t ht _ => ⟨⟨_, ad, K, rfl, hp, by rw [ht]; exact hP⟩, hS.F ht⟩) hS.2.2 d C.hlocks))
theorem az_aret (C : az_C l G p s m args meth c cc own nL ret tab) {v : Value} (rt : FieldType) (hr : ret = some rt) (hrt : (∃ z, rt = .object z) ∨ ∃ t, rt = .array t) (hv : v = .null ∨ ∃ a, v = .ref a) (d : decode cc pc = .ok (.areturn, 1)) (hk : k ≤ mc) (hn : n ≤ ms) (hp : post (.inl (some (v))) ad K) : az_W l G nL (az_Q G post below args s mc ms) p e R s m args below meth c ad K k n pc lv [v] :=
  fun H locs ls hP hS hl => W.widen hk hn (vx_ret (W.aret C.1 C.2.1 (C.hret.trans hr) hrt hv (fun t ht _ => ⟨⟨_, ad, K, rfl, hp, by rw [ht]; exact hP⟩, hS.F ht⟩) hS.2.2 d C.hlocks))
theorem az_vret (C : az_C l G p s m args meth c cc own nL ret tab) (hr : ret = none) (d : decode cc pc = .ok (.return_, 1)) (hk : k ≤ mc) (hn : n ≤ ms) (hp : post (.inl none) ad K) : az_W l G nL (az_Q G post below args s mc ms) p e R s m args below meth c ad K k n pc lv [] :=
  fun H locs ls hP hS hl => W.widen hk hn (vx_ret (W.vret C.1 C.2.1 (C.hret.trans hr) (fun t ht _ => ⟨⟨_, ad, K, rfl, hp, by rw [ht]; exact hP⟩, hS.F ht⟩) hS.2.2 d C.hlocks))
theorem az_blind {av : List Value} (hG : az_ok l G) : FrameBlind (az_Pc G av ad K) := fun a U g mk q => by
  obtain ⟨h1, ⟨h2, h3, h4⟩, h5⟩ := q
  exact ⟨h1, ⟨va_K.moved (u := U) (U := U.calling g mk a) (Vm.Alike.refl U.vm) h2, hG.2.2.1 U _ g mk a h3, h4⟩, h5⟩
theorem az_here (C : az_C l G p s m args meth c cc own nL ret tab) {H : Heap} {locs : List Loc} {av : List Value} (hP : az_P G ad K H) (hS : va_S (fun q => G.1 ≤ q) s.heap H locs) : ∀ U : State, U.heap = H → s.WarmedH U.vm → az_Pc G av ad K av.toArray U := fun U hU hW => by
  refine ⟨rfl, ⟨va_K.moved hW.alike C.hK, ?_, ?_⟩, by rw [hU]; exact hP⟩
  · rw [hU]
    exact C.hG.1 s U H hW (C.hG.2.1 s s.heap H (fun q h1 h2 => hS.2.1 q h1 (Nat.not_le.mpr h2)) C.hO)
  · rw [hU]
    exact Nat.le_trans C.hb hS.1
theorem az_callB (C : az_C l G p s m args meth c cc own nL ret tab) {y : MethodName} {b : ByteArray} {nY kY d' idx : Nat} {rY : Option FieldType} (Y : az_Y y b nY rY kY) (hw : Cond.methodLink own idx y ∈ lw_tbl) (hfr : d' + 1 ≤ R.frames) (hlo : 19 + nY + 40 * d' ≤ R.locals) : CallB R s args own idx y b nY rY (az_ws y b nY rY) (az_rm d' mc ms) mc ms kY := by
  obtain ⟨y1, y2, y3, y4⟩ := Y
  refine ⟨rfl, rfl, hfr, ?_, fun w hw9 a' U hW => ?_, List.mem_cons_self, C.hw y1 rfl, C.hw y2 rfl, y3, fun sig h => ?_, C.hw hw rfl⟩
  · show 8 + (nY + 11) + 40 * d' ≤ R.locals
    omega
  · rcases List.mem_cons.mp hw9 with h | h
    · subst h
      exact word_at hW (good_of_word rfl) (C.hw y1 rfl)
    · exact word_at hW (good_of_word (List.mem_filter.mp h).2) (C.hts w h)
  · rw [h] at y4
    exact (Option.some.inj y4).symm
theorem az_run {mc ms : Nat} {rest : List Value} {post : az_O → az_A → az_K → Prop} {a : Array Value} {H : Heap} {locs : List Loc} {ls : Array Slot} (hr : vx_Run p l e R s m args below meth c H locs k n mc ms (F0 m pc ls st) rest (az_Qc G post a) (az_XC G post) (az_fr G)) (hS : va_S (fun q => G.1 ≤ q) s.heap H locs) (hl : lv_has ls nL lv)
    (kk : ∀ (v : Option Value) (ad' : az_A) (K' : az_K), post (.inl v) ad' K' → az_W l G nL Q p e R s m args below meth c ad' K' (k + mc) (n + ms) (pc + 3) lv (v.toList ++ rest))
    (kx : ∀ (E : String) (ad' : az_A) (K' : az_K), post (.inr E) ad' K' → az_X l G nL Q p e R s m args below meth c ad' K' (k + mc) (n + ms) pc lv E) : W p l e R s m args below meth c H locs k n Q (F0 m pc ls st) := by
  intro T hT X
  rcases hr T hT X with ⟨v, st₀, t, T', L, h0, X', hL, e1, e2, ⟨⟨v', ad', K', hv, hp, hb⟩, hF⟩, st9⟩ | ⟨q, st₀, t, T', L, E, ce, h0, X', hL, e1, e2, ⟨⟨ad', K', hp, hb⟩, hF⟩, hce, hcv, hcl, st9⟩
  · cases hv
    obtain ⟨k1, k2, k3⟩ := vx_keep (free := az_fr G) h0 e1 hS (fun _ _ h => h) (fun _ h => h) hL hF
    obtain ⟨t2, a1, b1⟩ := kk v ad' K' hp T'.heap (locs ++ L) ls (by rw [e1]; exact hb) k3 hl T' rfl X'
    exact ⟨t2, st9 t2 a1, b1⟩
  · obtain ⟨k1, k2, k3⟩ := vx_keep (free := az_fr G) h0 e1 hS (fun _ _ h => h) (fun _ h => h) hL hF
    obtain ⟨t2, a1, b1⟩ := kx E ad' K' hp T'.heap (locs ++ L) ls rest q ce (by rw [e1]; exact hb) k3 hl (by rw [e1]; exact hce) hcv hcl T' rfl X'
    exact ⟨t2, st9.trans a1, b1⟩

/-- a call of an instance method of the receiver's own class; the receiver lies at the place r, i -/
theorem az_callV (C : az_C l G p s m args meth c cc own nL ret tab) {y : MethodName} {b : ByteArray} {nY kY d' idx mc ms : Nat} {rY : Option FieldType} {post : az_O → az_A → az_K → Prop} (Y : az_Y y b nY rY kY) {C0 : String} {T : u_T} {N ci : Nat} {ty : Nat → FieldType} (c0 : az_cl ci C0 T N ty) (r i : Nat) {fs : List Value} {a : Nat} (As rest : List Value) (hw : Cond.methodLink own idx y ∈ lw_tbl) (hi : Cond.instanceMethod y ∈ lw_tbl) (hse : Cond.selects C0 y y ∈ lw_tbl) (d : decode cc pc = .ok (.invokevirtual idx, 3)) (ha : ad r i = a) (hk : K r i = some (.inr (ci, fs))) (hst : st = As.reverse ++ .ref a :: rest) (hM : az_M l G y (az_ws y b nY rY) d' (.ref a :: As) ad K mc ms post) (hn : As.length = kY) (hW : (rest.map fun v => v.category).sum ≤ 8) (hfr : d' + 1 ≤ R.frames) (hlo : 19 + nY + 40 * d' ≤ R.locals) (hc : k + mc ≤ R.cells) (hs : n + ms ≤ R.slots)
    (kk : ∀ (v : Option Value) (ad' : az_A) (K' : az_K), post (.inl v) ad' K' → az_W l G nL Q p e R s m args below meth c ad' K' (k + mc) (n + ms) (pc + 3) lv (v.toList ++ rest))
    (kx : ∀ (E : String) (ad' : az_A) (K' : az_K), post (.inr E) ad' K' → az_X l G nL Q p e R s m args below meth c ad' K' (k + mc) (n + ms) pc lv E) : az_W l G nL Q p e R s m args below meth c ad K k n pc lv st := by
  subst ha
  intro H locs ls hP hS hl
  exact az_run (vx_runV (As := As) (rest := rest) (C := C0) ⟨C.1, C.2.1, C.2.2.1, C.2.2.2.1, C.hts⟩ hM ⟨az_callB C Y hw hfr hlo, C.hw hi rfl, C.hw hse rfl⟩ ⟨az_blind C.hG, va_recv C.hK (az_one (hP.1 _ _ _ hk).1) c0.1 (q0 := 0) rfl, az_here C hP hS⟩ rfl hn hl.1 hst (lv_room hW) d ⟨hc, hs⟩) hS hl kk kx
/-- a call of a static method -/
theorem az_callS (C : az_C l G p s m args meth c cc own nL ret tab) {y : MethodName} {b : ByteArray} {nY kY d' idx mc ms : Nat} {rY : Option FieldType} {post : az_O → az_A → az_K → Prop} (Y : az_Y y b nY rY kY) (As rest : List Value) (hw : Cond.methodLink own idx y ∈ lw_tbl) (hi : Cond.static y ∈ lw_tbl) (d : decode cc pc = .ok (.invokestatic idx, 3)) (hst : st = As.reverse ++ rest) (hM : az_M l G y (az_ws y b nY rY) d' As ad K mc ms post) (hn : As.length = kY) (hW : (rest.map fun v => v.category).sum ≤ 8) (hfr : d' + 1 ≤ R.frames) (hlo : 19 + nY + 40 * d' ≤ R.locals) (hc : k + mc ≤ R.cells) (hs : n + ms ≤ R.slots)
    (kk : ∀ (v : Option Value) (ad' : az_A) (K' : az_K), post (.inl v) ad' K' → az_W l G nL Q p e R s m args below meth c ad' K' (k + mc) (n + ms) (pc + 3) lv (v.toList ++ rest))
    (kx : ∀ (E : String) (ad' : az_A) (K' : az_K), post (.inr E) ad' K' → az_X l G nL Q p e R s m args below meth c ad' K' (k + mc) (n + ms) pc lv E) : az_W l G nL Q p e R s m args below meth c ad K k n pc lv st := by
  intro H locs ls hP hS hl
  exact az_run (vx_runS (As := As) (rest := rest) ⟨C.1, C.2.1, C.2.2.1, C.2.2.2.1, C.hts⟩ hM ⟨az_callB C Y hw hfr hlo, C.hw hi rfl⟩ ⟨az_blind C.hG, az_here C hP hS⟩ rfl hn hl.1 hst (lv_room hW) d ⟨hc, hs⟩) hS hl kk kx
/-- a call of a constructor -/
theorem az_callI (C : az_C l G p s m args meth c cc own nL ret tab) {y : MethodName} {b : ByteArray} {nY kY d' idx mc ms : Nat} {post : az_O → az_A → az_K → Prop} (Y : az_Y y b nY none kY) {a : Nat} (As rest : List Value) (hy1 : y.name = "<init>") (hw : Cond.methodLink own idx y ∈ lw_tbl) (hi : Cond.instanceMethod y ∈ lw_tbl) (d : decode cc pc = .ok (.invokespecial idx, 3)) (hst : st = As.reverse ++ .ref a :: rest) (hM : az_M l G y (az_ws y b nY none) d' (.ref a :: As) ad K mc ms post) (hn : As.length = kY) (hW : (rest.map fun v => v.category).sum ≤ 8) (hfr : d' + 1 ≤ R.frames) (hlo : 19 + nY + 40 * d' ≤ R.locals) (hc : k + mc ≤ R.cells) (hs : n + ms ≤ R.slots)
    (kk : ∀ (v : Option Value) (ad' : az_A) (K' : az_K), post (.inl v) ad' K' → az_W l G nL Q p e R s m args below meth c ad' K' (k + mc) (n + ms) (pc + 3) lv (v.toList ++ rest))
    (kx : ∀ (E : String) (ad' : az_A) (K' : az_K), post (.inr E) ad' K' → az_X l G nL Q p e R s m args below meth c ad' K' (k + mc) (n + ms) pc lv E) : az_W l G nL Q p e R s m args below meth c ad K k n pc lv st := by
  intro H locs ls hP hS hl
  exact az_run (vx_runI (As := As) (rest := rest) (b := a) ⟨C.1, C.2.1, C.2.2.1, C.2.2.2.1, C.hts⟩ hM ⟨az_callB C Y hw hfr hlo, hy1, C.hw hi rfl⟩ ⟨az_blind C.hG, az_here C hP hS⟩ rfl hn hl.1 hst (lv_room hW) d ⟨hc, hs⟩) hS hl kk kx
theorem az_k1 {post : az_O → az_A → az_K → Prop} {v : Option Value} {ad1 : az_A} {K1 : az_K} {rest st1 : List Value} (hp : post = az_r v ad1 K1) (hst : v.toList ++ rest = st1) (kk : az_W l G nL Q p e R s m args below meth c ad1 K1 k n pc lv st1) : ∀ (v : Option Value) (ad' : az_A) (K' : az_K), post (.inl v) ad' K' → az_W l G nL Q p e R s m args below meth c ad' K' k n pc lv (v.toList ++ rest) := by
  subst hp; subst hst
  rintro v ad' K' ⟨h1, rfl, rfl⟩
  cases h1
  exact kk
theorem az_k0 {post : az_O → az_A → az_K → Prop} {v : Option Value} {ad1 : az_A} {K1 : az_K} (hp : post = az_r v ad1 K1) : ∀ (E : String) (ad' : az_A) (K' : az_K), post (.inr E) ad' K' → az_X l G nL Q p e R s m args below meth c ad' K' k n pc lv E := by
  subst hp
  rintro E ad' K' ⟨h1, -⟩
  cases h1
theorem az_x1 {post : az_O → az_A → az_K → Prop} {E : String} {ad1 : az_A} {K1 : az_K} (hp : post = az_x E ad1 K1) (kk : az_X l G nL Q p e R s m args below meth c ad1 K1 k n pc lv E) : ∀ (E : String) (ad' : az_A) (K' : az_K), post (.inr E) ad' K' → az_X l G nL Q p e R s m args below meth c ad' K' k n pc lv E := by
  subst hp
  rintro v ad' K' ⟨h1, rfl, rfl⟩
  cases h1
  exact kk
theorem az_x0 {post : az_O → az_A → az_K → Prop} {E : String} {ad1 : az_A} {K1 : az_K} {rest : List Value} (hp : post = az_x E ad1 K1) : ∀ (v : Option Value) (ad' : az_A) (K' : az_K), post (.inl v) ad' K' → az_W l G nL Q p e R s m args below meth c ad' K' k n pc lv (v.toList ++ rest) := by
  subst hp
  rintro E ad' K' ⟨h1, -⟩
  cases h1
/-- thrown, and this method lets it out -/
theorem az_out (C : az_C l G p s m args meth c cc own nL ret tab) {E : String} (ht : ∀ x ∈ tab, covers x pc = false) (hk : k ≤ mc) (hn : n ≤ ms) (hp : post (.inr E) ad K) : az_X l G nL (az_Q G post below args s mc ms) p e R s m args below meth c ad K k n pc lv E :=
  fun H locs ls rest q ce hP hS hl hce hcv hcl => vx_out (E := E) (by rw [C.htab]; exact ht) C.hlocks hce hcv hcl (fun t ht ha => ⟨⟨ad, K, hp, by rw [ht]; exact hP⟩, hS.F ht⟩) hS.2.2 hk hn
theorem az_xkn {E : String} (k' n' : Nat) (h1 : k ≤ k') (h2 : n ≤ n') (kk : az_X l G nL Q p e R s m args below meth c ad K k' n' pc lv E) : az_X l G nL Q p e R s m args below meth c ad K k n pc lv E := fun H locs ls rest q ce hP hS hl h3 h4 h5 => vx_widen h1 h2 (kk H locs ls rest q ce hP hS hl h3 h4 h5)
/-- a new object -/
theorem az_new (C : az_C l G p s m args meth c cc own nL ret tab) {C0 : String} {T : u_T} {N ci idx : Nat} {ty : Nat → FieldType} (c0 : az_cl ci C0 T N ty) (r i : Nat) (fs : List Value) (hcl : Cond.classLink own idx C0 ∈ lw_tbl) (hinst : Cond.instantiable C0 N ∈ lw_tbl) (hini : Cond.initialized C0 ∈ lw_tbl) (hfs : ∀ j, j < N → defaultValue (ty j) = vp_V fs j) (hcells : k + 1 ≤ R.cells) (hslots : n + N ≤ R.slots) (d : decode cc pc = .ok (.new idx, 3))
    (kk : ∀ q : Nat, az_W l G nL Q p e R s m args below meth c (az_ua ad r i q) (az_u K r i (.inr (ci, fs))) (k + 1) (n + N) (pc + 3) lv (.ref q :: st)) : az_W l G nL Q p e R s m args below meth c ad K k n pc lv st := by
  intro H locs ls hP hS hl
  have hKn := C.hK.1 ci _ c0.1
  have hts := C.hts
  have hin : ∀ w ∈ u_ws C0 T N, w ∈ az_good := fun w hw => List.mem_filter.mpr (c0.2.1 w hw)
  refine W.newcK C.1 C.2.1 C.2.2.2.1 (C.hw hcl rfl) (C.hw hinst rfl) (C.hw hini rfl) rfl d hcells hslots hKn.2.1 rfl fun H1 kC hkC e1 z1 o1 => ?_
  exact kk H.size H1 locs ls (hP.new rfl ⟨_, c0.1, (u_born ty hts hin hKn hkC e1 c0.2.2.1).to hfs⟩ o1 (Nat.le_trans C.hb hS.1)) ⟨Nat.le_trans hS.1 (by omega), fun x h1 h2 => (o1 x (Nat.lt_of_lt_of_le h1 hS.1)).trans (hS.2.1 x h1 h2), hS.2.2⟩ hl
/-- a new array of numbers -/
theorem az_newa (C : az_C l G p s m args meth c cc own nL ret tab) {atype : ArrayType} (z : Nat) (t : FieldType) (hty : newarray.typeOf atype = t) (hz : (az_tys G.2.2.1)[z]? = some (G.2.2.1 z, t)) (hra : ∀ (U : State) (cA : ClassId), va_RA U cA t → U.vm.findClass ("[" ++ t.toString) = some cA) (r i : Nat) {x : Int32} (N : Nat) (a0 : vp_A) (ha : ∀ cA : ClassId, vp_cell cA a0 = arrV cA N (fun _ => defaultValue t)) (harr : Cond.arrayClass t ∈ lw_tbl) (hx : ¬ x < 0) (hN : x.toNatClampNeg = N) (hby : N * componentBytes t ≤ 536870912) (hcells : k + 1 ≤ R.cells) (hslots : n + N ≤ R.slots) (d : decode cc pc = .ok (.newarray atype, 2))
    (kk : ∀ q : Nat, az_W l G nL Q p e R s m args below meth c (az_ua ad r i q) (az_u K r i (.inl (G.2.2.1 z, a0))) (k + 1) (n + N) (pc + 2) lv (.ref q :: st)) : az_W l G nL Q p e R s m args below meth c ad K k n pc lv (.int x :: st) := by
  intro H locs ls hP hS hl
  subst hty
  refine va_newaK C.1 C.2.1 (C.hw harr rfl) rfl d rfl hx hN hby hcells hslots rfl fun H1 cA e1 z1 o1 hAr hNm => ?_
  have hcA : cA = G.2.2.1 z := Option.some.inj (hNm.symm.trans (hra _ _ (C.hK.2 z _ hz).2))
  subst hcA
  exact kk H.size H1 locs ls (hP.new rfl (by show H1[H.size]? = some (vp_cell _ _); rw [ha]; exact e1) o1 (Nat.le_trans C.hb hS.1)) ⟨Nat.le_trans hS.1 (by omega), fun x h1 h2 => (o1 x (Nat.lt_of_lt_of_le h1 hS.1)).trans (hS.2.1 x h1 h2), hS.2.2⟩ hl
/-- a new array of references to barges -/
theorem az_newq (C : az_C l G p s m args meth c cc own nL ret tab) {idx : Nat} (hO : va_AO az_B s) (r i : Nat) {x : Int32} (N : Nat) (hcl : Cond.classLink own idx az_B ∈ lw_tbl) (hx : ¬ x < 0) (hN : x.toNatClampNeg = N) (hby : N * 4 ≤ 536870912) (hcells : k + 1 ≤ R.cells) (hslots : n + N ≤ R.slots) (d : decode cc pc = .ok (.anewarray idx, 3))
    (kk : ∀ q : Nat, az_W l G nL Q p e R s m args below meth c (az_ua ad r i q) (az_u K r i (.inl (G.2.2.1 5, N, .inr (.inr (.inr (.inr (fun _ => none))))))) (k + 1) (n + N) (pc + 3) lv (.ref q :: st)) : az_W l G nL Q p e R s m args below meth c ad K k n pc lv (.int x :: st) := by
  intro H locs ls hP hS hl
  subst hN
  refine W.anew C.1 C.2.1 C.2.2.2.1 (C.hw hcl rfl) (va_AO.use hO) rfl d rfl hx hby hcells hslots fun cA kA comp f1 f2 f3 f4 => ?_
  generalize hH1 : H.push ({ cls := cA, slots := Array.replicate x.toNatClampNeg .null, vm := .none } : Cell) = H1
  have z1 : H1.size = H.size + 1 := by rw [← hH1, Array.size_push]
  have e1 : H1[H.size]? = some (arrV cA x.toNatClampNeg (fun _ => .null)) := by rw [← hH1, Array.getElem?_push_size, ← arrV_new]
  have o1 : ∀ q : Nat, q < H.size → H1[q]? = H[q]? := fun q hq => by rw [← hH1, Array.getElem?_push, if_neg (Nat.ne_of_lt hq)]
  obtain ⟨kA9, comp9, g1, g2, g3, g4⟩ := (C.hK.2 5 _ rfl).2
  have hcA : cA = G.2.2.1 5 := Option.some.inj (f1.symm.trans g4)
  subst hcA
  exact kk H.size H1 locs ls (hP.new rfl (by show H1[H.size]? = some (vp_cell _ _); rw [vp_cell_q]; exact e1) o1 (Nat.le_trans C.hb hS.1)) ⟨Nat.le_trans hS.1 (by omega), fun x h1 h2 => (o1 x (Nat.lt_of_lt_of_le h1 hS.1)).trans (hS.2.1 x h1 h2), hS.2.2⟩ hl
/-- a barge into an array -/
theorem az_aast (C : az_C l G p s m args meth c cc own nL ret tab) {N a v : Nat} {f : Nat → Option Nat} (r i r2 i2 ci : Nat) {vs : List Value} {q : vw_C} (hq : q.1 = az_B) (hc : vwCl[ci]? = some q) {x : Int32} (d : decode cc pc = .ok (.aastore, 1)) (ha : ad r i = a) (hk : K r i = some (.inl (G.2.2.1 5, N, .inr (.inr (.inr (.inr f)))))) (hv : ad r2 i2 = v) (hk2 : K r2 i2 = some (.inr (ci, vs))) (hx : vp_in x N)
    (kk : az_W l G nL Q p e R s m args below meth c ad (az_u K r i (.inl (G.2.2.1 5, N, .inr (.inr (.inr (.inr (va_up f x.toNatClampNeg (some v)))))))) k n (pc + 1) lv st) : az_W l G nL Q p e R s m args below meth c ad K k n pc lv (.ref v :: .int x :: .ref a :: st) := by
  subst ha; subst hv
  intro H locs ls hP hS hl
  have hlt : x.toNatClampNeg < N := Nat.not_le.mp fun q => hx (Or.inr q)
  have h0 : ¬ x < 0 := fun q => hx (Or.inl q)
  obtain ⟨r', hr', cellV, g1, g2, g3, -⟩ := (hP.1 _ _ _ hk2).1
  have hcls := (C.hK.1 ci q hc).2
  obtain ⟨kA, comp, k1, k2, k3, -⟩ := (C.hK.2 5 _ rfl).2
  rw [← hq] at k3
  have hcomp : comp = G.2.1.1 ci := Option.some.inj (k3.symm.trans hcls.1)
  subst hcomp
  obtain ⟨kC, hkC, -⟩ := hcls.2
  refine W.aast C.1 C.2.1 (hP.1 _ _ _ hk).1 (fun q h => by cases h) (fun h => by cases h) k1 k2 rfl hkC ⟨h0, by show _ < (arrV _ _ _).slots.size; rw [arrV_size]; exact hlt⟩ g1 (fun q h => by rw [g3] at h; cases h) (by rw [g2]; exact hkC) (by rw [g2]; exact va_assign hcls) rfl rfl d fun H1 e z oq => ?_
  refine kk H1 _ ls (hP.set hk ?_ oq) (hS.put z oq (hP.1 _ _ _ hk).2) hl
  show H1[ad r i]? = some (vp_cell _ _)
  rw [e]
  rw [vp_cell_q, vp_cell_q, arrV_store]
  congr 2
  funext q
  by_cases hq : q = x.toNatClampNeg
  · subst hq
    simp [updV, va_up, va_rf]
  · simp [updV, va_up, hq]
/-- System.arraycopy between two arrays of one type of numbers -/
theorem az_copy (C : az_C l G p s m args meth c cc own nL ret tab) {a0 a1 n0 n1 idx : Nat} {f g : Nat → Int32} (r i r2 i2 z : Nat) (t : FieldType) (ht : (az_tys G.2.2.1)[z]? = some (G.2.2.1 z, t)) (hprim : refKind t = false) (hw : Cond.methodLink own idx arraycopyName ∈ lw_tbl) (hnat : Cond.native arraycopyName ∈ lw_tbl) (hstat : Cond.static arraycopyName ∈ lw_tbl) (hini : Cond.initialized "java/lang/System" ∈ lw_tbl) (d : decode cc pc = .ok (.invokestatic idx, 3))
    (ha : ad r i = a0) (hk : K r i = some (.inl (G.2.2.1 z, n0, .inl f))) (ha2 : ad r2 i2 = a1) (hk2 : K r2 i2 = some (.inl (G.2.2.1 z, n1, .inl g))) {sp dp q : Int32} (h1 : ¬ sp < 0) (h2 : ¬ dp < 0) (h3 : ¬ q < 0) (h4 : sp.toNatClampNeg + q.toNatClampNeg ≤ n0) (h5 : dp.toNatClampNeg + q.toNatClampNeg ≤ n1) (hfit : ∀ j, j < q.toNatClampNeg → fits t (.int (f (sp.toNatClampNeg + j))) = true)
    (hfr : 1 ≤ R.frames) (hlo : (st.map fun v => v.category).sum + 40 ≤ R.locals)
    (kk : az_W l G nL Q p e R s m args below meth c ad (az_u K r2 i2 (.inl (G.2.2.1 z, n1, .inl (va_cpy f g sp.toNatClampNeg dp.toNatClampNeg q.toNatClampNeg)))) k n (pc + 3) lv st) : az_W l G nL Q p e R s m args below meth c ad K k n pc lv (.int q :: .int dp :: .ref a1 :: .int sp :: .ref a0 :: st) := by
  subst ha; subst ha2
  have nn : ∀ z : Int32, ¬ z < 0 → z.toInt = (z.toNatClampNeg : Int) := by
    intro z hz
    have hz0 : (0 : Int) ≤ z.toInt := by
      have := Int32.not_lt.mp hz
      simpa using Int32.le_iff_toInt_le.mp this
    show z.toInt = ((z.toInt.toNat : Nat) : Int)
    omega
  intro H locs ls hP hS hl T hT X
  have hc0 : H[ad r i]? = some (vp_cell (G.2.2.1 z) (n0, .inl f)) := (hP.1 _ _ _ hk).1
  have hc1 : H[ad r2 i2]? = some (vp_cell (G.2.2.1 z) (n1, .inl g)) := (hP.1 _ _ _ hk2).1
  obtain ⟨-, k0, hk0, cm0, hkk0⟩ := (C.hK.2 z _ ht).1 n0 (fun j => .int (f j))
  obtain ⟨-, k1, hk1, cm1, hkk1⟩ := (C.hK.2 z _ ht).1 n1 (fun j => .int (g j))
  have hlw : (st.map fun v => v.category).sum + (nativeFrameWords "java/lang/System" "arraycopy" 5 + 11) ≤ R.locals := Nat.le_trans (Nat.add_le_add_left (show nativeFrameWords "java/lang/System" "arraycopy" 5 + 11 ≤ 40 by decide +kernel) _) hlo
  obtain ⟨vm', X', step⟩ := X.arraycopy C.1 C.2.2.2.1 (C.hw hw rfl) (C.hw hnat rfl) (C.hw hstat rfl) (C.hw hini rfl) (src := ad r i) (dst := ad r2 i2) (cs := vp_cell (G.2.2.1 z) (n0, .inl f)) (cd := vp_cell (G.2.2.1 z) (n1, .inl g)) (srcPos := sp) (destPos := dp) (n := q) (by rw [hT]; exact hc0) (by rw [hT]; exact hc1)
    (fun _ h => by cases h) (fun _ h => by cases h) (fun h => by cases h) (fun h => by cases h) hk0 hk1 hkk0 hkk1 (by simp [hprim]) h1 h2 h3
    (by rw [nn sp h1, nn q h3]; show ¬ _ > ((arrV (G.2.2.1 z) n0 (fun j => .int (f j))).slots.size : Int); rw [arrV_size]; omega)
    (by rw [nn dp h2, nn q h3]; show ¬ _ > ((arrV (G.2.2.1 z) n1 (fun j => .int (g j))).slots.size : Int); rw [arrV_size]; omega)
    (fun vm₁ _ i9 hi => by
      have e : (vp_cell (G.2.2.1 z) (n0, .inl f)).slots.getD (sp.toNatClampNeg + i9) .null = .int (f (sp.toNatClampNeg + i9)) := by
        show (arrV (G.2.2.1 z) n0 (fun j => .int (f j))).slots.getD _ _ = _
        rw [Array.getD_eq_getD_getElem?, arrV_read _ _ (by omega)]
        rfl
      refine ⟨?_, ?_⟩
      · rw [e]
        exact hfit i9 hi
      · rw [e]
        exact trivial)
    (g := F0 m pc ls (.int q :: .int dp :: .ref (ad r2 i2) :: .int sp :: .ref (ad r i) :: st)) rfl (by rw [C.2.2.1]; exact hl.1) (rest := st) rfl (by rw [C.2.1]; exact d) hfr (by show 2 * 0 + _ + _ ≤ _; omega)
  have e1 : copied (vp_cell (G.2.2.1 z) (n0, .inl f)) (vp_cell (G.2.2.1 z) (n1, .inl g)) sp dp q = vp_cell (G.2.2.1 z) (n1, .inl (va_cpy f g sp.toNatClampNeg dp.toNatClampNeg q.toNatClampNeg)) := va_copied (fun z => .int z) _ _ f g h4
  rw [e1] at X' step
  generalize hcell : vp_cell (G.2.2.1 z) (n1, .inl (va_cpy f g sp.toNatClampNeg dp.toNatClampNeg q.toNatClampNeg)) = cx at X' step
  have hl9 : ad r2 i2 < H.size := (Array.getElem?_eq_some_iff.mp hc1).1
  have hheap : ((T.setVm vm').setCell (ad r2 i2) cx).heap = H.setIfInBounds (ad r2 i2) cx := by rw [← hT]; rfl
  have oq : ∀ z : Nat, z ≠ ad r2 i2 → (H.setIfInBounds (ad r2 i2) cx)[z]? = H[z]? := fun z hz => by simp [Array.getElem?_setIfInBounds, Ne.symm hz]
  obtain ⟨t, a1, b1⟩ := kk _ _ ls (hP.set hk2 (show (H.setIfInBounds (ad r2 i2) cx)[ad r2 i2]? = some _ by rw [hcell]; simp [Array.getElem?_setIfInBounds, hl9]) oq) ⟨by simp; exact hS.1, fun z g1 g2 => by
      rw [oq z (fun e => g2 (by rw [e]; exact (hP.1 _ _ _ hk2).2))]
      exact hS.2.1 z g1 g2, fun z hz => by
      rcases List.mem_append.mp hz with h | h
      · exact hS.2.2 z h
      · obtain ⟨w, -, hw⟩ := List.mem_map.mp h
        rw [← hw]
        exact (hP.1 _ _ _ hk2).2⟩ hl _ hheap X'
  exact ⟨t, step t a1, b1⟩

theorem az_mmax (C : az_C l G p s m args meth c cc own nL ret tab) {idx : Nat} {x y : Int32} (hw : Cond.methodLink own idx Lib.Math.max.name ∈ lw_tbl) (hstat : Cond.static Lib.Math.max.name ∈ lw_tbl) (hini : Cond.initialized "java/lang/Math" ∈ lw_tbl) (hcode : Cond.code Lib.Math.max.name Lib.Math.max.code 2 (some .int) ∈ lw_tbl) (hfr : 1 ≤ R.frames) (hlo : (st.map fun v => v.category).sum + 13 ≤ R.locals) (hc : k ≤ R.cells) (hs : n ≤ R.slots) (d : decode cc pc = .ok (.invokestatic idx, 3)) (kk : az_W l G nL Q p e R s m args below meth c ad K k n (pc + 3) lv (.int (if x < y then y else x) :: st)) : az_W l G nL Q p e R s m args below meth c ad K k n pc lv (.int y :: .int x :: st) :=
  fun H locs ls hP hS hl => va_mmax C.1 C.2.1 (by rw [C.2.2.1]; exact hl.1.symm) C.2.2.2.1 (C.hw hw rfl) (C.hw hstat rfl) (C.hw hini rfl) (C.hw hcode rfl) hfr hlo hc hs d (kk H locs ls hP hS hl)
theorem az_mmin (C : az_C l G p s m args meth c cc own nL ret tab) {idx : Nat} {x y : Int32} (hw : Cond.methodLink own idx Lib.Math.min.name ∈ lw_tbl) (hstat : Cond.static Lib.Math.min.name ∈ lw_tbl) (hini : Cond.initialized "java/lang/Math" ∈ lw_tbl) (hcode : Cond.code Lib.Math.min.name Lib.Math.min.code 2 (some .int) ∈ lw_tbl) (hfr : 1 ≤ R.frames) (hlo : (st.map fun v => v.category).sum + 13 ≤ R.locals) (hc : k ≤ R.cells) (hs : n ≤ R.slots) (d : decode cc pc = .ok (.invokestatic idx, 3)) (kk : az_W l G nL Q p e R s m args below meth c ad K k n (pc + 3) lv (.int (if y < x then y else x) :: st)) : az_W l G nL Q p e R s m args below meth c ad K k n pc lv (.int y :: .int x :: st) :=
  fun H locs ls hP hS hl => va_mmin C.1 C.2.1 (by rw [C.2.2.1]; exact hl.1.symm) C.2.2.2.1 (C.hw hw rfl) (C.hw hstat rfl) (C.hw hini rfl) (C.hw hcode rfl) hfr hlo hc hs d (kk H locs ls hP hS hl)
theorem az_mabs (C : az_C l G p s m args meth c cc own nL ret tab) {idx : Nat} {x : Int32} (hw : Cond.methodLink own idx Lib.Math.abs.name ∈ lw_tbl) (hstat : Cond.static Lib.Math.abs.name ∈ lw_tbl) (hini : Cond.initialized "java/lang/Math" ∈ lw_tbl) (hcode : Cond.code Lib.Math.abs.name Lib.Math.abs.code 1 (some .int) ∈ lw_tbl) (hfr : 1 ≤ R.frames) (hlo : (st.map fun v => v.category).sum + 13 ≤ R.locals) (hc : k ≤ R.cells) (hs : n ≤ R.slots) (d : decode cc pc = .ok (.invokestatic idx, 3)) (kk : az_W l G nL Q p e R s m args below meth c ad K k n (pc + 3) lv (.int (if 0 ≤ x then x else 0 - x) :: st)) : az_W l G nL Q p e R s m args below meth c ad K k n pc lv (.int x :: st) :=
  fun H locs ls hP hS hl => va_mabs C.1 C.2.1 (by rw [C.2.2.1]; exact hl.1.symm) C.2.2.2.1 (C.hw hw rfl) (C.hw hstat rfl) (C.hw hini rfl) (C.hw hcode rfl) hfr hlo hc hs d (kk H locs ls hP hS hl)
theorem az_obj (C : az_C l G p s m args meth c cc own nL ret tab) {idx a : Nat} (hw : Cond.methodLink own idx objectInit ∈ lw_tbl) (hi : Cond.instanceMethod objectInit ∈ lw_tbl) (hcode : Cond.code objectInit ⟨#[0xb1]⟩ 1 none ∈ lw_tbl) (d : decode cc pc = .ok (.invokespecial idx, 3)) (hfr : 1 ≤ R.frames) (hlo : (st.map fun v => v.category).sum + 12 ≤ R.locals) (kk : az_W l G nL Q p e R s m args below meth c ad K k n (pc + 3) lv st) : az_W l G nL Q p e R s m args below meth c ad K k n pc lv (.ref a :: st) :=
  fun H locs ls hP hS hl => W.objInit C.1 C.2.1 C.2.2.2.1 (C.hw hw rfl) (C.hw hi rfl) (C.hw hcode rfl) rfl (by rw [C.2.2.1]; exact hl.1) rfl d hfr (by show 2 * 0 + _ + 12 ≤ _; omega) (kk H locs ls hP hS hl)
end AZS
section AZT
variable {l : Launch} {G : az_G} {nL : Nat} {Q : State → Prop} {p : Program} {e : Env} {R : Room} {s : State} {m : MethodId} {args : Array Value} {below : List Frame} {meth : Method} {c : Code} {ad : az_A} {K : az_K} {k n pc : Nat} {lv : List (Nat × Value)} {st : List Value}
variable {cc : ByteArray} {own : String} {ret : Option FieldType} {tab : List ExceptionTableEntry} {post : az_O → az_A → az_K → Prop} {mc ms : Nat}
theorem az_P.kept {H H1 : Heap} (h : az_P G ad K H) (oq : ∀ q : Nat, q < H.size → H1[q]? = H[q]?) : az_P G ad K H1 := ⟨fun r i e hk => ⟨(h.1 r i e hk).1.kept (oq _ (h.1 r i e hk).1.lt), (h.1 r i e hk).2⟩, h.2⟩
theorem az_throwS (C : az_C l G p s m args meth c cc own nL ret tab) {cls text : String} {names : List String} {ik is ic sa : Nat} (hcls : Bundle.fit cls = true) (hnames : ∀ n ∈ names, Bundle.fit n = true)
    (hk : Cond.classLink own ik cls ∈ lw_tbl) (hini : Cond.initialized cls ∈ lw_tbl) (hstr : vk_R own is text sa s) (hat : ∀ w ∈ vx_atS own ic cls names, w.before args s = true) (hgood : ∀ w ∈ Cond.classLink own ik cls :: Cond.initialized cls :: vx_atS own ic cls names, vx_ot w = true)
    (hU : vx_Zq Bundle.tN "UNASSIGNED_STACK" Bundle.steD (fun q => G.1 ≤ q) s s.heap) (hN : vx_Zq Bundle.tN "SUPPRESSED_SENTINEL" Bundle.listD (fun q => G.1 ≤ q) s s.heap)
    (d0 : decode cc pc = .ok (.new ik, 3)) (d3 : decode cc (pc + 3) = .ok (.dup, 1)) (d4 : decode cc (pc + 4) = .ok (.ldc is, 2)) (d6 : decode cc (pc + 6) = .ok (.invokespecial ic, 3)) (d9 : decode cc (pc + 9) = .ok (.athrow, 1))
    (hout : ∀ x ∈ tab, covers x (pc + 9) = false) (hfr : names.length + 3 < R.frames) (hlo : (st.map fun v => v.category).sum + (13 * (names.length + 1) + 43) ≤ R.locals) (hc : k + 1 ≤ R.cells) (hs : n + 6 ≤ R.slots) (hc2 : k + 1 ≤ mc) (hs2 : n + 6 ≤ ms) (hp : post (.inr cls) ad K) :
    az_W l G nL (az_Q G post below args s mc ms) p e R s m args below meth c ad K k n pc lv st :=
  fun H locs ls hP hS hl => vx_throwS C.1 C.2.1 C.hG.2.2.2 C.2.2.2.1 hcls hnames (C.hw hk rfl) (C.hw hini rfl) hstr hat hgood hU hN hS (by rw [C.2.2.1]; exact hl.1) d0 d3 d4 d6 d9 (by rw [C.htab]; exact hout) hfr hlo hc hs C.hlocks
    (fun t ha hz oq => ⟨⟨ad, K, hp, hP.kept oq⟩, Nat.le_trans hS.1 hz, fun q h1 h2 => (oq q (Nat.lt_of_lt_of_le h1 hS.1)).trans (hS.2.1 q h1 h2)⟩) hS.2.2 hc2 hs2
theorem az_throwSW (C : az_C l G p s m args meth c cc own nL ret tab) {cls text : String} {names : List String} {ik is ic sa : Nat} (hcls : Bundle.fit cls = true) (hnames : ∀ n ∈ names, Bundle.fit n = true)
    (hk : Cond.classLink own ik cls ∈ lw_tbl) (hini : Cond.initialized cls ∈ lw_tbl) (hstr : vk_R own is text sa s) (hat : ∀ w ∈ vx_atS own ic cls names, w.before args s = true) (hgood : ∀ w ∈ Cond.classLink own ik cls :: Cond.initialized cls :: vx_atS own ic cls names, vx_ot w = true)
    (hU : vx_Zq Bundle.tN "UNASSIGNED_STACK" Bundle.steD (fun q => G.1 ≤ q) s s.heap) (hN : vx_Zq Bundle.tN "SUPPRESSED_SENTINEL" Bundle.listD (fun q => G.1 ≤ q) s s.heap)
    (d0 : decode cc pc = .ok (.new ik, 3)) (d3 : decode cc (pc + 3) = .ok (.dup, 1)) (d4 : decode cc (pc + 4) = .ok (.ldc_w is, 3)) (d6 : decode cc (pc + 7) = .ok (.invokespecial ic, 3)) (d9 : decode cc (pc + 10) = .ok (.athrow, 1))
    (hout : ∀ x ∈ tab, covers x (pc + 10) = false) (hfr : names.length + 3 < R.frames) (hlo : (st.map fun v => v.category).sum + (13 * (names.length + 1) + 43) ≤ R.locals) (hc : k + 1 ≤ R.cells) (hs : n + 6 ≤ R.slots) (hc2 : k + 1 ≤ mc) (hs2 : n + 6 ≤ ms) (hp : post (.inr cls) ad K) :
    az_W l G nL (az_Q G post below args s mc ms) p e R s m args below meth c ad K k n pc lv st :=
  fun H locs ls hP hS hl => vx_throwSW C.1 C.2.1 C.hG.2.2.2 C.2.2.2.1 hcls hnames (C.hw hk rfl) (C.hw hini rfl) hstr hat hgood hU hN hS (by rw [C.2.2.1]; exact hl.1) d0 d3 d4 d6 d9 (by rw [C.htab]; exact hout) hfr hlo hc hs C.hlocks
    (fun t ha hz oq => ⟨⟨ad, K, hp, hP.kept oq⟩, Nat.le_trans hS.1 hz, fun q h1 h2 => (oq q (Nat.lt_of_lt_of_le h1 hS.1)).trans (hS.2.1 q h1 h2)⟩) hS.2.2 hc2 hs2
/-- a private field of a nest mate -/
theorem az_getN (C : az_C l G p s m args meth c cc own nL ret tab) {C0 host : String} {T : u_T} {N ci : Nat} {ty : Nat → FieldType} (c0 : az_cl ci C0 T N ty) {idx a : Nat} (r i j : Nat) {fs : List Value} {v : Value} (hw : (Cond.fieldLinkNest own idx (T j).1 (T j).2.1 (T j).2.2.1 host).before args s = true) (d : decode cc pc = .ok (.getfield idx, 3)) (ha : ad r i = a) (hk : K r i = some (.inr (ci, fs))) (hv : fs[j]? = some v) (hj : j < N)
    (kk : az_W l G nL Q p e R s m args below meth c ad K k n (pc + 3) lv (v :: st)) : az_W l G nL Q p e R s m args below meth c ad K k n pc lv (.ref a :: st) := by
  subst ha
  intro H locs ls hP hS hl
  exact va_getN (D := G.2.1) (ref := (T j).1) C.1 C.2.1 (Ts := az_good) C.hts (fun w hw => List.mem_filter.mpr (c0.2.1 w hw)) C.2.2.2.1 C.hK (az_one (hP.1 _ _ _ hk).1) 0 rfl c0.1 j hj hw (fun _ h => h) hv d (kk H locs ls hP hS hl)
theorem az_putN (C : az_C l G p s m args meth c cc own nL ret tab) {C0 host : String} {T : u_T} {N ci : Nat} {ty : Nat → FieldType} (c0 : az_cl ci C0 T N ty) {idx a : Nat} (r i j : Nat) {fs : List Value} {v : Value} (hw : (Cond.fieldLinkNest own idx (T j).1 (T j).2.1 (T j).2.2.1 host).before args s = true) (d : decode cc pc = .ok (.putfield idx, 3)) (ha : ad r i = a) (hk : K r i = some (.inr (ci, fs))) (hj : j < N) (hjl : j < fs.length) (hfin : (T j).2.2.2 = false) (hn : narrow (ty j) v = v) (hfit : fits (ty j) v = true)
    (kk : az_W l G nL Q p e R s m args below meth c ad (az_u K r i (.inr (ci, fs.set j v))) k n (pc + 3) lv st) : az_W l G nL Q p e R s m args below meth c ad K k n pc lv (v :: .ref a :: st) := by
  subst ha
  intro H locs ls hP hS hl
  have hts := C.hts
  have hin : ∀ w ∈ u_ws C0 T N, w ∈ az_good := fun w hw => List.mem_filter.mpr (c0.2.1 w hw)
  have hK := C.hK
  have hc := c0.1
  have hap := va_apart (own := own) (args := args) hts hin ty c0.2.2.1 c0.2.2.2 hK hc
  obtain ⟨r9, h1, cell, q1, q2, q3, q4⟩ := (hP.1 _ _ _ hk).1
  have hr : r9 = (C0, T, N) := Option.some.inj (h1.symm.trans hc)
  subst hr
  obtain ⟨hSl, hfc, kC, hkC, hkind⟩ := hK.1 ci _ hc
  obtain ⟨cf, kf, fi, f, hi, hsl⟩ := hSl j hj
  have hlay := hts _ (hin _ (u_in_lay hj))
  unfold u_lay at hlay
  rw [if_neg (by rw [hfin]; decide)] at hlay
  have hst := (u_facts hfc hkC (u_lays hts hin hj) hi).1
  have h6 := u_store hfc hkC hkind hlay hi (c0.2.2.1 j hj) hn hfit
  refine va_WputK C.1 C.2.1 C.2.2.2.1 hw hi hst (by rw [q2]; exact h6) q1 q3 (by rw [hsl]; exact k2_hasslot (q4 j hj)) rfl rfl d fun H' e1 e2 e3 => ?_
  rw [hsl] at e1
  exact kk H' _ ls (hP.set hk ⟨_, hc, t_OB.to (V := updV (vp_V fs) j v) ⟨_, e1, q2, q3, t_set q4 hap hj v⟩ (fun z _ => vp_updV_set hjl v z)⟩ e3) (hS.put e2 e3 (hP.1 _ _ _ hk).2) hl
end AZT
end
section
/-! THE STATE: every cell of the class (region 0, barges region 1), of the reference (region 2), of the law's own answer row (region 3), at places with fixed numbers -/
/-- addresses of the fixed cells; of the rows that grow; of the barges; the movements' capacity, the text's capacity, how many barges -/
abbrev Rp : Type := (Nat → Nat) × (Nat → Nat) × (Nat → Nat) × Nat × Nat × Nat
abbrev Xs : Type := (Nat → Nat → Int32) × (Nat → Nat → Int32) × (Nat → Nat → Option Nat) × Int64
abbrev Ms : Type := (Nat → Nat → Int32) × Int64
def up2 {α : Type} (f : Nat → Nat → α) (p k : Nat) (v : α) : Nat → Nat → α := fun p' => if p' = p then (fun k' => if k' = k then v else f p k') else f p'
def up1 {α : Type} (f : Nat → α) (p : Nat) (v : α) : Nat → α := fun p' => if p' = p then v else f p'
theorem up2_s {α : Type} {f : Nat → Nat → α} {p k : Nat} {v : α} : up2 f p k v p k = v := by simp [up2]
theorem up2_p {α : Type} {f : Nat → Nat → α} {p k p' : Nat} {v : α} (h : p' ≠ p) : up2 f p k v p' = f p' := by simp [up2, h]
theorem up2_k {α : Type} {f : Nat → Nat → α} {p k k' : Nat} {v : α} (h : k' ≠ k) : up2 f p k v p k' = f p k' := by simp [up2, h]
theorem up2_row {f : Nat → Nat → Int32} {p k : Nat} {v : Int32} : up2 f p k v p = upd (f p) k v := by
  simp only [up2, if_true]; rfl
theorem up1_s {α : Type} {f : Nat → α} {p : Nat} {v : α} : up1 f p v p = v := by simp [up1]
theorem up1_n {α : Type} {f : Nat → α} {p p' : Nat} {v : α} (h : p' ≠ p) : up1 f p v p' = f p' := by simp [up1, h]
abbrev xI (x : Xs) (p k : Nat) (v : Int32) : Xs := (up2 x.1 p k v, x.2.1, x.2.2.1, x.2.2.2)
abbrev xR (x : Xs) (p : Nat) (f : Nat → Int32) : Xs := (up1 x.1 p f, x.2.1, x.2.2.1, x.2.2.2)
abbrev xY (x : Xs) (j k : Nat) (v : Int32) : Xs := (x.1, up2 x.2.1 j k v, x.2.2.1, x.2.2.2)
abbrev xL (x : Xs) (w j : Nat) (o : Option Nat) : Xs := (x.1, x.2.1, up2 x.2.2.1 w j o, x.2.2.2)
abbrev xP (x : Xs) (v : Int64) : Xs := (x.1, x.2.1, x.2.2.1, v)
abbrev mI (m : Ms) (p k : Nat) (v : Int32) : Ms := (up2 m.1 p k v, m.2)
abbrev mM (m : Ms) (v : Int64) : Ms := (m.1, v)
def bgs (ρ : Rp) : Nat → Option Nat := fun j => if j < ρ.2.2.2.2.2 then some (ρ.2.2.1 j) else none
def xc0 (ρ : Rp) (pu : Int64) (f : Nat → Int32) : va_E := .inr (7, [.ref (ρ.1 1), .ref (ρ.1 9), .ref (ρ.1 10), .ref (ρ.1 11), .ref (ρ.1 12), .ref (ρ.1 13), .ref (ρ.1 14), .int (f 7), .int (f 8), .long pu, .int (f 10), .int (f 11), .int (f 12), .int (f 13)])
def xc1 (G : az_G) (ρ : Rp) (i : Nat) (f : Nat → Int32) : Option va_E := match i with
  | 1 => some (.inr (6, [.ref (ρ.1 2), .ref (ρ.1 3), .ref (ρ.1 4), .ref (ρ.1 5), .ref (ρ.1 6), .ref (ρ.1 7), .ref (ρ.1 8), .int (f 7), .int (f 8)]))
  | 2 => some (.inl (G.2.2.1 0, 6, .inl f))
  | 3 => some (.inl (G.2.2.1 0, 5, .inl f))
  | 4 => some (.inl (G.2.2.1 0, 18, .inl f))
  | 5 => some (.inl (G.2.2.1 0, 5, .inl f))
  | 6 => some (.inl (G.2.2.1 0, 18, .inl f))
  | 7 => some (.inl (G.2.2.1 0, 5, .inl f))
  | 8 => some (.inr (5, [.ref (ρ.2.1 20), .ref (ρ.2.1 21), .ref (ρ.2.1 22), .int (f 3)]))
  | 9 => some (.inl (G.2.2.1 0, 5, .inl f))
  | 10 => some (.inl (G.2.2.1 0, 5, .inl f))
  | 11 => some (.inl (G.2.2.1 0, 6, .inl f))
  | 12 => some (.inl (G.2.2.1 0, 6, .inl f))
  | 13 => some (.inl (G.2.2.1 5, 8, .inr (.inr (.inr (.inr (bgs ρ))))))
  | 14 => some (.inr (1, [.ref (ρ.2.1 23), .int (f 1), .int (f 2), .int (f 3)]))
  | 20 => some (.inl (G.2.2.1 0, ρ.2.2.2.1, .inl f))
  | 21 => some (.inl (G.2.2.1 0, ρ.2.2.2.1, .inl f))
  | 22 => some (.inl (G.2.2.1 0, ρ.2.2.2.1, .inl f))
  | 23 => some (.inl (G.2.2.1 3, ρ.2.2.2.2.1, .inl f))
  | _ => none
def xc (G : az_G) (ρ : Rp) (pu : Int64) (i : Nat) (f : Nat → Int32) : Option va_E := match i with
  | 0 => some (xc0 ρ pu f)
  | i + 1 => xc1 G ρ (i + 1) f
def bc (ρ : Rp) (i : Nat) (f : Nat → Int32) (lk : Nat → Nat → Option Nat) : va_E := .inr (4, [.int (nI i), .int (f 1), .int (f 2), .int (f 3), .int (f 4), .int (f 5), va_rf ((lk 0 i).map ρ.2.2.1), va_rf ((lk 1 i).map ρ.2.2.1)])

def mcl0 (ρ : Rp) (mo : Int64) (f : Nat → Int32) : va_E := .inr (8, [.int (f 0), .int (f 1), .int (f 2), .ref (ρ.1 103), .ref (ρ.1 104), .ref (ρ.1 105), .ref (ρ.1 106), .ref (ρ.1 107), .ref (ρ.1 108), .ref (ρ.1 109), .ref (ρ.1 110), .ref (ρ.1 111), .int (f 12), .ref (ρ.1 113), .ref (ρ.1 114), .ref (ρ.1 115), .ref (ρ.1 116), .ref (ρ.1 117), .ref (ρ.1 118), .ref (ρ.1 119), .long mo, .int (f 21), .int (f 22), .int (f 23), .int (f 24), .ref (ρ.1 125), .ref (ρ.1 126), .ref (ρ.1 127), .int (f 28), .int (f 29), .int (f 30), .int (f 31), .ref (ρ.1 132), .ref (ρ.1 133), .ref (ρ.1 134), .ref (ρ.1 135), .int (f 36), .int (f 37), .ref (ρ.1 138), .int (f 39)])
def mcl1 (G : az_G) (ρ : Rp) (i : Nat) (f : Nat → Int32) : Option va_E := match i with
  | 3 => some (.inl (G.2.2.1 0, 6, .inl f))
  | 4 => some (.inl (G.2.2.1 0, 6, .inl f))
  | 5 => some (.inl (G.2.2.1 0, 6, .inl f))
  | 6 => some (.inl (G.2.2.1 0, 6, .inl f))
  | 7 => some (.inl (G.2.2.1 0, 5, .inl f))
  | 8 => some (.inl (G.2.2.1 0, 5, .inl f))
  | 9 => some (.inl (G.2.2.1 0, 5, .inl f))
  | 10 => some (.inl (G.2.2.1 0, 5, .inl f))
  | 11 => some (.inl (G.2.2.1 1, 5, .inl f))
  | 13 => some (.inl (G.2.2.1 0, 8, .inl f))
  | 14 => some (.inl (G.2.2.1 0, 8, .inl f))
  | 15 => some (.inl (G.2.2.1 0, 8, .inl f))
  | 16 => some (.inl (G.2.2.1 0, 8, .inl f))
  | 17 => some (.inl (G.2.2.1 0, 8, .inl f))
  | 18 => some (.inl (G.2.2.1 0, 8, .inl f))
  | 19 => some (.inl (G.2.2.1 0, 8, .inl f))
  | 25 => some (.inl (G.2.2.1 0, 100000, .inl f))
  | 26 => some (.inl (G.2.2.1 0, 100000, .inl f))
  | 27 => some (.inl (G.2.2.1 0, 100000, .inl f))
  | 32 => some (.inl (G.2.2.1 0, 6, .inl f))
  | 33 => some (.inl (G.2.2.1 0, 5, .inl f))
  | 34 => some (.inl (G.2.2.1 0, 8, .inl f))
  | 35 => some (.inl (G.2.2.1 1, 5, .inl f))
  | 38 => some (.inl (G.2.2.1 2, 40, .inl f))
  | _ => none
def mcl (G : az_G) (ρ : Rp) (mo : Int64) (i : Nat) (f : Nat → Int32) : Option va_E := match i with
  | 0 => some (mcl0 ρ mo f)
  | i + 1 => mcl1 G ρ (i + 1) f
def AD (ρ : Rp) : az_A := fun r i => match r with
  | 0 => if i < 20 then ρ.1 i else ρ.2.1 i
  | 1 => ρ.2.2.1 i
  | 2 => ρ.1 (100 + i)
  | _ => ρ.1 90
def KK (G : az_G) (ρ : Rp) (x : Xs) (m : Ms) (ou : Nat → Int64) : az_K := fun r i => match r with
  | 0 => xc G ρ x.2.2.2 i (x.1 i)
  | 1 => if i < ρ.2.2.2.2.2 then some (bc ρ i (x.2.1 i) x.2.2.1) else none
  | 2 => mcl G ρ m.2 i (m.1 i)
  | 3 => if i = 0 then some (.inl (G.2.2.1 4, 1, .inr (.inl ou))) else none
  | _ => none
theorem KK_X {G : az_G} {ρ : Rp} {x : Xs} {m : Ms} {ou : Nat → Int64} {i j : Nat} {v : Int32} {e : va_E} (h : xc G ρ x.2.2.2 i (upd (x.1 i) j v) = some e) : az_u (KK G ρ x m ou) 0 i e = KK G ρ (xI x i j v) m ou := by
  funext r i'
  by_cases hh : r = 0 ∧ i' = i
  · obtain ⟨rfl, rfl⟩ := hh
    rw [az_u_s]
    show some e = xc G ρ x.2.2.2 i' (up2 x.1 i' j v i')
    rw [up2_row, h]
  · rw [az_u_n hh]
    match r, hh with
    | 0, hh =>
      have hi : i' ≠ i := fun z => hh ⟨rfl, z⟩
      show xc G ρ x.2.2.2 i' (x.1 i') = xc G ρ x.2.2.2 i' (up2 x.1 i j v i')
      rw [up2_p hi]
    | 1, _ => rfl
    | 2, _ => rfl
    | 3, _ => rfl
    | _ + 4, _ => rfl
theorem KK_R {G : az_G} {ρ : Rp} {x : Xs} {m : Ms} {ou : Nat → Int64} {i : Nat} {f : Nat → Int32} {e : va_E} (h : xc G ρ x.2.2.2 i f = some e) : az_u (KK G ρ x m ou) 0 i e = KK G ρ (xR x i f) m ou := by
  funext r i'
  by_cases hh : r = 0 ∧ i' = i
  · obtain ⟨rfl, rfl⟩ := hh
    rw [az_u_s]
    show some e = xc G ρ x.2.2.2 i' (up1 x.1 i' f i')
    rw [up1_s, h]
  · rw [az_u_n hh]
    match r, hh with
    | 0, hh =>
      have hi : i' ≠ i := fun z => hh ⟨rfl, z⟩
      show xc G ρ x.2.2.2 i' (x.1 i') = xc G ρ x.2.2.2 i' (up1 x.1 i f i')
      rw [up1_n hi]
    | 1, _ => rfl
    | 2, _ => rfl
    | 3, _ => rfl
    | _ + 4, _ => rfl
theorem KK_M {G : az_G} {ρ : Rp} {x : Xs} {m : Ms} {ou : Nat → Int64} {i j : Nat} {v : Int32} {e : va_E} (h : mcl G ρ m.2 i (upd (m.1 i) j v) = some e) : az_u (KK G ρ x m ou) 2 i e = KK G ρ x (mI m i j v) ou := by
  funext r i'
  by_cases hh : r = 2 ∧ i' = i
  · obtain ⟨rfl, rfl⟩ := hh
    rw [az_u_s]
    show some e = mcl G ρ m.2 i' (up2 m.1 i' j v i')
    rw [up2_row, h]
  · rw [az_u_n hh]
    match r, hh with
    | 2, hh =>
      have hi : i' ≠ i := fun z => hh ⟨rfl, z⟩
      show mcl G ρ m.2 i' (m.1 i') = mcl G ρ m.2 i' (up2 m.1 i j v i')
      rw [up2_p hi]
    | 0, _ => rfl
    | 1, _ => rfl
    | 3, _ => rfl
    | _ + 4, _ => rfl
theorem KK_of {K K' : az_K} {r i : Nat} {e : va_E} (h1 : K' r i = some e) (h2 : ∀ r' i' : Nat, ¬ (r' = r ∧ i' = i) → K r' i' = K' r' i') : az_u K r i e = K' := by
  funext r' i'
  by_cases hh : r' = r ∧ i' = i
  · obtain ⟨rfl, rfl⟩ := hh
    rw [az_u_s, h1]
  · rw [az_u_n hh]
    exact h2 r' i' hh
theorem KK_mo {G : az_G} {ρ : Rp} {x : Xs} {m : Ms} {ou : Nat → Int64} {v : Int64} {e : va_E} (h : mcl G ρ v 0 (m.1 0) = some e) : az_u (KK G ρ x m ou) 2 0 e = KK G ρ x (mM m v) ou :=
  KK_of (by rw [← h]; rfl) (fun r i hh => by
    match r, i, hh with
    | 2, 0, hh => exact absurd ⟨rfl, rfl⟩ hh
    | 2, i + 1, _ => rfl
    | 0, _, _ => rfl
    | 1, _, _ => rfl
    | 3, _, _ => rfl
    | _ + 4, _, _ => rfl)
theorem KK_pu {G : az_G} {ρ : Rp} {x : Xs} {m : Ms} {ou : Nat → Int64} {v : Int64} {e : va_E} (h : xc G ρ v 0 (x.1 0) = some e) : az_u (KK G ρ x m ou) 0 0 e = KK G ρ (xP x v) m ou :=
  KK_of (by rw [← h]; rfl) (fun r i hh => by
    match r, i, hh with
    | 0, 0, hh => exact absurd ⟨rfl, rfl⟩ hh
    | 0, i + 1, _ => rfl
    | 2, _, _ => rfl
    | 1, _, _ => rfl
    | 3, _, _ => rfl
    | _ + 4, _, _ => rfl)
theorem KK_ou {G : az_G} {ρ : Rp} {x : Xs} {m : Ms} {ou ou' : Nat → Int64} : az_u (KK G ρ x m ou) 3 0 (.inl (G.2.2.1 4, 1, .inr (.inl ou'))) = KK G ρ x m ou' :=
  KK_of rfl (fun r i hh => by
    match r, i, hh with
    | 3, 0, hh => exact absurd ⟨rfl, rfl⟩ hh
    | 3, i + 1, _ => rfl
    | 0, _, _ => rfl
    | 1, _, _ => rfl
    | 2, _, _ => rfl
    | _ + 4, _, _ => rfl)
theorem KK_Y {G : az_G} {ρ : Rp} {x : Xs} {m : Ms} {ou : Nat → Int64} {j k : Nat} {v : Int32} (hj : j < ρ.2.2.2.2.2) : az_u (KK G ρ x m ou) 1 j (bc ρ j (upd (x.2.1 j) k v) x.2.2.1) = KK G ρ (xY x j k v) m ou :=
  KK_of (by show (if j < _ then some (bc ρ j (up2 x.2.1 j k v j) _) else none) = _; rw [if_pos hj, up2_row]) (fun r i hh => by
    match r, hh with
    | 1, hh =>
      have hi : i ≠ j := fun z => hh ⟨rfl, z⟩
      show (if i < _ then some (bc ρ i (x.2.1 i) _) else none) = (if i < _ then some (bc ρ i (up2 x.2.1 j k v i) _) else none)
      rw [up2_p hi]
    | 0, _ => rfl
    | 2, _ => rfl
    | 3, _ => rfl
    | _ + 4, _ => rfl)
theorem bc_L {ρ : Rp} {i : Nat} {f : Nat → Int32} {lk lk' : Nat → Nat → Option Nat} (h0 : lk 0 i = lk' 0 i) (h1 : lk 1 i = lk' 1 i) : bc ρ i f lk = bc ρ i f lk' := by simp only [bc, h0, h1]
theorem KK_L {G : az_G} {ρ : Rp} {x : Xs} {m : Ms} {ou : Nat → Int64} {w j : Nat} {o : Option Nat} (hj : j < ρ.2.2.2.2.2) : az_u (KK G ρ x m ou) 1 j (bc ρ j (x.2.1 j) (up2 x.2.2.1 w j o)) = KK G ρ (xL x w j o) m ou :=
  KK_of (by show (if j < _ then some (bc ρ j (x.2.1 j) _) else none) = _; rw [if_pos hj]) (fun r i hh => by
    match r, hh with
    | 1, hh =>
      have hi : i ≠ j := fun z => hh ⟨rfl, z⟩
      show (if i < _ then some (bc ρ i (x.2.1 i) x.2.2.1) else none) = (if i < _ then some (bc ρ i (x.2.1 i) (up2 x.2.2.1 w j o)) else none)
      have key : ∀ u : Nat, x.2.2.1 u i = up2 x.2.2.1 w j o u i := fun u => by
        by_cases hu : u = w
        · subst hu; rw [up2_k hi]
        · rw [up2_p hu]
      rw [bc_L (key 0) (key 1)]
    | 0, _ => rfl
    | 2, _ => rfl
    | 3, _ => rfl
    | _ + 4, _ => rfl)
theorem KK_b {G : az_G} {ρ : Rp} {x : Xs} {m : Ms} {ou : Nat → Int64} {j : Nat} (hj : j < ρ.2.2.2.2.2) : KK G ρ x m ou 1 j = some (bc ρ j (x.2.1 j) x.2.2.1) := if_pos hj

theorem cX0 : az_cl 4 RX0 TX0 8 tyX0 := ⟨rfl, by decide +kernel, tyX0_ok, nmX0⟩
theorem cX1 : az_cl 5 RX1 TX1 4 tyX1 := ⟨rfl, by decide +kernel, tyX1_ok, nmX1⟩
theorem cX2 : az_cl 6 RX2 TX2 9 tyX2 := ⟨rfl, by decide +kernel, tyX2_ok, nmX2⟩
theorem cX3 : az_cl 7 RX3 TX3 14 tyX3 := ⟨rfl, by decide +kernel, tyX3_ok, nmX3⟩
theorem cX4 : az_cl 8 RX4 TX4 40 tyX4 := ⟨rfl, by decide +kernel, tyX4_ok, nmX4⟩
theorem cJ4 : az_cl 1 RJ4 TJ4 4 tyJ4 := ⟨rfl, by decide +kernel, tyJ4_ok, nmJ4⟩
theorem cJ0 : az_cl 0 RJ0 TJ0 4 tyJ0 := ⟨rfl, by decide +kernel, tyJ0_ok, nmJ0⟩
end
section
theorem wini_L : Cond.initialized RL ∈ lw_tbl := az_t (i := 0) (by decide +kernel)
theorem wini_X3 : Cond.initialized RX3 ∈ lw_tbl := az_t (i := 1) (by decide +kernel)
theorem wini_X2 : Cond.initialized RX2 ∈ lw_tbl := az_t (i := 2) (by decide +kernel)
theorem wini_X1 : Cond.initialized RX1 ∈ lw_tbl := az_t (i := 3) (by decide +kernel)
theorem wini_J5 : Cond.initialized RJ5 ∈ lw_tbl := az_t (i := 4) (by decide +kernel)
theorem wini_J4 : Cond.initialized RJ4 ∈ lw_tbl := az_t (i := 5) (by decide +kernel)
theorem wini_J0 : Cond.initialized RJ0 ∈ lw_tbl := az_t (i := 6) (by decide +kernel)
theorem wini_J2 : Cond.initialized RJ2 ∈ lw_tbl := az_t (i := 7) (by decide +kernel)
theorem wini_J7 : Cond.initialized RJ7 ∈ lw_tbl := az_t (i := 8) (by decide +kernel)
theorem wini_Math : Cond.initialized "java/lang/Math" ∈ lw_tbl := az_t (i := 9) (by decide +kernel)
theorem wini_J9 : Cond.initialized RJ9 ∈ lw_tbl := az_t (i := 9) (by decide +kernel)
theorem wini_System : Cond.initialized "java/lang/System" ∈ lw_tbl := az_t (i := 10) (by decide +kernel)
theorem wini_J10 : Cond.initialized RJ10 ∈ lw_tbl := az_t (i := 10) (by decide +kernel)
theorem wini_X4 : Cond.initialized RX4 ∈ lw_tbl := az_t (i := 11) (by decide +kernel)
theorem wini_Exception : Cond.initialized "java/lang/Exception" ∈ lw_tbl := az_t (i := 13) (by decide +kernel)
theorem wini_RuntimeException : Cond.initialized "java/lang/RuntimeException" ∈ lw_tbl := az_t (i := 14) (by decide +kernel)
theorem wini_IllegalArgumentException : Cond.initialized "java/lang/IllegalArgumentException" ∈ lw_tbl := az_t (i := 15) (by decide +kernel)
theorem wini_IllegalStateException : Cond.initialized "java/lang/IllegalStateException" ∈ lw_tbl := az_t (i := 16) (by decide +kernel)
theorem wini_IndexOutOfBoundsException : Cond.initialized "java/lang/IndexOutOfBoundsException" ∈ lw_tbl := az_t (i := 17) (by decide +kernel)
theorem wini_UnsupportedOperationException : Cond.initialized "java/lang/UnsupportedOperationException" ∈ lw_tbl := az_t (i := 18) (by decide +kernel)
theorem wini_X0 : Cond.initialized RX0 ∈ lw_tbl := az_t (i := 19) (by decide +kernel)
theorem wini_NoSuchElementException : Cond.initialized "java/util/NoSuchElementException" ∈ lw_tbl := az_t (i := 20) (by decide +kernel)
theorem wini_Jx7c733 : Cond.initialized RJx7c733 ∈ lw_tbl := az_t (i := 21) (by decide +kernel)
theorem wini_J8 : Cond.initialized RJ8 ∈ lw_tbl := az_t (i := 22) (by decide +kernel)
theorem wini_J3 : Cond.initialized RJ3 ∈ lw_tbl := az_t (i := 23) (by decide +kernel)
theorem wini_J1 : Cond.initialized RJ1 ∈ lw_tbl := az_t (i := 24) (by decide +kernel)
theorem wini_Jxd2413 : Cond.initialized RJxd2413 ∈ lw_tbl := az_t (i := 25) (by decide +kernel)
theorem wini_J6 : Cond.initialized RJ6 ∈ lw_tbl := az_t (i := 26) (by decide +kernel)
theorem wini_Jx00060 : Cond.initialized RJx00060 ∈ lw_tbl := az_t (i := 27) (by decide +kernel)
theorem wins_X3 : Cond.instantiable RX3 14 ∈ lw_tbl := az_t (i := 29) (by decide +kernel)
theorem wi_obj : Cond.instanceMethod objectInit ∈ lw_tbl := az_t (i := 34) (by decide +kernel)
theorem wc_obj : Cond.code objectInit ⟨#[0xb1]⟩ 1 none ∈ lw_tbl := az_t (i := 35) (by decide +kernel)
theorem wins_X2 : Cond.instantiable RX2 9 ∈ lw_tbl := az_t (i := 37) (by decide +kernel)
theorem wins_X1 : Cond.instantiable RX1 4 ∈ lw_tbl := az_t (i := 43) (by decide +kernel)
theorem wa_int : Cond.arrayClass .int ∈ lw_tbl := az_t (i := 66) (by decide +kernel)
theorem wins_J4 : Cond.instantiable RJ4 4 ∈ lw_tbl := az_t (i := 103) (by decide +kernel)
theorem wa_byte : Cond.arrayClass .byte ∈ lw_tbl := az_t (i := 134) (by decide +kernel)
theorem wst_min : Cond.static Lib.Math.min.name ∈ lw_tbl := az_t (i := 164) (by decide +kernel)
theorem wc_min : Cond.code Lib.Math.min.name Lib.Math.min.code 2 (some .int) ∈ lw_tbl := az_t (i := 165) (by decide +kernel)
theorem wst_copy : Cond.static arraycopyName ∈ lw_tbl := az_t (i := 167) (by decide +kernel)
theorem wnat_copy : Cond.native arraycopyName ∈ lw_tbl := az_t (i := 168) (by decide +kernel)
theorem wst_max : Cond.static Lib.Math.max.name ∈ lw_tbl := az_t (i := 238) (by decide +kernel)
theorem wc_max : Cond.code Lib.Math.max.name Lib.Math.max.code 2 (some .int) ∈ lw_tbl := az_t (i := 239) (by decide +kernel)
theorem wins_X0 : Cond.instantiable RX0 8 ∈ lw_tbl := az_t (i := 537) (by decide +kernel)
theorem wst_abs : Cond.static Lib.Math.abs.name ∈ lw_tbl := az_t (i := 722) (by decide +kernel)
theorem wc_abs : Cond.code Lib.Math.abs.name Lib.Math.abs.code 1 (some .int) ∈ lw_tbl := az_t (i := 723) (by decide +kernel)
theorem wins_Jx7c733 : Cond.instantiable RJx7c733 6 ∈ lw_tbl := az_t (i := 895) (by decide +kernel)
theorem wins_J0 : Cond.instantiable RJ0 4 ∈ lw_tbl := az_t (i := 1042) (by decide +kernel)
theorem wins_Jx00060 : Cond.instantiable RJx00060 6 ∈ lw_tbl := az_t (i := 1126) (by decide +kernel)
theorem wins_X4 : Cond.instantiable RX4 40 ∈ lw_tbl := az_t (i := 1202) (by decide +kernel)
theorem wa_boolean : Cond.arrayClass .boolean ∈ lw_tbl := az_t (i := 1330) (by decide +kernel)
theorem wa_char : Cond.arrayClass .char ∈ lw_tbl := az_t (i := 1331) (by decide +kernel)
theorem wa_long : Cond.arrayClass .long ∈ lw_tbl := az_t (i := 1671) (by decide +kernel)
theorem wc_X0_init : Cond.code yX0_init cX0_init 6 (Option.none : Option FieldType) ∈ lw_tbl := az_t (i := 540) (by decide +kernel)
theorem wi_X0_init : Cond.instanceMethod yX0_init ∈ lw_tbl := az_t (i := 539) (by decide +kernel)
theorem Y_X0_init : az_Y yX0_init cX0_init 6 (Option.none : Option FieldType) 5 := ⟨wc_X0_init, wini_X0, by decide +kernel, by decide +kernel⟩
theorem wm_X0_1 : Cond.methodLink RX0 1 objectInit ∈ lw_tbl := az_t (i := 541) (by decide +kernel)
theorem wl_X0_7 : Cond.fieldLink RX0 7 "BargeRiver$Barge" "number" "I" ∈ lw_tbl := az_t (i := 542) (by decide +kernel)
theorem wl_X0_13 : Cond.fieldLink RX0 13 "BargeRiver$Barge" "reach" "I" ∈ lw_tbl := az_t (i := 548) (by decide +kernel)
theorem wl_X0_16 : Cond.fieldLink RX0 16 "BargeRiver$Barge" "length" "I" ∈ lw_tbl := az_t (i := 544) (by decide +kernel)
theorem wl_X0_19 : Cond.fieldLink RX0 19 "BargeRiver$Barge" "emptyDraught" "I" ∈ lw_tbl := az_t (i := 545) (by decide +kernel)
theorem wl_X0_22 : Cond.fieldLink RX0 22 "BargeRiver$Barge" "tonsPerDecimetre" "I" ∈ lw_tbl := az_t (i := 547) (by decide +kernel)
theorem wc_X0_draught : Cond.code yX0_draught cX0_draught 1 (Option.some FieldType.int) ∈ lw_tbl := az_t (i := 602) (by decide +kernel)
theorem wi_X0_draught : Cond.instanceMethod yX0_draught ∈ lw_tbl := az_t (i := 600) (by decide +kernel)
theorem wse_X0_draught : Cond.selects RX0 yX0_draught yX0_draught ∈ lw_tbl := az_t (i := 601) (by decide +kernel)
theorem Y_X0_draught : az_Y yX0_draught cX0_draught 1 (Option.some FieldType.int) 0 := ⟨wc_X0_draught, wini_X0, by decide +kernel, by decide +kernel⟩
theorem wl_X0_25 : Cond.fieldLink RX0 25 "BargeRiver$Barge" "cargo" "I" ∈ lw_tbl := az_t (i := 550) (by decide +kernel)
theorem wm_X0_28 : Cond.methodLink RX0 28 yX0_draughtWith ∈ lw_tbl := az_t (i := 603) (by decide +kernel)
theorem wc_X0_draughtWith : Cond.code yX0_draughtWith cX0_draughtWith 2 (Option.some FieldType.int) ∈ lw_tbl := az_t (i := 606) (by decide +kernel)
theorem wi_X0_draughtWith : Cond.instanceMethod yX0_draughtWith ∈ lw_tbl := az_t (i := 604) (by decide +kernel)
theorem wse_X0_draughtWith : Cond.selects RX0 yX0_draughtWith yX0_draughtWith ∈ lw_tbl := az_t (i := 605) (by decide +kernel)
theorem Y_X0_draughtWith : az_Y yX0_draughtWith cX0_draughtWith 2 (Option.some FieldType.int) 1 := ⟨wc_X0_draughtWith, wini_X0, by decide +kernel, by decide +kernel⟩
theorem wc_X0_greatestCargo : Cond.code yX0_greatestCargo cX0_greatestCargo 2 (Option.some FieldType.int) ∈ lw_tbl := az_t (i := 832) (by decide +kernel)
theorem wi_X0_greatestCargo : Cond.instanceMethod yX0_greatestCargo ∈ lw_tbl := az_t (i := 830) (by decide +kernel)
theorem wse_X0_greatestCargo : Cond.selects RX0 yX0_greatestCargo yX0_greatestCargo ∈ lw_tbl := az_t (i := 831) (by decide +kernel)
theorem Y_X0_greatestCargo : az_Y yX0_greatestCargo cX0_greatestCargo 2 (Option.some FieldType.int) 1 := ⟨wc_X0_greatestCargo, wini_X0, by decide +kernel, by decide +kernel⟩
theorem wc_X0_first : Cond.code yX0_first cX0_first 2 (Option.some (FieldType.object "BargeRiver$Barge")) ∈ lw_tbl := az_t (i := 629) (by decide +kernel)
theorem wi_X0_first : Cond.instanceMethod yX0_first ∈ lw_tbl := az_t (i := 627) (by decide +kernel)
theorem wse_X0_first : Cond.selects RX0 yX0_first yX0_first ∈ lw_tbl := az_t (i := 628) (by decide +kernel)
theorem Y_X0_first : az_Y yX0_first cX0_first 2 (Option.some (FieldType.object "BargeRiver$Barge")) 0 := ⟨wc_X0_first, wini_X0, by decide +kernel, by decide +kernel⟩
theorem wl_X0_32 : Cond.fieldLink RX0 32 "BargeRiver$Barge" "ahead" "LBargeRiver$Barge;" ∈ lw_tbl := az_t (i := 552) (by decide +kernel)
theorem wc_X0_last : Cond.code yX0_last cX0_last 2 (Option.some (FieldType.object "BargeRiver$Barge")) ∈ lw_tbl := az_t (i := 639) (by decide +kernel)
theorem wi_X0_last : Cond.instanceMethod yX0_last ∈ lw_tbl := az_t (i := 637) (by decide +kernel)
theorem wse_X0_last : Cond.selects RX0 yX0_last yX0_last ∈ lw_tbl := az_t (i := 638) (by decide +kernel)
theorem Y_X0_last : az_Y yX0_last cX0_last 2 (Option.some (FieldType.object "BargeRiver$Barge")) 0 := ⟨wc_X0_last, wini_X0, by decide +kernel, by decide +kernel⟩
theorem wl_X0_36 : Cond.fieldLink RX0 36 "BargeRiver$Barge" "behind" "LBargeRiver$Barge;" ∈ lw_tbl := az_t (i := 554) (by decide +kernel)
theorem wc_X0_chainSize : Cond.code yX0_chainSize cX0_chainSize 3 (Option.some FieldType.int) ∈ lw_tbl := az_t (i := 634) (by decide +kernel)
theorem wi_X0_chainSize : Cond.instanceMethod yX0_chainSize ∈ lw_tbl := az_t (i := 632) (by decide +kernel)
theorem wse_X0_chainSize : Cond.selects RX0 yX0_chainSize yX0_chainSize ∈ lw_tbl := az_t (i := 633) (by decide +kernel)
theorem Y_X0_chainSize : az_Y yX0_chainSize cX0_chainSize 3 (Option.some FieldType.int) 0 := ⟨wc_X0_chainSize, wini_X0, by decide +kernel, by decide +kernel⟩
theorem wc_X0_greatestLength : Cond.code yX0_greatestLength cX0_greatestLength 3 (Option.some FieldType.int) ∈ lw_tbl := az_t (i := 689) (by decide +kernel)
theorem wi_X0_greatestLength : Cond.instanceMethod yX0_greatestLength ∈ lw_tbl := az_t (i := 687) (by decide +kernel)
theorem wse_X0_greatestLength : Cond.selects RX0 yX0_greatestLength yX0_greatestLength ∈ lw_tbl := az_t (i := 688) (by decide +kernel)
theorem Y_X0_greatestLength : az_Y yX0_greatestLength cX0_greatestLength 3 (Option.some FieldType.int) 0 := ⟨wc_X0_greatestLength, wini_X0, by decide +kernel, by decide +kernel⟩
theorem wm_X0_39 : Cond.methodLink RX0 39 Lib.Math.max.name ∈ lw_tbl := az_t (i := 690) (by decide +kernel)
theorem wc_J9_max_7cf53 : Cond.code yJ9_max_7cf53 cJ9_max_7cf53 2 (Option.some FieldType.int) ∈ lw_tbl := az_t (i := 239) (by decide +kernel)
theorem wst_J9_max_7cf53 : Cond.static yJ9_max_7cf53 ∈ lw_tbl := az_t (i := 238) (by decide +kernel)
theorem Y_J9_max_7cf53 : az_Y yJ9_max_7cf53 cJ9_max_7cf53 2 (Option.some FieldType.int) 2 := ⟨wc_J9_max_7cf53, wini_J9, by decide +kernel, by decide +kernel⟩
theorem wc_X0_greatestDraught : Cond.code yX0_greatestDraught cX0_greatestDraught 4 (Option.some FieldType.int) ∈ lw_tbl := az_t (i := 731) (by decide +kernel)
theorem wi_X0_greatestDraught : Cond.instanceMethod yX0_greatestDraught ∈ lw_tbl := az_t (i := 729) (by decide +kernel)
theorem wse_X0_greatestDraught : Cond.selects RX0 yX0_greatestDraught yX0_greatestDraught ∈ lw_tbl := az_t (i := 730) (by decide +kernel)
theorem Y_X0_greatestDraught : az_Y yX0_greatestDraught cX0_greatestDraught 4 (Option.some FieldType.int) 1 := ⟨wc_X0_greatestDraught, wini_X0, by decide +kernel, by decide +kernel⟩
theorem wm_X0_45 : Cond.methodLink RX0 45 yX0_draught ∈ lw_tbl := az_t (i := 732) (by decide +kernel)
theorem wc_X0_nextPart : Cond.code yX0_nextPart cX0_nextPart 4 (Option.some (FieldType.object "BargeRiver$Barge")) ∈ lw_tbl := az_t (i := 699) (by decide +kernel)
theorem wi_X0_nextPart : Cond.instanceMethod yX0_nextPart ∈ lw_tbl := az_t (i := 697) (by decide +kernel)
theorem wse_X0_nextPart : Cond.selects RX0 yX0_nextPart yX0_nextPart ∈ lw_tbl := az_t (i := 698) (by decide +kernel)
theorem Y_X0_nextPart : az_Y yX0_nextPart cX0_nextPart 4 (Option.some (FieldType.object "BargeRiver$Barge")) 1 := ⟨wc_X0_nextPart, wini_X0, by decide +kernel, by decide +kernel⟩
theorem wc_X0_parts : Cond.code yX0_parts cX0_parts 4 (Option.some FieldType.int) ∈ lw_tbl := az_t (i := 695) (by decide +kernel)
theorem wi_X0_parts : Cond.instanceMethod yX0_parts ∈ lw_tbl := az_t (i := 693) (by decide +kernel)
theorem wse_X0_parts : Cond.selects RX0 yX0_parts yX0_parts ∈ lw_tbl := az_t (i := 694) (by decide +kernel)
theorem Y_X0_parts : az_Y yX0_parts cX0_parts 4 (Option.some FieldType.int) 1 := ⟨wc_X0_parts, wini_X0, by decide +kernel, by decide +kernel⟩
theorem wm_X0_49 : Cond.methodLink RX0 49 yX0_nextPart ∈ lw_tbl := az_t (i := 696) (by decide +kernel)
theorem wc_X1_init : Cond.code yX1_init cX1_init 1 (Option.none : Option FieldType) ∈ lw_tbl := az_t (i := 46) (by decide +kernel)
theorem wi_X1_init : Cond.instanceMethod yX1_init ∈ lw_tbl := az_t (i := 45) (by decide +kernel)
theorem Y_X1_init : az_Y yX1_init cX1_init 1 (Option.none : Option FieldType) 0 := ⟨wc_X1_init, wini_X1, by decide +kernel, by decide +kernel⟩
theorem wm_X1_1 : Cond.methodLink RX1 1 objectInit ∈ lw_tbl := az_t (i := 47) (by decide +kernel)
theorem wl_X1_9 : Cond.fieldLink RX1 9 "BargeRiver$Movements" "froms" "[I" ∈ lw_tbl := az_t (i := 48) (by decide +kernel)
theorem wl_X1_13 : Cond.fieldLink RX1 13 "BargeRiver$Movements" "tos" "[I" ∈ lw_tbl := az_t (i := 50) (by decide +kernel)
theorem wl_X1_16 : Cond.fieldLink RX1 16 "BargeRiver$Movements" "volumes" "[I" ∈ lw_tbl := az_t (i := 52) (by decide +kernel)
theorem wc_X1_add : Cond.code yX1_add cX1_add 5 (Option.none : Option FieldType) ∈ lw_tbl := az_t (i := 151) (by decide +kernel)
theorem wi_X1_add : Cond.instanceMethod yX1_add ∈ lw_tbl := az_t (i := 149) (by decide +kernel)
theorem wse_X1_add : Cond.selects RX1 yX1_add yX1_add ∈ lw_tbl := az_t (i := 150) (by decide +kernel)
theorem Y_X1_add : az_Y yX1_add cX1_add 5 (Option.none : Option FieldType) 3 := ⟨wc_X1_add, wini_X1, by decide +kernel, by decide +kernel⟩
theorem wl_X1_19 : Cond.fieldLink RX1 19 "BargeRiver$Movements" "count" "I" ∈ lw_tbl := az_t (i := 54) (by decide +kernel)
theorem wn_X1_23 : Cond.constant RX1 23 (65536) ∈ lw_tbl := az_t (i := 152) (by decide +kernel)
theorem wm_X1_24 : Cond.methodLink RX1 24 yJ7_copyOf_59c91 ∈ lw_tbl := az_t (i := 153) (by decide +kernel)
theorem wc_J7_copyOf_59c91 : Cond.code yJ7_copyOf_59c91 cJ7_copyOf_59c91 3 (Option.some (FieldType.array FieldType.int)) ∈ lw_tbl := az_t (i := 155) (by decide +kernel)
theorem wst_J7_copyOf_59c91 : Cond.static yJ7_copyOf_59c91 ∈ lw_tbl := az_t (i := 154) (by decide +kernel)
theorem Y_J7_copyOf_59c91 : az_Y yJ7_copyOf_59c91 cJ7_copyOf_59c91 3 (Option.some (FieldType.array FieldType.int)) 2 := ⟨wc_J7_copyOf_59c91, wini_J7, by decide +kernel, by decide +kernel⟩
theorem wc_X1_balanceOf : Cond.code yX1_balanceOf cX1_balanceOf 4 (Option.some FieldType.int) ∈ lw_tbl := az_t (i := 370) (by decide +kernel)
theorem wi_X1_balanceOf : Cond.instanceMethod yX1_balanceOf ∈ lw_tbl := az_t (i := 368) (by decide +kernel)
theorem wse_X1_balanceOf : Cond.selects RX1 yX1_balanceOf yX1_balanceOf ∈ lw_tbl := az_t (i := 369) (by decide +kernel)
theorem Y_X1_balanceOf : az_Y yX1_balanceOf cX1_balanceOf 4 (Option.some FieldType.int) 1 := ⟨wc_X1_balanceOf, wini_X1, by decide +kernel, by decide +kernel⟩
theorem wc_X2_init : Cond.code yX2_init cX2_init 1 (Option.none : Option FieldType) ∈ lw_tbl := az_t (i := 40) (by decide +kernel)
theorem wi_X2_init : Cond.instanceMethod yX2_init ∈ lw_tbl := az_t (i := 39) (by decide +kernel)
theorem Y_X2_init : az_Y yX2_init cX2_init 1 (Option.none : Option FieldType) 0 := ⟨wc_X2_init, wini_X2, by decide +kernel, by decide +kernel⟩
theorem wm_X2_3 : Cond.methodLink RX2 3 objectInit ∈ lw_tbl := az_t (i := 41) (by decide +kernel)
theorem wl_X2_9 : Cond.fieldLink RX2 9 "BargeRiver$Water" "areas" "[I" ∈ lw_tbl := az_t (i := 67) (by decide +kernel)
theorem wl_X2_15 : Cond.fieldLink RX2 15 "BargeRiver$Water" "lockfuls" "[I" ∈ lw_tbl := az_t (i := 69) (by decide +kernel)
theorem wl_X2_18 : Cond.fieldLink RX2 18 "BargeRiver$Water" "amounts" "[I" ∈ lw_tbl := az_t (i := 71) (by decide +kernel)
theorem wl_X2_21 : Cond.fieldLink RX2 21 "BargeRiver$Water" "through" "[I" ∈ lw_tbl := az_t (i := 72) (by decide +kernel)
theorem wl_X2_24 : Cond.fieldLink RX2 24 "BargeRiver$Water" "savedAmounts" "[I" ∈ lw_tbl := az_t (i := 74) (by decide +kernel)
theorem wl_X2_27 : Cond.fieldLink RX2 27 "BargeRiver$Water" "savedThrough" "[I" ∈ lw_tbl := az_t (i := 75) (by decide +kernel)
theorem wk_X2_30 : Cond.classLink RX2 30 "BargeRiver$Movements" ∈ lw_tbl := az_t (i := 42) (by decide +kernel)
theorem wl_X2_33 : Cond.fieldLink RX2 33 "BargeRiver$Water" "movements" "LBargeRiver$Movements;" ∈ lw_tbl := az_t (i := 76) (by decide +kernel)
theorem wc_X2_addBed : Cond.code yX2_addBed cX2_addBed 3 (Option.some FieldType.int) ∈ lw_tbl := az_t (i := 143) (by decide +kernel)
theorem wi_X2_addBed : Cond.instanceMethod yX2_addBed ∈ lw_tbl := az_t (i := 141) (by decide +kernel)
theorem wse_X2_addBed : Cond.selects RX2 yX2_addBed yX2_addBed ∈ lw_tbl := az_t (i := 142) (by decide +kernel)
theorem Y_X2_addBed : az_Y yX2_addBed cX2_addBed 3 (Option.some FieldType.int) 1 := ⟨wc_X2_addBed, wini_X2, by decide +kernel, by decide +kernel⟩
theorem wl_X2_37 : Cond.fieldLink RX2 37 "BargeRiver$Water" "reaches" "I" ∈ lw_tbl := az_t (i := 79) (by decide +kernel)
theorem wc_X2_at : Cond.code yX2_at cX2_at 2 (Option.some FieldType.int) ∈ lw_tbl := az_t (i := 176) (by decide +kernel)
theorem wi_X2_at : Cond.instanceMethod yX2_at ∈ lw_tbl := az_t (i := 174) (by decide +kernel)
theorem wse_X2_at : Cond.selects RX2 yX2_at yX2_at ∈ lw_tbl := az_t (i := 175) (by decide +kernel)
theorem Y_X2_at : az_Y yX2_at cX2_at 2 (Option.some FieldType.int) 1 := ⟨wc_X2_at, wini_X2, by decide +kernel, by decide +kernel⟩
theorem wc_X2_level : Cond.code yX2_level cX2_level 2 (Option.some FieldType.int) ∈ lw_tbl := az_t (i := 233) (by decide +kernel)
theorem wi_X2_level : Cond.instanceMethod yX2_level ∈ lw_tbl := az_t (i := 231) (by decide +kernel)
theorem wse_X2_level : Cond.selects RX2 yX2_level yX2_level ∈ lw_tbl := az_t (i := 232) (by decide +kernel)
theorem Y_X2_level : az_Y yX2_level cX2_level 2 (Option.some FieldType.int) 1 := ⟨wc_X2_level, wini_X2, by decide +kernel, by decide +kernel⟩
theorem wm_X2_41 : Cond.methodLink RX2 41 yX2_at ∈ lw_tbl := az_t (i := 173) (by decide +kernel)
theorem wc_X2_hasFullChamber : Cond.code yX2_hasFullChamber cX2_hasFullChamber 2 (Option.some FieldType.boolean) ∈ lw_tbl := az_t (i := 474) (by decide +kernel)
theorem wi_X2_hasFullChamber : Cond.instanceMethod yX2_hasFullChamber ∈ lw_tbl := az_t (i := 472) (by decide +kernel)
theorem wse_X2_hasFullChamber : Cond.selects RX2 yX2_hasFullChamber yX2_hasFullChamber ∈ lw_tbl := az_t (i := 473) (by decide +kernel)
theorem Y_X2_hasFullChamber : az_Y yX2_hasFullChamber cX2_hasFullChamber 2 (Option.some FieldType.boolean) 1 := ⟨wc_X2_hasFullChamber, wini_X2, by decide +kernel, by decide +kernel⟩
theorem wc_X2_canFill : Cond.code yX2_canFill cX2_canFill 2 (Option.some FieldType.boolean) ∈ lw_tbl := az_t (i := 491) (by decide +kernel)
theorem wi_X2_canFill : Cond.instanceMethod yX2_canFill ∈ lw_tbl := az_t (i := 489) (by decide +kernel)
theorem wse_X2_canFill : Cond.selects RX2 yX2_canFill yX2_canFill ∈ lw_tbl := az_t (i := 490) (by decide +kernel)
theorem Y_X2_canFill : az_Y yX2_canFill cX2_canFill 2 (Option.some FieldType.boolean) 1 := ⟨wc_X2_canFill, wini_X2, by decide +kernel, by decide +kernel⟩
theorem wc_X2_fill : Cond.code yX2_fill cX2_fill 2 (Option.none : Option FieldType) ∈ lw_tbl := az_t (i := 511) (by decide +kernel)
theorem wi_X2_fill : Cond.instanceMethod yX2_fill ∈ lw_tbl := az_t (i := 509) (by decide +kernel)
theorem wse_X2_fill : Cond.selects RX2 yX2_fill yX2_fill ∈ lw_tbl := az_t (i := 510) (by decide +kernel)
theorem Y_X2_fill : az_Y yX2_fill cX2_fill 2 (Option.none : Option FieldType) 1 := ⟨wc_X2_fill, wini_X2, by decide +kernel, by decide +kernel⟩
theorem wm_X2_45 : Cond.methodLink RX2 45 yX2_send ∈ lw_tbl := az_t (i := 487) (by decide +kernel)
theorem wc_X2_send : Cond.code yX2_send cX2_send 8 (Option.none : Option FieldType) ∈ lw_tbl := az_t (i := 147) (by decide +kernel)
theorem wi_X2_send : Cond.instanceMethod yX2_send ∈ lw_tbl := az_t (i := 145) (by decide +kernel)
theorem wse_X2_send : Cond.selects RX2 yX2_send yX2_send ∈ lw_tbl := az_t (i := 146) (by decide +kernel)
theorem Y_X2_send : az_Y yX2_send cX2_send 8 (Option.none : Option FieldType) 3 := ⟨wc_X2_send, wini_X2, by decide +kernel, by decide +kernel⟩
theorem wc_X2_empty : Cond.code yX2_empty cX2_empty 2 (Option.none : Option FieldType) ∈ lw_tbl := az_t (i := 486) (by decide +kernel)
theorem wi_X2_empty : Cond.instanceMethod yX2_empty ∈ lw_tbl := az_t (i := 484) (by decide +kernel)
theorem wse_X2_empty : Cond.selects RX2 yX2_empty yX2_empty ∈ lw_tbl := az_t (i := 485) (by decide +kernel)
theorem Y_X2_empty : az_Y yX2_empty cX2_empty 2 (Option.none : Option FieldType) 1 := ⟨wc_X2_empty, wini_X2, by decide +kernel, by decide +kernel⟩
theorem wm_X2_49 : Cond.methodLink RX2 49 yX1_add ∈ lw_tbl := az_t (i := 148) (by decide +kernel)
theorem wm_X2_52 : Cond.methodLink RX2 52 yX2_excess ∈ lw_tbl := az_t (i := 169) (by decide +kernel)
theorem wc_X2_excess : Cond.code yX2_excess cX2_excess 2 (Option.some FieldType.int) ∈ lw_tbl := az_t (i := 172) (by decide +kernel)
theorem wi_X2_excess : Cond.instanceMethod yX2_excess ∈ lw_tbl := az_t (i := 170) (by decide +kernel)
theorem wse_X2_excess : Cond.selects RX2 yX2_excess yX2_excess ∈ lw_tbl := az_t (i := 171) (by decide +kernel)
theorem Y_X2_excess : az_Y yX2_excess cX2_excess 2 (Option.some FieldType.int) 1 := ⟨wc_X2_excess, wini_X2, by decide +kernel, by decide +kernel⟩
theorem wc_X2_throughTotal : Cond.code yX2_throughTotal cX2_throughTotal 3 (Option.some FieldType.int) ∈ lw_tbl := az_t (i := 768) (by decide +kernel)
theorem wi_X2_throughTotal : Cond.instanceMethod yX2_throughTotal ∈ lw_tbl := az_t (i := 766) (by decide +kernel)
theorem wse_X2_throughTotal : Cond.selects RX2 yX2_throughTotal yX2_throughTotal ∈ lw_tbl := az_t (i := 767) (by decide +kernel)
theorem Y_X2_throughTotal : az_Y yX2_throughTotal cX2_throughTotal 3 (Option.some FieldType.int) 0 := ⟨wc_X2_throughTotal, wini_X2, by decide +kernel, by decide +kernel⟩
theorem wc_X2_save : Cond.code yX2_save cX2_save 1 (Option.none : Option FieldType) ∈ lw_tbl := az_t (i := 715) (by decide +kernel)
theorem wi_X2_save : Cond.instanceMethod yX2_save ∈ lw_tbl := az_t (i := 713) (by decide +kernel)
theorem wse_X2_save : Cond.selects RX2 yX2_save yX2_save ∈ lw_tbl := az_t (i := 714) (by decide +kernel)
theorem Y_X2_save : az_Y yX2_save cX2_save 1 (Option.none : Option FieldType) 0 := ⟨wc_X2_save, wini_X2, by decide +kernel, by decide +kernel⟩
theorem wm_X2_55 : Cond.methodLink RX2 55 arraycopyName ∈ lw_tbl := az_t (i := 716) (by decide +kernel)
theorem wl_X2_64 : Cond.fieldLink RX2 64 "BargeRiver$Water" "savedMovements" "I" ∈ lw_tbl := az_t (i := 78) (by decide +kernel)
theorem wc_X2_restore : Cond.code yX2_restore cX2_restore 1 (Option.none : Option FieldType) ∈ lw_tbl := az_t (i := 737) (by decide +kernel)
theorem wi_X2_restore : Cond.instanceMethod yX2_restore ∈ lw_tbl := az_t (i := 735) (by decide +kernel)
theorem wse_X2_restore : Cond.selects RX2 yX2_restore yX2_restore ∈ lw_tbl := az_t (i := 736) (by decide +kernel)
theorem Y_X2_restore : az_Y yX2_restore cX2_restore 1 (Option.none : Option FieldType) 0 := ⟨wc_X2_restore, wini_X2, by decide +kernel, by decide +kernel⟩
theorem wc_X3_init : Cond.code yX3_init cX3_init 1 (Option.none : Option FieldType) ∈ lw_tbl := az_t (i := 32) (by decide +kernel)
theorem wi_X3_init : Cond.instanceMethod yX3_init ∈ lw_tbl := az_t (i := 31) (by decide +kernel)
theorem Y_X3_init : az_Y yX3_init cX3_init 1 (Option.none : Option FieldType) 0 := ⟨wc_X3_init, wini_X3, by decide +kernel, by decide +kernel⟩
theorem wm_X3_3 : Cond.methodLink RX3 3 objectInit ∈ lw_tbl := az_t (i := 33) (by decide +kernel)
theorem wk_X3_9 : Cond.classLink RX3 9 "BargeRiver$Water" ∈ lw_tbl := az_t (i := 36) (by decide +kernel)
theorem wl_X3_12 : Cond.fieldLink RX3 12 "BargeRiver" "water" "LBargeRiver$Water;" ∈ lw_tbl := az_t (i := 177) (by decide +kernel)
theorem wl_X3_16 : Cond.fieldLink RX3 16 "BargeRiver" "lengths" "[I" ∈ lw_tbl := az_t (i := 178) (by decide +kernel)
theorem wl_X3_20 : Cond.fieldLink RX3 20 "BargeRiver" "sills" "[I" ∈ lw_tbl := az_t (i := 179) (by decide +kernel)
theorem wl_X3_23 : Cond.fieldLink RX3 23 "BargeRiver" "prices" "[I" ∈ lw_tbl := az_t (i := 180) (by decide +kernel)
theorem wl_X3_26 : Cond.fieldLink RX3 26 "BargeRiver" "weekLevels" "[I" ∈ lw_tbl := az_t (i := 181) (by decide +kernel)
theorem wk_X3_29 : Cond.classLink RX3 29 "BargeRiver$Barge" ∈ lw_tbl := az_t (i := 100) (by decide +kernel)
theorem wl_X3_31 : Cond.fieldLink RX3 31 "BargeRiver" "barges" "[LBargeRiver$Barge;" ∈ lw_tbl := az_t (i := 182) (by decide +kernel)
theorem wk_X3_35 : Cond.classLink RX3 35 "java/lang/StringBuilder" ∈ lw_tbl := az_t (i := 102) (by decide +kernel)
theorem wm_X3_37 : Cond.methodLink RX3 37 yJ4_init_da8c8 ∈ lw_tbl := az_t (i := 104) (by decide +kernel)
theorem wc_J4_init_da8c8 : Cond.code yJ4_init_da8c8 cJ4_init_da8c8 1 (Option.none : Option FieldType) ∈ lw_tbl := az_t (i := 106) (by decide +kernel)
theorem wi_J4_init_da8c8 : Cond.instanceMethod yJ4_init_da8c8 ∈ lw_tbl := az_t (i := 105) (by decide +kernel)
theorem Y_J4_init_da8c8 : az_Y yJ4_init_da8c8 cJ4_init_da8c8 1 (Option.none : Option FieldType) 0 := ⟨wc_J4_init_da8c8, wini_J4, by decide +kernel, by decide +kernel⟩
theorem wl_X3_38 : Cond.fieldLink RX3 38 "BargeRiver" "line" "Ljava/lang/StringBuilder;" ∈ lw_tbl := az_t (i := 183) (by decide +kernel)
theorem wn_X3_42 : Cond.constantLong RX3 42 (10000) ∈ lw_tbl := az_t (i := 135) (by decide +kernel)
theorem wl_X3_44 : Cond.fieldLink RX3 44 "BargeRiver" "purse" "J" ∈ lw_tbl := az_t (i := 186) (by decide +kernel)
theorem wl_X3_48 : Cond.fieldLink RX3 48 "BargeRiver" "lastReason" "I" ∈ lw_tbl := az_t (i := 189) (by decide +kernel)
theorem wm_X3_52 : Cond.methodLink RX3 52 yX3_openReach ∈ lw_tbl := az_t (i := 136) (by decide +kernel)
theorem wc_X3_openReach : Cond.code yX3_openReach cX3_openReach 4 (Option.some FieldType.int) ∈ lw_tbl := az_t (i := 139) (by decide +kernel)
theorem wi_X3_openReach : Cond.instanceMethod yX3_openReach ∈ lw_tbl := az_t (i := 138) (by decide +kernel)
theorem wse_X3_openReach : Cond.selects RX3 yX3_openReach yX3_openReach ∈ lw_tbl := az_tp (i := 0) (by decide +kernel)
theorem Y_X3_openReach : az_Y yX3_openReach cX3_openReach 4 (Option.some FieldType.int) 2 := ⟨wc_X3_openReach, wini_X3, by decide +kernel, by decide +kernel⟩
theorem wc_X3_addReach : Cond.code yX3_addReach cX3_addReach 7 (Option.some FieldType.int) ∈ lw_tbl := az_t (i := 379) (by decide +kernel)
theorem wi_X3_addReach : Cond.instanceMethod yX3_addReach ∈ lw_tbl := az_t (i := 377) (by decide +kernel)
theorem wse_X3_addReach : Cond.selects RX3 yX3_addReach yX3_addReach ∈ lw_tbl := az_t (i := 378) (by decide +kernel)
theorem Y_X3_addReach : az_Y yX3_addReach cX3_addReach 7 (Option.some FieldType.int) 5 := ⟨wc_X3_addReach, wini_X3, by decide +kernel, by decide +kernel⟩
theorem wm_X3_56 : Cond.methodLink RX3 56 yX3_isWithin ∈ lw_tbl := az_t (i := 380) (by decide +kernel)
theorem wc_X3_isWithin : Cond.code yX3_isWithin cX3_isWithin 3 (Option.some FieldType.boolean) ∈ lw_tbl := az_t (i := 382) (by decide +kernel)
theorem wst_X3_isWithin : Cond.static yX3_isWithin ∈ lw_tbl := az_t (i := 381) (by decide +kernel)
theorem Y_X3_isWithin : az_Y yX3_isWithin cX3_isWithin 3 (Option.some FieldType.boolean) 3 := ⟨wc_X3_isWithin, wini_X3, by decide +kernel, by decide +kernel⟩
theorem wk_X3_60 : Cond.classLink RX3 60 "java/lang/IllegalArgumentException" ∈ lw_tbl := az_t (i := 383) (by decide +kernel)
theorem wm_X3_64 : Cond.methodLink RX3 64 ⟨"java/lang/IllegalArgumentException", "<init>", "(Ljava/lang/String;)V"⟩ ∈ lw_tbl := az_t (i := 393) (by decide +kernel)
theorem wk_X3_70 : Cond.classLink RX3 70 "java/lang/IllegalStateException" ∈ lw_tbl := az_t (i := 399) (by decide +kernel)
theorem wm_X3_74 : Cond.methodLink RX3 74 ⟨"java/lang/IllegalStateException", "<init>", "(Ljava/lang/String;)V"⟩ ∈ lw_tbl := az_t (i := 409) (by decide +kernel)
theorem wc_X3_reachCount : Cond.code yX3_reachCount cX3_reachCount 1 (Option.some FieldType.int) ∈ lw_tbl := az_t (i := 223) (by decide +kernel)
theorem wi_X3_reachCount : Cond.instanceMethod yX3_reachCount ∈ lw_tbl := az_t (i := 221) (by decide +kernel)
theorem wse_X3_reachCount : Cond.selects RX3 yX3_reachCount yX3_reachCount ∈ lw_tbl := az_t (i := 222) (by decide +kernel)
theorem Y_X3_reachCount : az_Y yX3_reachCount cX3_reachCount 1 (Option.some FieldType.int) 0 := ⟨wc_X3_reachCount, wini_X3, by decide +kernel, by decide +kernel⟩
theorem wc_X3_areaOf : Cond.code yX3_areaOf cX3_areaOf 2 (Option.some FieldType.int) ∈ lw_tbl := az_t (i := 422) (by decide +kernel)
theorem wi_X3_areaOf : Cond.instanceMethod yX3_areaOf ∈ lw_tbl := az_t (i := 420) (by decide +kernel)
theorem wse_X3_areaOf : Cond.selects RX3 yX3_areaOf yX3_areaOf ∈ lw_tbl := az_t (i := 421) (by decide +kernel)
theorem Y_X3_areaOf : az_Y yX3_areaOf cX3_areaOf 2 (Option.some FieldType.int) 1 := ⟨wc_X3_areaOf, wini_X3, by decide +kernel, by decide +kernel⟩
theorem wm_X3_78 : Cond.methodLink RX3 78 yX3_needReach ∈ lw_tbl := az_t (i := 288) (by decide +kernel)
theorem wc_X3_needReach : Cond.code yX3_needReach cX3_needReach 2 (Option.none : Option FieldType) ∈ lw_tbl := az_t (i := 291) (by decide +kernel)
theorem wi_X3_needReach : Cond.instanceMethod yX3_needReach ∈ lw_tbl := az_t (i := 290) (by decide +kernel)
theorem wse_X3_needReach : Cond.selects RX3 yX3_needReach yX3_needReach ∈ lw_tbl := az_tp (i := 1) (by decide +kernel)
theorem Y_X3_needReach : az_Y yX3_needReach cX3_needReach 2 (Option.none : Option FieldType) 1 := ⟨wc_X3_needReach, wini_X3, by decide +kernel, by decide +kernel⟩
theorem wc_X3_volumeOf : Cond.code yX3_volumeOf cX3_volumeOf 2 (Option.some FieldType.int) ∈ lw_tbl := az_t (i := 287) (by decide +kernel)
theorem wi_X3_volumeOf : Cond.instanceMethod yX3_volumeOf ∈ lw_tbl := az_t (i := 285) (by decide +kernel)
theorem wse_X3_volumeOf : Cond.selects RX3 yX3_volumeOf yX3_volumeOf ∈ lw_tbl := az_t (i := 286) (by decide +kernel)
theorem Y_X3_volumeOf : az_Y yX3_volumeOf cX3_volumeOf 2 (Option.some FieldType.int) 1 := ⟨wc_X3_volumeOf, wini_X3, by decide +kernel, by decide +kernel⟩
theorem wm_X3_85 : Cond.methodLink RX3 85 yX2_at ∈ lw_tbl := az_t (i := 228) (by decide +kernel)
theorem wc_X3_volumeBySteps : Cond.code yX3_volumeBySteps cX3_volumeBySteps 2 (Option.some FieldType.int) ∈ lw_tbl := az_t (i := 366) (by decide +kernel)
theorem wi_X3_volumeBySteps : Cond.instanceMethod yX3_volumeBySteps ∈ lw_tbl := az_t (i := 364) (by decide +kernel)
theorem wse_X3_volumeBySteps : Cond.selects RX3 yX3_volumeBySteps yX3_volumeBySteps ∈ lw_tbl := az_t (i := 365) (by decide +kernel)
theorem Y_X3_volumeBySteps : az_Y yX3_volumeBySteps cX3_volumeBySteps 2 (Option.some FieldType.int) 1 := ⟨wc_X3_volumeBySteps, wini_X3, by decide +kernel, by decide +kernel⟩
theorem wm_X3_93 : Cond.methodLink RX3 93 yX1_balanceOf ∈ lw_tbl := az_t (i := 367) (by decide +kernel)
theorem wc_X3_levelOf : Cond.code yX3_levelOf cX3_levelOf 2 (Option.some FieldType.int) ∈ lw_tbl := az_t (i := 437) (by decide +kernel)
theorem wi_X3_levelOf : Cond.instanceMethod yX3_levelOf ∈ lw_tbl := az_t (i := 435) (by decide +kernel)
theorem wse_X3_levelOf : Cond.selects RX3 yX3_levelOf yX3_levelOf ∈ lw_tbl := az_t (i := 436) (by decide +kernel)
theorem Y_X3_levelOf : az_Y yX3_levelOf cX3_levelOf 2 (Option.some FieldType.int) 1 := ⟨wc_X3_levelOf, wini_X3, by decide +kernel, by decide +kernel⟩
theorem wm_X3_98 : Cond.methodLink RX3 98 yX2_level ∈ lw_tbl := az_t (i := 230) (by decide +kernel)
theorem wc_X3_lockfulOf : Cond.code yX3_lockfulOf cX3_lockfulOf 2 (Option.some FieldType.int) ∈ lw_tbl := az_t (i := 444) (by decide +kernel)
theorem wi_X3_lockfulOf : Cond.instanceMethod yX3_lockfulOf ∈ lw_tbl := az_t (i := 442) (by decide +kernel)
theorem wse_X3_lockfulOf : Cond.selects RX3 yX3_lockfulOf yX3_lockfulOf ∈ lw_tbl := az_t (i := 443) (by decide +kernel)
theorem Y_X3_lockfulOf : az_Y yX3_lockfulOf cX3_lockfulOf 2 (Option.some FieldType.int) 1 := ⟨wc_X3_lockfulOf, wini_X3, by decide +kernel, by decide +kernel⟩
theorem wm_X3_101 : Cond.methodLink RX3 101 yX3_needLock ∈ lw_tbl := az_t (i := 445) (by decide +kernel)
theorem wc_X3_needLock : Cond.code yX3_needLock cX3_needLock 2 (Option.none : Option FieldType) ∈ lw_tbl := az_t (i := 448) (by decide +kernel)
theorem wi_X3_needLock : Cond.instanceMethod yX3_needLock ∈ lw_tbl := az_t (i := 447) (by decide +kernel)
theorem wse_X3_needLock : Cond.selects RX3 yX3_needLock yX3_needLock ∈ lw_tbl := az_tp (i := 3) (by decide +kernel)
theorem Y_X3_needLock : az_Y yX3_needLock cX3_needLock 2 (Option.none : Option FieldType) 1 := ⟨wc_X3_needLock, wini_X3, by decide +kernel, by decide +kernel⟩
theorem wc_X3_lengthOf : Cond.code yX3_lengthOf cX3_lengthOf 2 (Option.some FieldType.int) ∈ lw_tbl := az_t (i := 456) (by decide +kernel)
theorem wi_X3_lengthOf : Cond.instanceMethod yX3_lengthOf ∈ lw_tbl := az_t (i := 454) (by decide +kernel)
theorem wse_X3_lengthOf : Cond.selects RX3 yX3_lengthOf yX3_lengthOf ∈ lw_tbl := az_t (i := 455) (by decide +kernel)
theorem Y_X3_lengthOf : az_Y yX3_lengthOf cX3_lengthOf 2 (Option.some FieldType.int) 1 := ⟨wc_X3_lengthOf, wini_X3, by decide +kernel, by decide +kernel⟩
theorem wc_X3_sillOf : Cond.code yX3_sillOf cX3_sillOf 2 (Option.some FieldType.int) ∈ lw_tbl := az_t (i := 463) (by decide +kernel)
theorem wi_X3_sillOf : Cond.instanceMethod yX3_sillOf ∈ lw_tbl := az_t (i := 461) (by decide +kernel)
theorem wse_X3_sillOf : Cond.selects RX3 yX3_sillOf yX3_sillOf ∈ lw_tbl := az_t (i := 462) (by decide +kernel)
theorem Y_X3_sillOf : az_Y yX3_sillOf cX3_sillOf 2 (Option.some FieldType.int) 1 := ⟨wc_X3_sillOf, wini_X3, by decide +kernel, by decide +kernel⟩
theorem wc_X3_isFull : Cond.code yX3_isFull cX3_isFull 2 (Option.some FieldType.boolean) ∈ lw_tbl := az_t (i := 470) (by decide +kernel)
theorem wi_X3_isFull : Cond.instanceMethod yX3_isFull ∈ lw_tbl := az_t (i := 468) (by decide +kernel)
theorem wse_X3_isFull : Cond.selects RX3 yX3_isFull yX3_isFull ∈ lw_tbl := az_t (i := 469) (by decide +kernel)
theorem Y_X3_isFull : az_Y yX3_isFull cX3_isFull 2 (Option.some FieldType.boolean) 1 := ⟨wc_X3_isFull, wini_X3, by decide +kernel, by decide +kernel⟩
theorem wm_X3_104 : Cond.methodLink RX3 104 yX2_hasFullChamber ∈ lw_tbl := az_t (i := 471) (by decide +kernel)
theorem wc_X3_turn : Cond.code yX3_turn cX3_turn 2 (Option.some FieldType.boolean) ∈ lw_tbl := az_t (i := 482) (by decide +kernel)
theorem wi_X3_turn : Cond.instanceMethod yX3_turn ∈ lw_tbl := az_t (i := 480) (by decide +kernel)
theorem wse_X3_turn : Cond.selects RX3 yX3_turn yX3_turn ∈ lw_tbl := az_t (i := 481) (by decide +kernel)
theorem Y_X3_turn : az_Y yX3_turn cX3_turn 2 (Option.some FieldType.boolean) 1 := ⟨wc_X3_turn, wini_X3, by decide +kernel, by decide +kernel⟩
theorem wm_X3_108 : Cond.methodLink RX3 108 yX2_empty ∈ lw_tbl := az_t (i := 483) (by decide +kernel)
theorem wm_X3_111 : Cond.methodLink RX3 111 yX2_canFill ∈ lw_tbl := az_t (i := 488) (by decide +kernel)
theorem wk_X3_114 : Cond.classLink RX3 114 "java/lang/UnsupportedOperationException" ∈ lw_tbl := az_t (i := 492) (by decide +kernel)
theorem wm_X3_118 : Cond.methodLink RX3 118 ⟨"java/lang/UnsupportedOperationException", "<init>", "(Ljava/lang/String;)V"⟩ ∈ lw_tbl := az_t (i := 502) (by decide +kernel)
theorem wm_X3_119 : Cond.methodLink RX3 119 yX2_fill ∈ lw_tbl := az_t (i := 508) (by decide +kernel)
theorem wc_X3_waterThrough : Cond.code yX3_waterThrough cX3_waterThrough 2 (Option.some FieldType.int) ∈ lw_tbl := az_t (i := 518) (by decide +kernel)
theorem wi_X3_waterThrough : Cond.instanceMethod yX3_waterThrough ∈ lw_tbl := az_t (i := 516) (by decide +kernel)
theorem wse_X3_waterThrough : Cond.selects RX3 yX3_waterThrough yX3_waterThrough ∈ lw_tbl := az_t (i := 517) (by decide +kernel)
theorem Y_X3_waterThrough : az_Y yX3_waterThrough cX3_waterThrough 2 (Option.some FieldType.int) 1 := ⟨wc_X3_waterThrough, wini_X3, by decide +kernel, by decide +kernel⟩
theorem wc_X3_rain : Cond.code yX3_rain cX3_rain 4 (Option.some FieldType.int) ∈ lw_tbl := az_t (i := 525) (by decide +kernel)
theorem wi_X3_rain : Cond.instanceMethod yX3_rain ∈ lw_tbl := az_t (i := 523) (by decide +kernel)
theorem wse_X3_rain : Cond.selects RX3 yX3_rain yX3_rain ∈ lw_tbl := az_t (i := 524) (by decide +kernel)
theorem Y_X3_rain : az_Y yX3_rain cX3_rain 4 (Option.some FieldType.int) 2 := ⟨wc_X3_rain, wini_X3, by decide +kernel, by decide +kernel⟩
theorem wm_X3_127 : Cond.methodLink RX3 127 yX2_send ∈ lw_tbl := az_t (i := 144) (by decide +kernel)
theorem wc_X3_endWeek : Cond.code yX3_endWeek cX3_endWeek 5 (Option.some FieldType.int) ∈ lw_tbl := az_t (i := 227) (by decide +kernel)
theorem wi_X3_endWeek : Cond.instanceMethod yX3_endWeek ∈ lw_tbl := az_t (i := 225) (by decide +kernel)
theorem wse_X3_endWeek : Cond.selects RX3 yX3_endWeek yX3_endWeek ∈ lw_tbl := az_t (i := 226) (by decide +kernel)
theorem Y_X3_endWeek : az_Y yX3_endWeek cX3_endWeek 5 (Option.some FieldType.int) 0 := ⟨wc_X3_endWeek, wini_X3, by decide +kernel, by decide +kernel⟩
theorem wm_X3_131 : Cond.methodLink RX3 131 Lib.Math.min.name ∈ lw_tbl := az_t (i := 229) (by decide +kernel)
theorem wc_J9_min_7cf53 : Cond.code yJ9_min_7cf53 cJ9_min_7cf53 2 (Option.some FieldType.int) ∈ lw_tbl := az_t (i := 165) (by decide +kernel)
theorem wst_J9_min_7cf53 : Cond.static yJ9_min_7cf53 ∈ lw_tbl := az_t (i := 164) (by decide +kernel)
theorem Y_J9_min_7cf53 : az_Y yJ9_min_7cf53 cJ9_min_7cf53 2 (Option.some FieldType.int) 2 := ⟨wc_J9_min_7cf53, wini_J9, by decide +kernel, by decide +kernel⟩
theorem wm_X3_136 : Cond.methodLink RX3 136 yX3_changedPrice ∈ lw_tbl := az_t (i := 234) (by decide +kernel)
theorem wc_X3_changedPrice : Cond.code yX3_changedPrice cX3_changedPrice 4 (Option.some FieldType.int) ∈ lw_tbl := az_t (i := 236) (by decide +kernel)
theorem wst_X3_changedPrice : Cond.static yX3_changedPrice ∈ lw_tbl := az_t (i := 235) (by decide +kernel)
theorem Y_X3_changedPrice : az_Y yX3_changedPrice cX3_changedPrice 4 (Option.some FieldType.int) 3 := ⟨wc_X3_changedPrice, wini_X3, by decide +kernel, by decide +kernel⟩
theorem wl_X3_140 : Cond.fieldLink RX3 140 "BargeRiver" "weeks" "I" ∈ lw_tbl := az_t (i := 185) (by decide +kernel)
theorem wc_X3_weekCount : Cond.code yX3_weekCount cX3_weekCount 1 (Option.some FieldType.int) ∈ lw_tbl := az_t (i := 243) (by decide +kernel)
theorem wi_X3_weekCount : Cond.instanceMethod yX3_weekCount ∈ lw_tbl := az_t (i := 241) (by decide +kernel)
theorem wse_X3_weekCount : Cond.selects RX3 yX3_weekCount yX3_weekCount ∈ lw_tbl := az_t (i := 242) (by decide +kernel)
theorem Y_X3_weekCount : az_Y yX3_weekCount cX3_weekCount 1 (Option.some FieldType.int) 0 := ⟨wc_X3_weekCount, wini_X3, by decide +kernel, by decide +kernel⟩
theorem wc_X3_addBarge : Cond.code yX3_addBarge cX3_addBarge 6 (Option.some FieldType.int) ∈ lw_tbl := az_t (i := 533) (by decide +kernel)
theorem wi_X3_addBarge : Cond.instanceMethod yX3_addBarge ∈ lw_tbl := az_t (i := 531) (by decide +kernel)
theorem wse_X3_addBarge : Cond.selects RX3 yX3_addBarge yX3_addBarge ∈ lw_tbl := az_t (i := 532) (by decide +kernel)
theorem Y_X3_addBarge : az_Y yX3_addBarge cX3_addBarge 6 (Option.some FieldType.int) 4 := ⟨wc_X3_addBarge, wini_X3, by decide +kernel, by decide +kernel⟩
theorem wl_X3_145 : Cond.fieldLink RX3 145 "BargeRiver" "bargesMade" "I" ∈ lw_tbl := az_t (i := 184) (by decide +kernel)
theorem wm_X3_152 : Cond.methodLink RX3 152 yX0_init ∈ lw_tbl := az_t (i := 538) (by decide +kernel)
theorem wc_X3_bargeCount : Cond.code yX3_bargeCount cX3_bargeCount 1 (Option.some FieldType.int) ∈ lw_tbl := az_t (i := 247) (by decide +kernel)
theorem wi_X3_bargeCount : Cond.instanceMethod yX3_bargeCount ∈ lw_tbl := az_t (i := 245) (by decide +kernel)
theorem wse_X3_bargeCount : Cond.selects RX3 yX3_bargeCount yX3_bargeCount ∈ lw_tbl := az_t (i := 246) (by decide +kernel)
theorem Y_X3_bargeCount : az_Y yX3_bargeCount cX3_bargeCount 1 (Option.some FieldType.int) 0 := ⟨wc_X3_bargeCount, wini_X3, by decide +kernel, by decide +kernel⟩
theorem wc_X3_reachOf : Cond.code yX3_reachOf cX3_reachOf 2 (Option.some FieldType.int) ∈ lw_tbl := az_t (i := 579) (by decide +kernel)
theorem wi_X3_reachOf : Cond.instanceMethod yX3_reachOf ∈ lw_tbl := az_t (i := 577) (by decide +kernel)
theorem wse_X3_reachOf : Cond.selects RX3 yX3_reachOf yX3_reachOf ∈ lw_tbl := az_t (i := 578) (by decide +kernel)
theorem Y_X3_reachOf : az_Y yX3_reachOf cX3_reachOf 2 (Option.some FieldType.int) 1 := ⟨wc_X3_reachOf, wini_X3, by decide +kernel, by decide +kernel⟩
theorem wm_X3_155 : Cond.methodLink RX3 155 yX3_bargeNumbered ∈ lw_tbl := az_t (i := 580) (by decide +kernel)
theorem wc_X3_bargeNumbered : Cond.code yX3_bargeNumbered cX3_bargeNumbered 2 (Option.some (FieldType.object "BargeRiver$Barge")) ∈ lw_tbl := az_t (i := 583) (by decide +kernel)
theorem wi_X3_bargeNumbered : Cond.instanceMethod yX3_bargeNumbered ∈ lw_tbl := az_t (i := 582) (by decide +kernel)
theorem wse_X3_bargeNumbered : Cond.selects RX3 yX3_bargeNumbered yX3_bargeNumbered ∈ lw_tbl := az_tp (i := 4) (by decide +kernel)
theorem Y_X3_bargeNumbered : az_Y yX3_bargeNumbered cX3_bargeNumbered 2 (Option.some (FieldType.object "BargeRiver$Barge")) 1 := ⟨wc_X3_bargeNumbered, wini_X3, by decide +kernel, by decide +kernel⟩
theorem wc_X3_cargoOf : Cond.code yX3_cargoOf cX3_cargoOf 2 (Option.some FieldType.int) ∈ lw_tbl := az_t (i := 591) (by decide +kernel)
theorem wi_X3_cargoOf : Cond.instanceMethod yX3_cargoOf ∈ lw_tbl := az_t (i := 589) (by decide +kernel)
theorem wse_X3_cargoOf : Cond.selects RX3 yX3_cargoOf yX3_cargoOf ∈ lw_tbl := az_t (i := 590) (by decide +kernel)
theorem Y_X3_cargoOf : az_Y yX3_cargoOf cX3_cargoOf 2 (Option.some FieldType.int) 1 := ⟨wc_X3_cargoOf, wini_X3, by decide +kernel, by decide +kernel⟩
theorem wc_X3_draughtOf : Cond.code yX3_draughtOf cX3_draughtOf 2 (Option.some FieldType.int) ∈ lw_tbl := az_t (i := 598) (by decide +kernel)
theorem wi_X3_draughtOf : Cond.instanceMethod yX3_draughtOf ∈ lw_tbl := az_t (i := 596) (by decide +kernel)
theorem wse_X3_draughtOf : Cond.selects RX3 yX3_draughtOf yX3_draughtOf ∈ lw_tbl := az_t (i := 597) (by decide +kernel)
theorem Y_X3_draughtOf : az_Y yX3_draughtOf cX3_draughtOf 2 (Option.some FieldType.int) 1 := ⟨wc_X3_draughtOf, wini_X3, by decide +kernel, by decide +kernel⟩
theorem wm_X3_165 : Cond.methodLink RX3 165 yX0_draught ∈ lw_tbl := az_t (i := 599) (by decide +kernel)
theorem wc_X3_isAfloat : Cond.code yX3_isAfloat cX3_isAfloat 2 (Option.some FieldType.boolean) ∈ lw_tbl := az_t (i := 613) (by decide +kernel)
theorem wi_X3_isAfloat : Cond.instanceMethod yX3_isAfloat ∈ lw_tbl := az_t (i := 611) (by decide +kernel)
theorem wse_X3_isAfloat : Cond.selects RX3 yX3_isAfloat yX3_isAfloat ∈ lw_tbl := az_t (i := 612) (by decide +kernel)
theorem Y_X3_isAfloat : az_Y yX3_isAfloat cX3_isAfloat 2 (Option.some FieldType.boolean) 1 := ⟨wc_X3_isAfloat, wini_X3, by decide +kernel, by decide +kernel⟩
theorem wm_X3_169 : Cond.methodLink RX3 169 yX3_floatsWith ∈ lw_tbl := az_t (i := 614) (by decide +kernel)
theorem wc_X3_floatsWith : Cond.code yX3_floatsWith cX3_floatsWith 3 (Option.some FieldType.boolean) ∈ lw_tbl := az_t (i := 617) (by decide +kernel)
theorem wi_X3_floatsWith : Cond.instanceMethod yX3_floatsWith ∈ lw_tbl := az_t (i := 616) (by decide +kernel)
theorem wse_X3_floatsWith : Cond.selects RX3 yX3_floatsWith yX3_floatsWith ∈ lw_tbl := az_tp (i := 5) (by decide +kernel)
theorem Y_X3_floatsWith : az_Y yX3_floatsWith cX3_floatsWith 3 (Option.some FieldType.boolean) 2 := ⟨wc_X3_floatsWith, wini_X3, by decide +kernel, by decide +kernel⟩
theorem wc_X3_couple : Cond.code yX3_couple cX3_couple 7 (Option.some FieldType.int) ∈ lw_tbl := az_t (i := 625) (by decide +kernel)
theorem wi_X3_couple : Cond.instanceMethod yX3_couple ∈ lw_tbl := az_t (i := 623) (by decide +kernel)
theorem wse_X3_couple : Cond.selects RX3 yX3_couple yX3_couple ∈ lw_tbl := az_t (i := 624) (by decide +kernel)
theorem Y_X3_couple : az_Y yX3_couple cX3_couple 7 (Option.some FieldType.int) 2 := ⟨wc_X3_couple, wini_X3, by decide +kernel, by decide +kernel⟩
theorem wm_X3_173 : Cond.methodLink RX3 173 yX0_first ∈ lw_tbl := az_t (i := 626) (by decide +kernel)
theorem wm_X3_179 : Cond.methodLink RX3 179 yX0_chainSize ∈ lw_tbl := az_t (i := 631) (by decide +kernel)
theorem wm_X3_184 : Cond.methodLink RX3 184 yX0_last ∈ lw_tbl := az_t (i := 636) (by decide +kernel)
theorem wc_X3_uncouple : Cond.code yX3_uncouple cX3_uncouple 4 (Option.some FieldType.int) ∈ lw_tbl := az_t (i := 646) (by decide +kernel)
theorem wi_X3_uncouple : Cond.instanceMethod yX3_uncouple ∈ lw_tbl := az_t (i := 644) (by decide +kernel)
theorem wse_X3_uncouple : Cond.selects RX3 yX3_uncouple yX3_uncouple ∈ lw_tbl := az_t (i := 645) (by decide +kernel)
theorem Y_X3_uncouple : az_Y yX3_uncouple cX3_uncouple 4 (Option.some FieldType.int) 1 := ⟨wc_X3_uncouple, wini_X3, by decide +kernel, by decide +kernel⟩
theorem wc_X3_convoySize : Cond.code yX3_convoySize cX3_convoySize 2 (Option.some FieldType.int) ∈ lw_tbl := az_t (i := 654) (by decide +kernel)
theorem wi_X3_convoySize : Cond.instanceMethod yX3_convoySize ∈ lw_tbl := az_t (i := 652) (by decide +kernel)
theorem wse_X3_convoySize : Cond.selects RX3 yX3_convoySize yX3_convoySize ∈ lw_tbl := az_t (i := 653) (by decide +kernel)
theorem Y_X3_convoySize : az_Y yX3_convoySize cX3_convoySize 2 (Option.some FieldType.int) 1 := ⟨wc_X3_convoySize, wini_X3, by decide +kernel, by decide +kernel⟩
theorem wc_X3_convoyAt : Cond.code yX3_convoyAt cX3_convoyAt 5 (Option.some FieldType.int) ∈ lw_tbl := az_t (i := 662) (by decide +kernel)
theorem wi_X3_convoyAt : Cond.instanceMethod yX3_convoyAt ∈ lw_tbl := az_t (i := 660) (by decide +kernel)
theorem wse_X3_convoyAt : Cond.selects RX3 yX3_convoyAt yX3_convoyAt ∈ lw_tbl := az_t (i := 661) (by decide +kernel)
theorem Y_X3_convoyAt : az_Y yX3_convoyAt cX3_convoyAt 5 (Option.some FieldType.int) 2 := ⟨wc_X3_convoyAt, wini_X3, by decide +kernel, by decide +kernel⟩
theorem wk_X3_199 : Cond.classLink RX3 199 "java/util/NoSuchElementException" ∈ lw_tbl := az_t (i := 663) (by decide +kernel)
theorem wm_X3_203 : Cond.methodLink RX3 203 ⟨"java/util/NoSuchElementException", "<init>", "(Ljava/lang/String;)V"⟩ ∈ lw_tbl := az_t (i := 673) (by decide +kernel)
theorem wc_X3_partsFor : Cond.code yX3_partsFor cX3_partsFor 4 (Option.some FieldType.int) ∈ lw_tbl := az_t (i := 685) (by decide +kernel)
theorem wi_X3_partsFor : Cond.instanceMethod yX3_partsFor ∈ lw_tbl := az_t (i := 683) (by decide +kernel)
theorem wse_X3_partsFor : Cond.selects RX3 yX3_partsFor yX3_partsFor ∈ lw_tbl := az_t (i := 684) (by decide +kernel)
theorem Y_X3_partsFor : az_Y yX3_partsFor cX3_partsFor 4 (Option.some FieldType.int) 2 := ⟨wc_X3_partsFor, wini_X3, by decide +kernel, by decide +kernel⟩
theorem wm_X3_204 : Cond.methodLink RX3 204 yX0_greatestLength ∈ lw_tbl := az_t (i := 686) (by decide +kernel)
theorem wm_X3_209 : Cond.methodLink RX3 209 yX0_parts ∈ lw_tbl := az_t (i := 692) (by decide +kernel)
theorem wc_X3_pass : Cond.code yX3_pass cX3_pass 5 (Option.some FieldType.int) ∈ lw_tbl := az_t (i := 706) (by decide +kernel)
theorem wi_X3_pass : Cond.instanceMethod yX3_pass ∈ lw_tbl := az_t (i := 704) (by decide +kernel)
theorem wse_X3_pass : Cond.selects RX3 yX3_pass yX3_pass ∈ lw_tbl := az_t (i := 705) (by decide +kernel)
theorem Y_X3_pass : az_Y yX3_pass cX3_pass 5 (Option.some FieldType.int) 2 := ⟨wc_X3_pass, wini_X3, by decide +kernel, by decide +kernel⟩
theorem wm_X3_214 : Cond.methodLink RX3 214 yX3_carry ∈ lw_tbl := az_t (i := 708) (by decide +kernel)
theorem wc_X3_carry : Cond.code yX3_carry cX3_carry 5 (Option.some FieldType.int) ∈ lw_tbl := az_t (i := 711) (by decide +kernel)
theorem wi_X3_carry : Cond.instanceMethod yX3_carry ∈ lw_tbl := az_t (i := 710) (by decide +kernel)
theorem wse_X3_carry : Cond.selects RX3 yX3_carry yX3_carry ∈ lw_tbl := az_tp (i := 6) (by decide +kernel)
theorem Y_X3_carry : az_Y yX3_carry cX3_carry 5 (Option.some FieldType.int) 2 := ⟨wc_X3_carry, wini_X3, by decide +kernel, by decide +kernel⟩
theorem wc_X3_voyage : Cond.code yX3_voyage cX3_voyage 4 (Option.some FieldType.int) ∈ lw_tbl := az_t (i := 745) (by decide +kernel)
theorem wi_X3_voyage : Cond.instanceMethod yX3_voyage ∈ lw_tbl := az_t (i := 743) (by decide +kernel)
theorem wse_X3_voyage : Cond.selects RX3 yX3_voyage yX3_voyage ∈ lw_tbl := az_t (i := 744) (by decide +kernel)
theorem Y_X3_voyage : az_Y yX3_voyage cX3_voyage 4 (Option.some FieldType.int) 2 := ⟨wc_X3_voyage, wini_X3, by decide +kernel, by decide +kernel⟩
theorem wc_X3_isPossible : Cond.code yX3_isPossible cX3_isPossible 4 (Option.some FieldType.boolean) ∈ lw_tbl := az_t (i := 753) (by decide +kernel)
theorem wi_X3_isPossible : Cond.instanceMethod yX3_isPossible ∈ lw_tbl := az_t (i := 751) (by decide +kernel)
theorem wse_X3_isPossible : Cond.selects RX3 yX3_isPossible yX3_isPossible ∈ lw_tbl := az_t (i := 752) (by decide +kernel)
theorem Y_X3_isPossible : az_Y yX3_isPossible cX3_isPossible 4 (Option.some FieldType.boolean) 2 := ⟨wc_X3_isPossible, wini_X3, by decide +kernel, by decide +kernel⟩
theorem wm_X3_220 : Cond.methodLink RX3 220 yX3_canReach ∈ lw_tbl := az_t (i := 754) (by decide +kernel)
theorem wc_X3_canReach : Cond.code yX3_canReach cX3_canReach 4 (Option.some FieldType.boolean) ∈ lw_tbl := az_t (i := 757) (by decide +kernel)
theorem wi_X3_canReach : Cond.instanceMethod yX3_canReach ∈ lw_tbl := az_t (i := 756) (by decide +kernel)
theorem wse_X3_canReach : Cond.selects RX3 yX3_canReach yX3_canReach ∈ lw_tbl := az_tp (i := 9) (by decide +kernel)
theorem Y_X3_canReach : az_Y yX3_canReach cX3_canReach 4 (Option.some FieldType.boolean) 2 := ⟨wc_X3_canReach, wini_X3, by decide +kernel, by decide +kernel⟩
theorem wc_X3_waterFor : Cond.code yX3_waterFor cX3_waterFor 7 (Option.some FieldType.int) ∈ lw_tbl := az_t (i := 764) (by decide +kernel)
theorem wi_X3_waterFor : Cond.instanceMethod yX3_waterFor ∈ lw_tbl := az_t (i := 762) (by decide +kernel)
theorem wse_X3_waterFor : Cond.selects RX3 yX3_waterFor yX3_waterFor ∈ lw_tbl := az_t (i := 763) (by decide +kernel)
theorem Y_X3_waterFor : az_Y yX3_waterFor cX3_waterFor 7 (Option.some FieldType.int) 2 := ⟨wc_X3_waterFor, wini_X3, by decide +kernel, by decide +kernel⟩
theorem wm_X3_223 : Cond.methodLink RX3 223 yX2_throughTotal ∈ lw_tbl := az_t (i := 765) (by decide +kernel)
theorem wm_X3_226 : Cond.methodLink RX3 226 yX2_save ∈ lw_tbl := az_t (i := 712) (by decide +kernel)
theorem wm_X3_229 : Cond.methodLink RX3 229 yX3_tryVoyage ∈ lw_tbl := az_t (i := 717) (by decide +kernel)
theorem wc_X3_tryVoyage : Cond.code yX3_tryVoyage cX3_tryVoyage 9 (Option.some FieldType.boolean) ∈ lw_tbl := az_t (i := 720) (by decide +kernel)
theorem wi_X3_tryVoyage : Cond.instanceMethod yX3_tryVoyage ∈ lw_tbl := az_t (i := 719) (by decide +kernel)
theorem wse_X3_tryVoyage : Cond.selects RX3 yX3_tryVoyage yX3_tryVoyage ∈ lw_tbl := az_tp (i := 7) (by decide +kernel)
theorem Y_X3_tryVoyage : az_Y yX3_tryVoyage cX3_tryVoyage 9 (Option.some FieldType.boolean) 2 := ⟨wc_X3_tryVoyage, wini_X3, by decide +kernel, by decide +kernel⟩
theorem wm_X3_232 : Cond.methodLink RX3 232 yX2_restore ∈ lw_tbl := az_t (i := 734) (by decide +kernel)
theorem wc_X3_refusalReason : Cond.code yX3_refusalReason cX3_refusalReason 1 (Option.some FieldType.int) ∈ lw_tbl := az_t (i := 776) (by decide +kernel)
theorem wi_X3_refusalReason : Cond.instanceMethod yX3_refusalReason ∈ lw_tbl := az_t (i := 774) (by decide +kernel)
theorem wse_X3_refusalReason : Cond.selects RX3 yX3_refusalReason yX3_refusalReason ∈ lw_tbl := az_t (i := 775) (by decide +kernel)
theorem Y_X3_refusalReason : az_Y yX3_refusalReason cX3_refusalReason 1 (Option.some FieldType.int) 0 := ⟨wc_X3_refusalReason, wini_X3, by decide +kernel, by decide +kernel⟩
theorem wm_X3_237 : Cond.methodLink RX3 237 yX3_needRefusal ∈ lw_tbl := az_t (i := 777) (by decide +kernel)
theorem wc_X3_needRefusal : Cond.code yX3_needRefusal cX3_needRefusal 1 (Option.none : Option FieldType) ∈ lw_tbl := az_t (i := 780) (by decide +kernel)
theorem wi_X3_needRefusal : Cond.instanceMethod yX3_needRefusal ∈ lw_tbl := az_t (i := 779) (by decide +kernel)
theorem wse_X3_needRefusal : Cond.selects RX3 yX3_needRefusal yX3_needRefusal ∈ lw_tbl := az_tp (i := 10) (by decide +kernel)
theorem Y_X3_needRefusal : az_Y yX3_needRefusal cX3_needRefusal 1 (Option.none : Option FieldType) 0 := ⟨wc_X3_needRefusal, wini_X3, by decide +kernel, by decide +kernel⟩
theorem wc_X3_refusalLock : Cond.code yX3_refusalLock cX3_refusalLock 1 (Option.some FieldType.int) ∈ lw_tbl := az_t (i := 788) (by decide +kernel)
theorem wi_X3_refusalLock : Cond.instanceMethod yX3_refusalLock ∈ lw_tbl := az_t (i := 786) (by decide +kernel)
theorem wse_X3_refusalLock : Cond.selects RX3 yX3_refusalLock yX3_refusalLock ∈ lw_tbl := az_t (i := 787) (by decide +kernel)
theorem Y_X3_refusalLock : az_Y yX3_refusalLock cX3_refusalLock 1 (Option.some FieldType.int) 0 := ⟨wc_X3_refusalLock, wini_X3, by decide +kernel, by decide +kernel⟩
theorem wl_X3_240 : Cond.fieldLink RX3 240 "BargeRiver" "lastLock" "I" ∈ lw_tbl := az_t (i := 190) (by decide +kernel)
theorem wc_X3_priceIn : Cond.code yX3_priceIn cX3_priceIn 2 (Option.some FieldType.int) ∈ lw_tbl := az_t (i := 795) (by decide +kernel)
theorem wi_X3_priceIn : Cond.instanceMethod yX3_priceIn ∈ lw_tbl := az_t (i := 793) (by decide +kernel)
theorem wse_X3_priceIn : Cond.selects RX3 yX3_priceIn yX3_priceIn ∈ lw_tbl := az_t (i := 794) (by decide +kernel)
theorem Y_X3_priceIn : az_Y yX3_priceIn cX3_priceIn 2 (Option.some FieldType.int) 1 := ⟨wc_X3_priceIn, wini_X3, by decide +kernel, by decide +kernel⟩
theorem wc_X3_money : Cond.code yX3_money cX3_money 1 (Option.some FieldType.long) ∈ lw_tbl := az_t (i := 251) (by decide +kernel)
theorem wi_X3_money : Cond.instanceMethod yX3_money ∈ lw_tbl := az_t (i := 249) (by decide +kernel)
theorem wse_X3_money : Cond.selects RX3 yX3_money yX3_money ∈ lw_tbl := az_t (i := 250) (by decide +kernel)
theorem Y_X3_money : az_Y yX3_money cX3_money 1 (Option.some FieldType.long) 0 := ⟨wc_X3_money, wini_X3, by decide +kernel, by decide +kernel⟩
theorem wc_X3_buy : Cond.code yX3_buy cX3_buy 6 (Option.some FieldType.long) ∈ lw_tbl := az_t (i := 802) (by decide +kernel)
theorem wi_X3_buy : Cond.instanceMethod yX3_buy ∈ lw_tbl := az_t (i := 800) (by decide +kernel)
theorem wse_X3_buy : Cond.selects RX3 yX3_buy yX3_buy ∈ lw_tbl := az_t (i := 801) (by decide +kernel)
theorem Y_X3_buy : az_Y yX3_buy cX3_buy 6 (Option.some FieldType.long) 2 := ⟨wc_X3_buy, wini_X3, by decide +kernel, by decide +kernel⟩
theorem wm_X3_243 : Cond.methodLink RX3 243 yX3_needTons ∈ lw_tbl := az_t (i := 803) (by decide +kernel)
theorem wc_X3_needTons : Cond.code yX3_needTons cX3_needTons 1 (Option.none : Option FieldType) ∈ lw_tbl := az_t (i := 805) (by decide +kernel)
theorem wst_X3_needTons : Cond.static yX3_needTons ∈ lw_tbl := az_t (i := 804) (by decide +kernel)
theorem Y_X3_needTons : az_Y yX3_needTons cX3_needTons 1 (Option.none : Option FieldType) 1 := ⟨wc_X3_needTons, wini_X3, by decide +kernel, by decide +kernel⟩
theorem wc_X3_sell : Cond.code yX3_sell cX3_sell 4 (Option.some FieldType.long) ∈ lw_tbl := az_t (i := 814) (by decide +kernel)
theorem wi_X3_sell : Cond.instanceMethod yX3_sell ∈ lw_tbl := az_t (i := 812) (by decide +kernel)
theorem wse_X3_sell : Cond.selects RX3 yX3_sell yX3_sell ∈ lw_tbl := az_t (i := 813) (by decide +kernel)
theorem Y_X3_sell : az_Y yX3_sell cX3_sell 4 (Option.some FieldType.long) 2 := ⟨wc_X3_sell, wini_X3, by decide +kernel, by decide +kernel⟩
theorem wm_X3_250 : Cond.methodLink RX3 250 yX3_unload ∈ lw_tbl := az_t (i := 816) (by decide +kernel)
theorem wc_X3_unload : Cond.code yX3_unload cX3_unload 3 (Option.none : Option FieldType) ∈ lw_tbl := az_t (i := 819) (by decide +kernel)
theorem wi_X3_unload : Cond.instanceMethod yX3_unload ∈ lw_tbl := az_t (i := 818) (by decide +kernel)
theorem wse_X3_unload : Cond.selects RX3 yX3_unload yX3_unload ∈ lw_tbl := az_tp (i := 11) (by decide +kernel)
theorem Y_X3_unload : az_Y yX3_unload cX3_unload 3 (Option.none : Option FieldType) 2 := ⟨wc_X3_unload, wini_X3, by decide +kernel, by decide +kernel⟩
theorem wc_X3_sellToDraught : Cond.code yX3_sellToDraught cX3_sellToDraught 5 (Option.some FieldType.int) ∈ lw_tbl := az_t (i := 826) (by decide +kernel)
theorem wi_X3_sellToDraught : Cond.instanceMethod yX3_sellToDraught ∈ lw_tbl := az_t (i := 824) (by decide +kernel)
theorem wse_X3_sellToDraught : Cond.selects RX3 yX3_sellToDraught yX3_sellToDraught ∈ lw_tbl := az_t (i := 825) (by decide +kernel)
theorem Y_X3_sellToDraught : az_Y yX3_sellToDraught cX3_sellToDraught 5 (Option.some FieldType.int) 2 := ⟨wc_X3_sellToDraught, wini_X3, by decide +kernel, by decide +kernel⟩
theorem wm_X3_261 : Cond.methodLink RX3 261 yX0_greatestCargo ∈ lw_tbl := az_t (i := 829) (by decide +kernel)
theorem wm_X3_264 : Cond.methodLink RX3 264 Lib.Math.max.name ∈ lw_tbl := az_t (i := 237) (by decide +kernel)
theorem wc_X3_greatestLoad : Cond.code yX3_greatestLoad cX3_greatestLoad 3 (Option.some FieldType.int) ∈ lw_tbl := az_t (i := 839) (by decide +kernel)
theorem wi_X3_greatestLoad : Cond.instanceMethod yX3_greatestLoad ∈ lw_tbl := az_t (i := 837) (by decide +kernel)
theorem wse_X3_greatestLoad : Cond.selects RX3 yX3_greatestLoad yX3_greatestLoad ∈ lw_tbl := az_t (i := 838) (by decide +kernel)
theorem Y_X3_greatestLoad : az_Y yX3_greatestLoad cX3_greatestLoad 3 (Option.some FieldType.int) 1 := ⟨wc_X3_greatestLoad, wini_X3, by decide +kernel, by decide +kernel⟩
theorem wc_X3_worthIn : Cond.code yX3_worthIn cX3_worthIn 4 (Option.some FieldType.int) ∈ lw_tbl := az_t (i := 846) (by decide +kernel)
theorem wi_X3_worthIn : Cond.instanceMethod yX3_worthIn ∈ lw_tbl := az_t (i := 844) (by decide +kernel)
theorem wse_X3_worthIn : Cond.selects RX3 yX3_worthIn yX3_worthIn ∈ lw_tbl := az_t (i := 845) (by decide +kernel)
theorem Y_X3_worthIn : az_Y yX3_worthIn cX3_worthIn 4 (Option.some FieldType.int) 2 := ⟨wc_X3_worthIn, wini_X3, by decide +kernel, by decide +kernel⟩
theorem wc_X3_bestReach : Cond.code yX3_bestReach cX3_bestReach 8 (Option.some FieldType.int) ∈ lw_tbl := az_t (i := 853) (by decide +kernel)
theorem wi_X3_bestReach : Cond.instanceMethod yX3_bestReach ∈ lw_tbl := az_t (i := 851) (by decide +kernel)
theorem wse_X3_bestReach : Cond.selects RX3 yX3_bestReach yX3_bestReach ∈ lw_tbl := az_t (i := 852) (by decide +kernel)
theorem Y_X3_bestReach : az_Y yX3_bestReach cX3_bestReach 8 (Option.some FieldType.int) 1 := ⟨wc_X3_bestReach, wini_X3, by decide +kernel, by decide +kernel⟩
theorem wc_X3_cameTotal : Cond.code yX3_cameTotal cX3_cameTotal 1 (Option.some FieldType.int) ∈ lw_tbl := az_t (i := 255) (by decide +kernel)
theorem wi_X3_cameTotal : Cond.instanceMethod yX3_cameTotal ∈ lw_tbl := az_t (i := 253) (by decide +kernel)
theorem wse_X3_cameTotal : Cond.selects RX3 yX3_cameTotal yX3_cameTotal ∈ lw_tbl := az_t (i := 254) (by decide +kernel)
theorem Y_X3_cameTotal : az_Y yX3_cameTotal cX3_cameTotal 1 (Option.some FieldType.int) 0 := ⟨wc_X3_cameTotal, wini_X3, by decide +kernel, by decide +kernel⟩
theorem wc_X3_seaTotal : Cond.code yX3_seaTotal cX3_seaTotal 1 (Option.some FieldType.int) ∈ lw_tbl := az_t (i := 259) (by decide +kernel)
theorem wi_X3_seaTotal : Cond.instanceMethod yX3_seaTotal ∈ lw_tbl := az_t (i := 257) (by decide +kernel)
theorem wse_X3_seaTotal : Cond.selects RX3 yX3_seaTotal yX3_seaTotal ∈ lw_tbl := az_t (i := 258) (by decide +kernel)
theorem Y_X3_seaTotal : az_Y yX3_seaTotal cX3_seaTotal 1 (Option.some FieldType.int) 0 := ⟨wc_X3_seaTotal, wini_X3, by decide +kernel, by decide +kernel⟩
theorem wc_X3_airTotal : Cond.code yX3_airTotal cX3_airTotal 1 (Option.some FieldType.int) ∈ lw_tbl := az_t (i := 263) (by decide +kernel)
theorem wi_X3_airTotal : Cond.instanceMethod yX3_airTotal ∈ lw_tbl := az_t (i := 261) (by decide +kernel)
theorem wse_X3_airTotal : Cond.selects RX3 yX3_airTotal yX3_airTotal ∈ lw_tbl := az_t (i := 262) (by decide +kernel)
theorem Y_X3_airTotal : az_Y yX3_airTotal cX3_airTotal 1 (Option.some FieldType.int) 0 := ⟨wc_X3_airTotal, wini_X3, by decide +kernel, by decide +kernel⟩
theorem wc_X3_heldTotal : Cond.code yX3_heldTotal cX3_heldTotal 3 (Option.some FieldType.int) ∈ lw_tbl := az_t (i := 267) (by decide +kernel)
theorem wi_X3_heldTotal : Cond.instanceMethod yX3_heldTotal ∈ lw_tbl := az_t (i := 265) (by decide +kernel)
theorem wse_X3_heldTotal : Cond.selects RX3 yX3_heldTotal yX3_heldTotal ∈ lw_tbl := az_t (i := 266) (by decide +kernel)
theorem Y_X3_heldTotal : az_Y yX3_heldTotal cX3_heldTotal 3 (Option.some FieldType.int) 0 := ⟨wc_X3_heldTotal, wini_X3, by decide +kernel, by decide +kernel⟩
theorem wc_X3_movementCount : Cond.code yX3_movementCount cX3_movementCount 1 (Option.some FieldType.int) ∈ lw_tbl := az_t (i := 271) (by decide +kernel)
theorem wi_X3_movementCount : Cond.instanceMethod yX3_movementCount ∈ lw_tbl := az_t (i := 269) (by decide +kernel)
theorem wse_X3_movementCount : Cond.selects RX3 yX3_movementCount yX3_movementCount ∈ lw_tbl := az_t (i := 270) (by decide +kernel)
theorem Y_X3_movementCount : az_Y yX3_movementCount cX3_movementCount 1 (Option.some FieldType.int) 0 := ⟨wc_X3_movementCount, wini_X3, by decide +kernel, by decide +kernel⟩
theorem wc_X3_movementFrom : Cond.code yX3_movementFrom cX3_movementFrom 2 (Option.some FieldType.int) ∈ lw_tbl := az_t (i := 860) (by decide +kernel)
theorem wi_X3_movementFrom : Cond.instanceMethod yX3_movementFrom ∈ lw_tbl := az_t (i := 858) (by decide +kernel)
theorem wse_X3_movementFrom : Cond.selects RX3 yX3_movementFrom yX3_movementFrom ∈ lw_tbl := az_t (i := 859) (by decide +kernel)
theorem Y_X3_movementFrom : az_Y yX3_movementFrom cX3_movementFrom 2 (Option.some FieldType.int) 1 := ⟨wc_X3_movementFrom, wini_X3, by decide +kernel, by decide +kernel⟩
theorem wm_X3_270 : Cond.methodLink RX3 270 yX3_needMovement ∈ lw_tbl := az_t (i := 861) (by decide +kernel)
theorem wc_X3_needMovement : Cond.code yX3_needMovement cX3_needMovement 2 (Option.none : Option FieldType) ∈ lw_tbl := az_t (i := 864) (by decide +kernel)
theorem wi_X3_needMovement : Cond.instanceMethod yX3_needMovement ∈ lw_tbl := az_t (i := 863) (by decide +kernel)
theorem wse_X3_needMovement : Cond.selects RX3 yX3_needMovement yX3_needMovement ∈ lw_tbl := az_tp (i := 12) (by decide +kernel)
theorem Y_X3_needMovement : az_Y yX3_needMovement cX3_needMovement 2 (Option.none : Option FieldType) 1 := ⟨wc_X3_needMovement, wini_X3, by decide +kernel, by decide +kernel⟩
theorem wc_X3_movementTo : Cond.code yX3_movementTo cX3_movementTo 2 (Option.some FieldType.int) ∈ lw_tbl := az_t (i := 872) (by decide +kernel)
theorem wi_X3_movementTo : Cond.instanceMethod yX3_movementTo ∈ lw_tbl := az_t (i := 870) (by decide +kernel)
theorem wse_X3_movementTo : Cond.selects RX3 yX3_movementTo yX3_movementTo ∈ lw_tbl := az_t (i := 871) (by decide +kernel)
theorem Y_X3_movementTo : az_Y yX3_movementTo cX3_movementTo 2 (Option.some FieldType.int) 1 := ⟨wc_X3_movementTo, wini_X3, by decide +kernel, by decide +kernel⟩
theorem wc_X3_movementVolume : Cond.code yX3_movementVolume cX3_movementVolume 2 (Option.some FieldType.int) ∈ lw_tbl := az_t (i := 879) (by decide +kernel)
theorem wi_X3_movementVolume : Cond.instanceMethod yX3_movementVolume ∈ lw_tbl := az_t (i := 877) (by decide +kernel)
theorem wse_X3_movementVolume : Cond.selects RX3 yX3_movementVolume yX3_movementVolume ∈ lw_tbl := az_t (i := 878) (by decide +kernel)
theorem Y_X3_movementVolume : az_Y yX3_movementVolume cX3_movementVolume 2 (Option.some FieldType.int) 1 := ⟨wc_X3_movementVolume, wini_X3, by decide +kernel, by decide +kernel⟩
theorem wc_X3_meanLevel : Cond.code yX3_meanLevel cX3_meanLevel 3 (Option.some FieldType.double) ∈ lw_tbl := az_t (i := 275) (by decide +kernel)
theorem wi_X3_meanLevel : Cond.instanceMethod yX3_meanLevel ∈ lw_tbl := az_t (i := 273) (by decide +kernel)
theorem wse_X3_meanLevel : Cond.selects RX3 yX3_meanLevel yX3_meanLevel ∈ lw_tbl := az_t (i := 274) (by decide +kernel)
theorem Y_X3_meanLevel : az_Y yX3_meanLevel cX3_meanLevel 3 (Option.some FieldType.double) 0 := ⟨wc_X3_meanLevel, wini_X3, by decide +kernel, by decide +kernel⟩
theorem wc_X3_isBalanced : Cond.code yX3_isBalanced cX3_isBalanced 2 (Option.some FieldType.boolean) ∈ lw_tbl := az_t (i := 279) (by decide +kernel)
theorem wi_X3_isBalanced : Cond.instanceMethod yX3_isBalanced ∈ lw_tbl := az_t (i := 277) (by decide +kernel)
theorem wse_X3_isBalanced : Cond.selects RX3 yX3_isBalanced yX3_isBalanced ∈ lw_tbl := az_t (i := 278) (by decide +kernel)
theorem Y_X3_isBalanced : az_Y yX3_isBalanced cX3_isBalanced 2 (Option.some FieldType.boolean) 0 := ⟨wc_X3_isBalanced, wini_X3, by decide +kernel, by decide +kernel⟩
theorem wm_X3_282 : Cond.methodLink RX3 282 yX3_cameTotal ∈ lw_tbl := az_t (i := 280) (by decide +kernel)
theorem wm_X3_285 : Cond.methodLink RX3 285 yX3_heldTotal ∈ lw_tbl := az_t (i := 281) (by decide +kernel)
theorem wm_X3_288 : Cond.methodLink RX3 288 yX3_seaTotal ∈ lw_tbl := az_t (i := 282) (by decide +kernel)
theorem wm_X3_291 : Cond.methodLink RX3 291 yX3_airTotal ∈ lw_tbl := az_t (i := 283) (by decide +kernel)
theorem wm_X3_294 : Cond.methodLink RX3 294 yX3_volumeOf ∈ lw_tbl := az_t (i := 284) (by decide +kernel)
theorem wm_X3_297 : Cond.methodLink RX3 297 yX3_volumeBySteps ∈ lw_tbl := az_t (i := 363) (by decide +kernel)
theorem wc_X3_writeReach : Cond.code yX3_writeReach cX3_writeReach 4 (Option.some FieldType.int) ∈ lw_tbl := az_t (i := 886) (by decide +kernel)
theorem wi_X3_writeReach : Cond.instanceMethod yX3_writeReach ∈ lw_tbl := az_t (i := 884) (by decide +kernel)
theorem wse_X3_writeReach : Cond.selects RX3 yX3_writeReach yX3_writeReach ∈ lw_tbl := az_t (i := 885) (by decide +kernel)
theorem Y_X3_writeReach : az_Y yX3_writeReach cX3_writeReach 4 (Option.some FieldType.int) 1 := ⟨wc_X3_writeReach, wini_X3, by decide +kernel, by decide +kernel⟩
theorem wm_X3_300 : Cond.methodLink RX3 300 yJ4_setLength_d00df ∈ lw_tbl := az_t (i := 887) (by decide +kernel)
theorem wc_J4_setLength_d00df : Cond.code yJ4_setLength_d00df cJ4_setLength_d00df 2 (Option.none : Option FieldType) ∈ lw_tbl := az_t (i := 890) (by decide +kernel)
theorem wi_J4_setLength_d00df : Cond.instanceMethod yJ4_setLength_d00df ∈ lw_tbl := az_t (i := 888) (by decide +kernel)
theorem wse_J4_setLength_d00df : Cond.selects RJ4 yJ4_setLength_d00df yJ4_setLength_d00df ∈ lw_tbl := az_t (i := 889) (by decide +kernel)
theorem Y_J4_setLength_d00df : az_Y yJ4_setLength_d00df cJ4_setLength_d00df 2 (Option.none : Option FieldType) 1 := ⟨wc_J4_setLength_d00df, wini_J4, by decide +kernel, by decide +kernel⟩
theorem wm_X3_303 : Cond.methodLink RX3 303 yJ4_append_bf812 ∈ lw_tbl := az_t (i := 1152) (by decide +kernel)
theorem wc_J4_append_bf812 : Cond.code yJ4_append_bf812 cJ4_append_bf812 2 (Option.some (FieldType.object "java/lang/StringBuilder")) ∈ lw_tbl := az_t (i := 1015) (by decide +kernel)
theorem wi_J4_append_bf812 : Cond.instanceMethod yJ4_append_bf812 ∈ lw_tbl := az_t (i := 1013) (by decide +kernel)
theorem wse_J4_append_bf812 : Cond.selects RJ4 yJ4_append_bf812 yJ4_append_bf812 ∈ lw_tbl := az_t (i := 1014) (by decide +kernel)
theorem Y_J4_append_bf812 : az_Y yJ4_append_bf812 cJ4_append_bf812 2 (Option.some (FieldType.object "java/lang/StringBuilder")) 1 := ⟨wc_J4_append_bf812, wini_J4, by decide +kernel, by decide +kernel⟩
theorem wm_X3_309 : Cond.methodLink RX3 309 yJ4_append_15ec4 ∈ lw_tbl := az_t (i := 1154) (by decide +kernel)
theorem wc_J4_append_15ec4 : Cond.code yJ4_append_15ec4 cJ4_append_15ec4 2 (Option.some (FieldType.object "java/lang/StringBuilder")) ∈ lw_tbl := az_t (i := 905) (by decide +kernel)
theorem wi_J4_append_15ec4 : Cond.instanceMethod yJ4_append_15ec4 ∈ lw_tbl := az_t (i := 903) (by decide +kernel)
theorem wse_J4_append_15ec4 : Cond.selects RJ4 yJ4_append_15ec4 yJ4_append_15ec4 ∈ lw_tbl := az_t (i := 904) (by decide +kernel)
theorem Y_J4_append_15ec4 : az_Y yJ4_append_15ec4 cJ4_append_15ec4 2 (Option.some (FieldType.object "java/lang/StringBuilder")) 1 := ⟨wc_J4_append_15ec4, wini_J4, by decide +kernel, by decide +kernel⟩
theorem wm_X3_314 : Cond.methodLink RX3 314 yJ4_append_cf468 ∈ lw_tbl := az_t (i := 1156) (by decide +kernel)
theorem wc_J4_append_cf468 : Cond.code yJ4_append_cf468 cJ4_append_cf468 2 (Option.some (FieldType.object "java/lang/StringBuilder")) ∈ lw_tbl := az_t (i := 1159) (by decide +kernel)
theorem wi_J4_append_cf468 : Cond.instanceMethod yJ4_append_cf468 ∈ lw_tbl := az_t (i := 1157) (by decide +kernel)
theorem wse_J4_append_cf468 : Cond.selects RJ4 yJ4_append_cf468 yJ4_append_cf468 ∈ lw_tbl := az_t (i := 1158) (by decide +kernel)
theorem Y_J4_append_cf468 : az_Y yJ4_append_cf468 cJ4_append_cf468 2 (Option.some (FieldType.object "java/lang/StringBuilder")) 1 := ⟨wc_J4_append_cf468, wini_J4, by decide +kernel, by decide +kernel⟩
theorem wm_X3_317 : Cond.methodLink RX3 317 yX3_appendConvoy ∈ lw_tbl := az_t (i := 1178) (by decide +kernel)
theorem wc_X3_appendConvoy : Cond.code yX3_appendConvoy cX3_appendConvoy 3 (Option.none : Option FieldType) ∈ lw_tbl := az_t (i := 1181) (by decide +kernel)
theorem wi_X3_appendConvoy : Cond.instanceMethod yX3_appendConvoy ∈ lw_tbl := az_t (i := 1180) (by decide +kernel)
theorem wse_X3_appendConvoy : Cond.selects RX3 yX3_appendConvoy yX3_appendConvoy ∈ lw_tbl := az_tp (i := 13) (by decide +kernel)
theorem Y_X3_appendConvoy : az_Y yX3_appendConvoy cX3_appendConvoy 3 (Option.none : Option FieldType) 1 := ⟨wc_X3_appendConvoy, wini_X3, by decide +kernel, by decide +kernel⟩
theorem wm_X3_321 : Cond.methodLink RX3 321 yJ4_length_8abf5 ∈ lw_tbl := az_t (i := 1182) (by decide +kernel)
theorem wc_J4_length_8abf5 : Cond.code yJ4_length_8abf5 cJ4_length_8abf5 1 (Option.some FieldType.int) ∈ lw_tbl := az_t (i := 1060) (by decide +kernel)
theorem wi_J4_length_8abf5 : Cond.instanceMethod yJ4_length_8abf5 ∈ lw_tbl := az_t (i := 1059) (by decide +kernel)
theorem wse_J4_length_8abf5 : Cond.selects RJ4 yJ4_length_8abf5 yJ4_length_8abf5 ∈ lw_tbl := az_t (i := 1683) (by decide +kernel)
theorem Y_J4_length_8abf5 : az_Y yJ4_length_8abf5 cJ4_length_8abf5 1 (Option.some FieldType.int) 0 := ⟨wc_J4_length_8abf5, wini_J4, by decide +kernel, by decide +kernel⟩
theorem wc_X3_lineAt : Cond.code yX3_lineAt cX3_lineAt 2 (Option.some FieldType.char) ∈ lw_tbl := az_t (i := 1189) (by decide +kernel)
theorem wi_X3_lineAt : Cond.instanceMethod yX3_lineAt ∈ lw_tbl := az_t (i := 1187) (by decide +kernel)
theorem wse_X3_lineAt : Cond.selects RX3 yX3_lineAt yX3_lineAt ∈ lw_tbl := az_t (i := 1188) (by decide +kernel)
theorem Y_X3_lineAt : az_Y yX3_lineAt cX3_lineAt 2 (Option.some FieldType.char) 1 := ⟨wc_X3_lineAt, wini_X3, by decide +kernel, by decide +kernel⟩
theorem wk_X3_324 : Cond.classLink RX3 324 "java/lang/IndexOutOfBoundsException" ∈ lw_tbl := az_t (i := 292) (by decide +kernel)
theorem wm_X3_328 : Cond.methodLink RX3 328 ⟨"java/lang/IndexOutOfBoundsException", "<init>", "(Ljava/lang/String;)V"⟩ ∈ lw_tbl := az_t (i := 338) (by decide +kernel)
theorem wm_X3_329 : Cond.methodLink RX3 329 yJ4_charAt_5068e ∈ lw_tbl := az_t (i := 1191) (by decide +kernel)
theorem wc_J4_charAt_5068e : Cond.code yJ4_charAt_5068e cJ4_charAt_5068e 2 (Option.some FieldType.char) ∈ lw_tbl := az_t (i := 1194) (by decide +kernel)
theorem wi_J4_charAt_5068e : Cond.instanceMethod yJ4_charAt_5068e ∈ lw_tbl := az_t (i := 1192) (by decide +kernel)
theorem wse_J4_charAt_5068e : Cond.selects RJ4 yJ4_charAt_5068e yJ4_charAt_5068e ∈ lw_tbl := az_t (i := 1193) (by decide +kernel)
theorem Y_J4_charAt_5068e : az_Y yJ4_charAt_5068e cJ4_charAt_5068e 2 (Option.some FieldType.char) 1 := ⟨wc_J4_charAt_5068e, wini_J4, by decide +kernel, by decide +kernel⟩
theorem wm_X3_345 : Cond.methodLink RX3 345 yX2_addBed ∈ lw_tbl := az_t (i := 140) (by decide +kernel)
theorem wm_X3_348 : Cond.methodLink RX3 348 yX0_draughtWith ∈ lw_tbl := az_t (i := 618) (by decide +kernel)
theorem wl_X3_351 : Cond.fieldLink RX3 351 "BargeRiver" "triedReason" "I" ∈ lw_tbl := az_t (i := 187) (by decide +kernel)
theorem wl_X3_354 : Cond.fieldLink RX3 354 "BargeRiver" "triedLock" "I" ∈ lw_tbl := az_t (i := 188) (by decide +kernel)
theorem wm_X3_359 : Cond.methodLink RX3 359 Lib.Math.abs.name ∈ lw_tbl := az_t (i := 721) (by decide +kernel)
theorem wc_J9_abs_0f7a4 : Cond.code yJ9_abs_0f7a4 cJ9_abs_0f7a4 1 (Option.some FieldType.int) ∈ lw_tbl := az_t (i := 723) (by decide +kernel)
theorem wst_J9_abs_0f7a4 : Cond.static yJ9_abs_0f7a4 ∈ lw_tbl := az_t (i := 722) (by decide +kernel)
theorem Y_J9_abs_0f7a4 : az_Y yJ9_abs_0f7a4 cJ9_abs_0f7a4 1 (Option.some FieldType.int) 1 := ⟨wc_J9_abs_0f7a4, wini_J9, by decide +kernel, by decide +kernel⟩
theorem wm_X3_362 : Cond.methodLink RX3 362 yX3_tryPassage ∈ lw_tbl := az_t (i := 724) (by decide +kernel)
theorem wc_X3_tryPassage : Cond.code yX3_tryPassage cX3_tryPassage 9 (Option.some FieldType.int) ∈ lw_tbl := az_t (i := 727) (by decide +kernel)
theorem wi_X3_tryPassage : Cond.instanceMethod yX3_tryPassage ∈ lw_tbl := az_t (i := 726) (by decide +kernel)
theorem wse_X3_tryPassage : Cond.selects RX3 yX3_tryPassage yX3_tryPassage ∈ lw_tbl := az_tp (i := 8) (by decide +kernel)
theorem Y_X3_tryPassage : az_Y yX3_tryPassage cX3_tryPassage 9 (Option.some FieldType.int) 3 := ⟨wc_X3_tryPassage, wini_X3, by decide +kernel, by decide +kernel⟩
theorem wm_X3_366 : Cond.methodLink RX3 366 yX0_greatestDraught ∈ lw_tbl := az_t (i := 728) (by decide +kernel)
theorem wm_X3_370 : Cond.methodLink RX3 370 yX0_nextPart ∈ lw_tbl := az_t (i := 733) (by decide +kernel)
theorem wc_X4_init : Cond.code yX4_init cX4_init 1 (Option.none : Option FieldType) ∈ lw_tbl := az_t (i := 1205) (by decide +kernel)
theorem wi_X4_init : Cond.instanceMethod yX4_init ∈ lw_tbl := az_t (i := 1204) (by decide +kernel)
theorem Y_X4_init : az_Y yX4_init cX4_init 1 (Option.none : Option FieldType) 0 := ⟨wc_X4_init, wini_X4, by decide +kernel, by decide +kernel⟩
theorem wm_X4_1 : Cond.methodLink RX4 1 objectInit ∈ lw_tbl := az_t (i := 1206) (by decide +kernel)
theorem wl_X4_7 : Cond.fieldLink RX4 7 "BargeRiverModel" "reaches" "I" ∈ lw_tbl := az_t (i := 1210) (by decide +kernel)
theorem wl_X4_13 : Cond.fieldLink RX4 13 "BargeRiverModel" "area" "[I" ∈ lw_tbl := az_t (i := 1212) (by decide +kernel)
theorem wl_X4_17 : Cond.fieldLink RX4 17 "BargeRiverModel" "volume" "[I" ∈ lw_tbl := az_t (i := 1213) (by decide +kernel)
theorem wl_X4_20 : Cond.fieldLink RX4 20 "BargeRiverModel" "lastLevel" "[I" ∈ lw_tbl := az_t (i := 1214) (by decide +kernel)
theorem wl_X4_23 : Cond.fieldLink RX4 23 "BargeRiverModel" "price" "[I" ∈ lw_tbl := az_t (i := 1215) (by decide +kernel)
theorem wl_X4_26 : Cond.fieldLink RX4 26 "BargeRiverModel" "lockful" "[I" ∈ lw_tbl := az_t (i := 1216) (by decide +kernel)
theorem wl_X4_29 : Cond.fieldLink RX4 29 "BargeRiverModel" "lockLong" "[I" ∈ lw_tbl := az_t (i := 1217) (by decide +kernel)
theorem wl_X4_32 : Cond.fieldLink RX4 32 "BargeRiverModel" "sill" "[I" ∈ lw_tbl := az_t (i := 1218) (by decide +kernel)
theorem wl_X4_35 : Cond.fieldLink RX4 35 "BargeRiverModel" "through" "[I" ∈ lw_tbl := az_t (i := 1219) (by decide +kernel)
theorem wl_X4_38 : Cond.fieldLink RX4 38 "BargeRiverModel" "full" "[Z" ∈ lw_tbl := az_t (i := 1220) (by decide +kernel)
theorem wl_X4_42 : Cond.fieldLink RX4 42 "BargeRiverModel" "at" "[I" ∈ lw_tbl := az_t (i := 1222) (by decide +kernel)
theorem wl_X4_45 : Cond.fieldLink RX4 45 "BargeRiverModel" "bargeLong" "[I" ∈ lw_tbl := az_t (i := 1223) (by decide +kernel)
theorem wl_X4_48 : Cond.fieldLink RX4 48 "BargeRiverModel" "hull" "[I" ∈ lw_tbl := az_t (i := 1224) (by decide +kernel)
theorem wl_X4_51 : Cond.fieldLink RX4 51 "BargeRiverModel" "tons" "[I" ∈ lw_tbl := az_t (i := 1225) (by decide +kernel)
theorem wl_X4_54 : Cond.fieldLink RX4 54 "BargeRiverModel" "cargo" "[I" ∈ lw_tbl := az_t (i := 1226) (by decide +kernel)
theorem wl_X4_57 : Cond.fieldLink RX4 57 "BargeRiverModel" "ahead" "[I" ∈ lw_tbl := az_t (i := 1227) (by decide +kernel)
theorem wl_X4_60 : Cond.fieldLink RX4 60 "BargeRiverModel" "behind" "[I" ∈ lw_tbl := az_t (i := 1228) (by decide +kernel)
theorem wn_X4_63 : Cond.constantLong RX4 63 (10000) ∈ lw_tbl := az_t (i := 1207) (by decide +kernel)
theorem wl_X4_65 : Cond.fieldLink RX4 65 "BargeRiverModel" "money" "J" ∈ lw_tbl := az_t (i := 1229) (by decide +kernel)
theorem wl_X4_69 : Cond.fieldLink RX4 69 "BargeRiverModel" "came" "I" ∈ lw_tbl := az_t (i := 1230) (by decide +kernel)
theorem wl_X4_72 : Cond.fieldLink RX4 72 "BargeRiverModel" "moves" "I" ∈ lw_tbl := az_t (i := 1233) (by decide +kernel)
theorem wn_X4_75 : Cond.constant RX4 75 (100000) ∈ lw_tbl := az_t (i := 1208) (by decide +kernel)
theorem wl_X4_76 : Cond.fieldLink RX4 76 "BargeRiverModel" "moveFrom" "[I" ∈ lw_tbl := az_t (i := 1234) (by decide +kernel)
theorem wl_X4_79 : Cond.fieldLink RX4 79 "BargeRiverModel" "moveTo" "[I" ∈ lw_tbl := az_t (i := 1235) (by decide +kernel)
theorem wl_X4_82 : Cond.fieldLink RX4 82 "BargeRiverModel" "moved" "[I" ∈ lw_tbl := az_t (i := 1236) (by decide +kernel)
theorem wl_X4_85 : Cond.fieldLink RX4 85 "BargeRiverModel" "wasVolume" "[I" ∈ lw_tbl := az_t (i := 1241) (by decide +kernel)
theorem wl_X4_88 : Cond.fieldLink RX4 88 "BargeRiverModel" "wasThrough" "[I" ∈ lw_tbl := az_t (i := 1242) (by decide +kernel)
theorem wl_X4_91 : Cond.fieldLink RX4 91 "BargeRiverModel" "wasAt" "[I" ∈ lw_tbl := az_t (i := 1243) (by decide +kernel)
theorem wl_X4_94 : Cond.fieldLink RX4 94 "BargeRiverModel" "wasFull" "[Z" ∈ lw_tbl := az_t (i := 1244) (by decide +kernel)
theorem wl_X4_97 : Cond.fieldLink RX4 97 "BargeRiverModel" "line" "[C" ∈ lw_tbl := az_t (i := 1247) (by decide +kernel)
theorem wc_X4_thrown : Cond.code yX4_thrown cX4_thrown 1 (Option.some FieldType.int) ∈ lw_tbl := az_t (i := 1335) (by decide +kernel)
theorem wi_X4_thrown : Cond.instanceMethod yX4_thrown ∈ lw_tbl := az_t (i := 1333) (by decide +kernel)
theorem wse_X4_thrown : Cond.selects RX4 yX4_thrown yX4_thrown ∈ lw_tbl := az_t (i := 1334) (by decide +kernel)
theorem Y_X4_thrown : az_Y yX4_thrown cX4_thrown 1 (Option.some FieldType.int) 0 := ⟨wc_X4_thrown, wini_X4, by decide +kernel, by decide +kernel⟩
theorem wl_X4_101 : Cond.fieldLink RX4 101 "BargeRiverModel" "thrown" "I" ∈ lw_tbl := az_t (i := 1209) (by decide +kernel)
theorem wc_X4_in : Cond.code yX4_in cX4_in 3 (Option.some FieldType.boolean) ∈ lw_tbl := az_t (i := 1342) (by decide +kernel)
theorem wst_X4_in : Cond.static yX4_in ∈ lw_tbl := az_t (i := 1341) (by decide +kernel)
theorem Y_X4_in : az_Y yX4_in cX4_in 3 (Option.some FieldType.boolean) 3 := ⟨wc_X4_in, wini_X4, by decide +kernel, by decide +kernel⟩
theorem wc_X4_fails : Cond.code yX4_fails cX4_fails 2 (Option.some FieldType.int) ∈ lw_tbl := az_t (i := 1346) (by decide +kernel)
theorem wi_X4_fails : Cond.instanceMethod yX4_fails ∈ lw_tbl := az_t (i := 1345) (by decide +kernel)
theorem wse_X4_fails : Cond.selects RX4 yX4_fails yX4_fails ∈ lw_tbl := az_tp (i := 14) (by decide +kernel)
theorem Y_X4_fails : az_Y yX4_fails cX4_fails 2 (Option.some FieldType.int) 1 := ⟨wc_X4_fails, wini_X4, by decide +kernel, by decide +kernel⟩
theorem wc_X4_tells : Cond.code yX4_tells cX4_tells 2 (Option.some FieldType.int) ∈ lw_tbl := az_t (i := 1354) (by decide +kernel)
theorem wi_X4_tells : Cond.instanceMethod yX4_tells ∈ lw_tbl := az_t (i := 1353) (by decide +kernel)
theorem wse_X4_tells : Cond.selects RX4 yX4_tells yX4_tells ∈ lw_tbl := az_tp (i := 16) (by decide +kernel)
theorem Y_X4_tells : az_Y yX4_tells cX4_tells 2 (Option.some FieldType.int) 1 := ⟨wc_X4_tells, wini_X4, by decide +kernel, by decide +kernel⟩
theorem wc_X4_isReach : Cond.code yX4_isReach cX4_isReach 2 (Option.some FieldType.boolean) ∈ lw_tbl := az_t (i := 1366) (by decide +kernel)
theorem wi_X4_isReach : Cond.instanceMethod yX4_isReach ∈ lw_tbl := az_t (i := 1365) (by decide +kernel)
theorem wse_X4_isReach : Cond.selects RX4 yX4_isReach yX4_isReach ∈ lw_tbl := az_tp (i := 17) (by decide +kernel)
theorem Y_X4_isReach : az_Y yX4_isReach cX4_isReach 2 (Option.some FieldType.boolean) 1 := ⟨wc_X4_isReach, wini_X4, by decide +kernel, by decide +kernel⟩
theorem wm_X4_104 : Cond.methodLink RX4 104 yX4_in ∈ lw_tbl := az_t (i := 1340) (by decide +kernel)
theorem wc_X4_isLock : Cond.code yX4_isLock cX4_isLock 2 (Option.some FieldType.boolean) ∈ lw_tbl := az_t (i := 1394) (by decide +kernel)
theorem wi_X4_isLock : Cond.instanceMethod yX4_isLock ∈ lw_tbl := az_t (i := 1393) (by decide +kernel)
theorem wse_X4_isLock : Cond.selects RX4 yX4_isLock yX4_isLock ∈ lw_tbl := az_tp (i := 20) (by decide +kernel)
theorem Y_X4_isLock : az_Y yX4_isLock cX4_isLock 2 (Option.some FieldType.boolean) 1 := ⟨wc_X4_isLock, wini_X4, by decide +kernel, by decide +kernel⟩
theorem wc_X4_isBarge : Cond.code yX4_isBarge cX4_isBarge 2 (Option.some FieldType.boolean) ∈ lw_tbl := az_t (i := 1458) (by decide +kernel)
theorem wi_X4_isBarge : Cond.instanceMethod yX4_isBarge ∈ lw_tbl := az_t (i := 1457) (by decide +kernel)
theorem wse_X4_isBarge : Cond.selects RX4 yX4_isBarge yX4_isBarge ∈ lw_tbl := az_tp (i := 25) (by decide +kernel)
theorem Y_X4_isBarge : az_Y yX4_isBarge cX4_isBarge 2 (Option.some FieldType.boolean) 1 := ⟨wc_X4_isBarge, wini_X4, by decide +kernel, by decide +kernel⟩
theorem wl_X4_108 : Cond.fieldLink RX4 108 "BargeRiverModel" "barges" "I" ∈ lw_tbl := az_t (i := 1221) (by decide +kernel)
theorem wc_X4_level : Cond.code yX4_level cX4_level 2 (Option.some FieldType.int) ∈ lw_tbl := az_t (i := 1386) (by decide +kernel)
theorem wi_X4_level : Cond.instanceMethod yX4_level ∈ lw_tbl := az_t (i := 1385) (by decide +kernel)
theorem wse_X4_level : Cond.selects RX4 yX4_level yX4_level ∈ lw_tbl := az_tp (i := 19) (by decide +kernel)
theorem Y_X4_level : az_Y yX4_level cX4_level 2 (Option.some FieldType.int) 1 := ⟨wc_X4_level, wini_X4, by decide +kernel, by decide +kernel⟩
theorem wc_X4_records : Cond.code yX4_records cX4_records 4 (Option.none : Option FieldType) ∈ lw_tbl := az_t (i := 1350) (by decide +kernel)
theorem wi_X4_records : Cond.instanceMethod yX4_records ∈ lw_tbl := az_t (i := 1349) (by decide +kernel)
theorem wse_X4_records : Cond.selects RX4 yX4_records yX4_records ∈ lw_tbl := az_tp (i := 15) (by decide +kernel)
theorem Y_X4_records : az_Y yX4_records cX4_records 4 (Option.none : Option FieldType) 3 := ⟨wc_X4_records, wini_X4, by decide +kernel, by decide +kernel⟩
theorem wc_X4_comes : Cond.code yX4_comes cX4_comes 7 (Option.none : Option FieldType) ∈ lw_tbl := az_t (i := 1422) (by decide +kernel)
theorem wi_X4_comes : Cond.instanceMethod yX4_comes ∈ lw_tbl := az_t (i := 1421) (by decide +kernel)
theorem wse_X4_comes : Cond.selects RX4 yX4_comes yX4_comes ∈ lw_tbl := az_tp (i := 23) (by decide +kernel)
theorem Y_X4_comes : az_Y yX4_comes cX4_comes 7 (Option.none : Option FieldType) 3 := ⟨wc_X4_comes, wini_X4, by decide +kernel, by decide +kernel⟩
theorem wm_X4_111 : Cond.methodLink RX4 111 yX4_records ∈ lw_tbl := az_t (i := 1347) (by decide +kernel)
theorem wl_X4_115 : Cond.fieldLink RX4 115 "BargeRiverModel" "sea" "I" ∈ lw_tbl := az_t (i := 1231) (by decide +kernel)
theorem wc_X4_fills : Cond.code yX4_fills cX4_fills 2 (Option.none : Option FieldType) ∈ lw_tbl := az_t (i := 1426) (by decide +kernel)
theorem wi_X4_fills : Cond.instanceMethod yX4_fills ∈ lw_tbl := az_t (i := 1425) (by decide +kernel)
theorem wse_X4_fills : Cond.selects RX4 yX4_fills yX4_fills ∈ lw_tbl := az_tp (i := 24) (by decide +kernel)
theorem Y_X4_fills : az_Y yX4_fills cX4_fills 2 (Option.none : Option FieldType) 1 := ⟨wc_X4_fills, wini_X4, by decide +kernel, by decide +kernel⟩
theorem wc_X4_empties : Cond.code yX4_empties cX4_empties 2 (Option.none : Option FieldType) ∈ lw_tbl := az_t (i := 1418) (by decide +kernel)
theorem wi_X4_empties : Cond.instanceMethod yX4_empties ∈ lw_tbl := az_t (i := 1417) (by decide +kernel)
theorem wse_X4_empties : Cond.selects RX4 yX4_empties yX4_empties ∈ lw_tbl := az_tp (i := 22) (by decide +kernel)
theorem Y_X4_empties : az_Y yX4_empties cX4_empties 2 (Option.none : Option FieldType) 1 := ⟨wc_X4_empties, wini_X4, by decide +kernel, by decide +kernel⟩
theorem wm_X4_118 : Cond.methodLink RX4 118 yX4_comes ∈ lw_tbl := az_t (i := 1419) (by decide +kernel)
theorem wc_X4_addReach : Cond.code yX4_addReach cX4_addReach 7 (Option.some FieldType.int) ∈ lw_tbl := az_t (i := 1339) (by decide +kernel)
theorem wi_X4_addReach : Cond.instanceMethod yX4_addReach ∈ lw_tbl := az_t (i := 1337) (by decide +kernel)
theorem wse_X4_addReach : Cond.selects RX4 yX4_addReach yX4_addReach ∈ lw_tbl := az_t (i := 1338) (by decide +kernel)
theorem Y_X4_addReach : az_Y yX4_addReach cX4_addReach 7 (Option.some FieldType.int) 5 := ⟨wc_X4_addReach, wini_X4, by decide +kernel, by decide +kernel⟩
theorem wm_X4_121 : Cond.methodLink RX4 121 yX4_fails ∈ lw_tbl := az_t (i := 1343) (by decide +kernel)
theorem wm_X4_125 : Cond.methodLink RX4 125 yX4_tells ∈ lw_tbl := az_t (i := 1351) (by decide +kernel)
theorem wc_X4_reachCount : Cond.code yX4_reachCount cX4_reachCount 1 (Option.some FieldType.int) ∈ lw_tbl := az_t (i := 1358) (by decide +kernel)
theorem wi_X4_reachCount : Cond.instanceMethod yX4_reachCount ∈ lw_tbl := az_t (i := 1356) (by decide +kernel)
theorem wse_X4_reachCount : Cond.selects RX4 yX4_reachCount yX4_reachCount ∈ lw_tbl := az_t (i := 1357) (by decide +kernel)
theorem Y_X4_reachCount : az_Y yX4_reachCount cX4_reachCount 1 (Option.some FieldType.int) 0 := ⟨wc_X4_reachCount, wini_X4, by decide +kernel, by decide +kernel⟩
theorem wc_X4_areaOf : Cond.code yX4_areaOf cX4_areaOf 2 (Option.some FieldType.int) ∈ lw_tbl := az_t (i := 1362) (by decide +kernel)
theorem wi_X4_areaOf : Cond.instanceMethod yX4_areaOf ∈ lw_tbl := az_t (i := 1360) (by decide +kernel)
theorem wse_X4_areaOf : Cond.selects RX4 yX4_areaOf yX4_areaOf ∈ lw_tbl := az_t (i := 1361) (by decide +kernel)
theorem Y_X4_areaOf : az_Y yX4_areaOf cX4_areaOf 2 (Option.some FieldType.int) 1 := ⟨wc_X4_areaOf, wini_X4, by decide +kernel, by decide +kernel⟩
theorem wm_X4_128 : Cond.methodLink RX4 128 yX4_isReach ∈ lw_tbl := az_t (i := 1363) (by decide +kernel)
theorem wc_X4_volumeOf : Cond.code yX4_volumeOf cX4_volumeOf 2 (Option.some FieldType.int) ∈ lw_tbl := az_t (i := 1370) (by decide +kernel)
theorem wi_X4_volumeOf : Cond.instanceMethod yX4_volumeOf ∈ lw_tbl := az_t (i := 1368) (by decide +kernel)
theorem wse_X4_volumeOf : Cond.selects RX4 yX4_volumeOf yX4_volumeOf ∈ lw_tbl := az_t (i := 1369) (by decide +kernel)
theorem Y_X4_volumeOf : az_Y yX4_volumeOf cX4_volumeOf 2 (Option.some FieldType.int) 1 := ⟨wc_X4_volumeOf, wini_X4, by decide +kernel, by decide +kernel⟩
theorem wc_X4_bySteps : Cond.code yX4_bySteps cX4_bySteps 4 (Option.some FieldType.int) ∈ lw_tbl := az_t (i := 1378) (by decide +kernel)
theorem wi_X4_bySteps : Cond.instanceMethod yX4_bySteps ∈ lw_tbl := az_t (i := 1377) (by decide +kernel)
theorem wse_X4_bySteps : Cond.selects RX4 yX4_bySteps yX4_bySteps ∈ lw_tbl := az_tp (i := 18) (by decide +kernel)
theorem Y_X4_bySteps : az_Y yX4_bySteps cX4_bySteps 4 (Option.some FieldType.int) 1 := ⟨wc_X4_bySteps, wini_X4, by decide +kernel, by decide +kernel⟩
theorem wc_X4_volumeBySteps : Cond.code yX4_volumeBySteps cX4_volumeBySteps 2 (Option.some FieldType.int) ∈ lw_tbl := az_t (i := 1374) (by decide +kernel)
theorem wi_X4_volumeBySteps : Cond.instanceMethod yX4_volumeBySteps ∈ lw_tbl := az_t (i := 1372) (by decide +kernel)
theorem wse_X4_volumeBySteps : Cond.selects RX4 yX4_volumeBySteps yX4_volumeBySteps ∈ lw_tbl := az_t (i := 1373) (by decide +kernel)
theorem Y_X4_volumeBySteps : az_Y yX4_volumeBySteps cX4_volumeBySteps 2 (Option.some FieldType.int) 1 := ⟨wc_X4_volumeBySteps, wini_X4, by decide +kernel, by decide +kernel⟩
theorem wm_X4_132 : Cond.methodLink RX4 132 yX4_bySteps ∈ lw_tbl := az_t (i := 1375) (by decide +kernel)
theorem wc_X4_levelOf : Cond.code yX4_levelOf cX4_levelOf 2 (Option.some FieldType.int) ∈ lw_tbl := az_t (i := 1382) (by decide +kernel)
theorem wi_X4_levelOf : Cond.instanceMethod yX4_levelOf ∈ lw_tbl := az_t (i := 1380) (by decide +kernel)
theorem wse_X4_levelOf : Cond.selects RX4 yX4_levelOf yX4_levelOf ∈ lw_tbl := az_t (i := 1381) (by decide +kernel)
theorem Y_X4_levelOf : az_Y yX4_levelOf cX4_levelOf 2 (Option.some FieldType.int) 1 := ⟨wc_X4_levelOf, wini_X4, by decide +kernel, by decide +kernel⟩
theorem wm_X4_135 : Cond.methodLink RX4 135 yX4_level ∈ lw_tbl := az_t (i := 1383) (by decide +kernel)
theorem wc_X4_lockfulOf : Cond.code yX4_lockfulOf cX4_lockfulOf 2 (Option.some FieldType.int) ∈ lw_tbl := az_t (i := 1390) (by decide +kernel)
theorem wi_X4_lockfulOf : Cond.instanceMethod yX4_lockfulOf ∈ lw_tbl := az_t (i := 1388) (by decide +kernel)
theorem wse_X4_lockfulOf : Cond.selects RX4 yX4_lockfulOf yX4_lockfulOf ∈ lw_tbl := az_t (i := 1389) (by decide +kernel)
theorem Y_X4_lockfulOf : az_Y yX4_lockfulOf cX4_lockfulOf 2 (Option.some FieldType.int) 1 := ⟨wc_X4_lockfulOf, wini_X4, by decide +kernel, by decide +kernel⟩
theorem wm_X4_138 : Cond.methodLink RX4 138 yX4_isLock ∈ lw_tbl := az_t (i := 1391) (by decide +kernel)
theorem wc_X4_lengthOf : Cond.code yX4_lengthOf cX4_lengthOf 2 (Option.some FieldType.int) ∈ lw_tbl := az_t (i := 1398) (by decide +kernel)
theorem wi_X4_lengthOf : Cond.instanceMethod yX4_lengthOf ∈ lw_tbl := az_t (i := 1396) (by decide +kernel)
theorem wse_X4_lengthOf : Cond.selects RX4 yX4_lengthOf yX4_lengthOf ∈ lw_tbl := az_t (i := 1397) (by decide +kernel)
theorem Y_X4_lengthOf : az_Y yX4_lengthOf cX4_lengthOf 2 (Option.some FieldType.int) 1 := ⟨wc_X4_lengthOf, wini_X4, by decide +kernel, by decide +kernel⟩
theorem wc_X4_sillOf : Cond.code yX4_sillOf cX4_sillOf 2 (Option.some FieldType.int) ∈ lw_tbl := az_t (i := 1402) (by decide +kernel)
theorem wi_X4_sillOf : Cond.instanceMethod yX4_sillOf ∈ lw_tbl := az_t (i := 1400) (by decide +kernel)
theorem wse_X4_sillOf : Cond.selects RX4 yX4_sillOf yX4_sillOf ∈ lw_tbl := az_t (i := 1401) (by decide +kernel)
theorem Y_X4_sillOf : az_Y yX4_sillOf cX4_sillOf 2 (Option.some FieldType.int) 1 := ⟨wc_X4_sillOf, wini_X4, by decide +kernel, by decide +kernel⟩
theorem wc_X4_asks : Cond.code yX4_asks cX4_asks 3 (Option.some FieldType.boolean) ∈ lw_tbl := az_t (i := 1410) (by decide +kernel)
theorem wi_X4_asks : Cond.instanceMethod yX4_asks ∈ lw_tbl := az_t (i := 1409) (by decide +kernel)
theorem wse_X4_asks : Cond.selects RX4 yX4_asks yX4_asks ∈ lw_tbl := az_tp (i := 21) (by decide +kernel)
theorem Y_X4_asks : az_Y yX4_asks cX4_asks 3 (Option.some FieldType.boolean) 2 := ⟨wc_X4_asks, wini_X4, by decide +kernel, by decide +kernel⟩
theorem wc_X4_isFull : Cond.code yX4_isFull cX4_isFull 2 (Option.some FieldType.boolean) ∈ lw_tbl := az_t (i := 1406) (by decide +kernel)
theorem wi_X4_isFull : Cond.instanceMethod yX4_isFull ∈ lw_tbl := az_t (i := 1404) (by decide +kernel)
theorem wse_X4_isFull : Cond.selects RX4 yX4_isFull yX4_isFull ∈ lw_tbl := az_t (i := 1405) (by decide +kernel)
theorem Y_X4_isFull : az_Y yX4_isFull cX4_isFull 2 (Option.some FieldType.boolean) 1 := ⟨wc_X4_isFull, wini_X4, by decide +kernel, by decide +kernel⟩
theorem wm_X4_141 : Cond.methodLink RX4 141 yX4_asks ∈ lw_tbl := az_t (i := 1407) (by decide +kernel)
theorem wc_X4_turn : Cond.code yX4_turn cX4_turn 2 (Option.some FieldType.boolean) ∈ lw_tbl := az_t (i := 1414) (by decide +kernel)
theorem wi_X4_turn : Cond.instanceMethod yX4_turn ∈ lw_tbl := az_t (i := 1412) (by decide +kernel)
theorem wse_X4_turn : Cond.selects RX4 yX4_turn yX4_turn ∈ lw_tbl := az_t (i := 1413) (by decide +kernel)
theorem Y_X4_turn : az_Y yX4_turn cX4_turn 2 (Option.some FieldType.boolean) 1 := ⟨wc_X4_turn, wini_X4, by decide +kernel, by decide +kernel⟩
theorem wm_X4_145 : Cond.methodLink RX4 145 yX4_empties ∈ lw_tbl := az_t (i := 1415) (by decide +kernel)
theorem wm_X4_149 : Cond.methodLink RX4 149 yX4_fills ∈ lw_tbl := az_t (i := 1423) (by decide +kernel)
theorem wc_X4_waterThrough : Cond.code yX4_waterThrough cX4_waterThrough 2 (Option.some FieldType.int) ∈ lw_tbl := az_t (i := 1430) (by decide +kernel)
theorem wi_X4_waterThrough : Cond.instanceMethod yX4_waterThrough ∈ lw_tbl := az_t (i := 1428) (by decide +kernel)
theorem wse_X4_waterThrough : Cond.selects RX4 yX4_waterThrough yX4_waterThrough ∈ lw_tbl := az_t (i := 1429) (by decide +kernel)
theorem Y_X4_waterThrough : az_Y yX4_waterThrough cX4_waterThrough 2 (Option.some FieldType.int) 1 := ⟨wc_X4_waterThrough, wini_X4, by decide +kernel, by decide +kernel⟩
theorem wc_X4_rain : Cond.code yX4_rain cX4_rain 4 (Option.some FieldType.int) ∈ lw_tbl := az_t (i := 1434) (by decide +kernel)
theorem wi_X4_rain : Cond.instanceMethod yX4_rain ∈ lw_tbl := az_t (i := 1432) (by decide +kernel)
theorem wse_X4_rain : Cond.selects RX4 yX4_rain yX4_rain ∈ lw_tbl := az_t (i := 1433) (by decide +kernel)
theorem Y_X4_rain : az_Y yX4_rain cX4_rain 4 (Option.some FieldType.int) 2 := ⟨wc_X4_rain, wini_X4, by decide +kernel, by decide +kernel⟩
theorem wc_X4_endWeek : Cond.code yX4_endWeek cX4_endWeek 5 (Option.some FieldType.int) ∈ lw_tbl := az_t (i := 1438) (by decide +kernel)
theorem wi_X4_endWeek : Cond.instanceMethod yX4_endWeek ∈ lw_tbl := az_t (i := 1436) (by decide +kernel)
theorem wse_X4_endWeek : Cond.selects RX4 yX4_endWeek yX4_endWeek ∈ lw_tbl := az_t (i := 1437) (by decide +kernel)
theorem Y_X4_endWeek : az_Y yX4_endWeek cX4_endWeek 5 (Option.some FieldType.int) 0 := ⟨wc_X4_endWeek, wini_X4, by decide +kernel, by decide +kernel⟩
theorem wl_X4_152 : Cond.fieldLink RX4 152 "BargeRiverModel" "air" "I" ∈ lw_tbl := az_t (i := 1232) (by decide +kernel)
theorem wl_X4_155 : Cond.fieldLink RX4 155 "BargeRiverModel" "weeks" "I" ∈ lw_tbl := az_t (i := 1211) (by decide +kernel)
theorem wc_X4_weekCount : Cond.code yX4_weekCount cX4_weekCount 1 (Option.some FieldType.int) ∈ lw_tbl := az_t (i := 1442) (by decide +kernel)
theorem wi_X4_weekCount : Cond.instanceMethod yX4_weekCount ∈ lw_tbl := az_t (i := 1440) (by decide +kernel)
theorem wse_X4_weekCount : Cond.selects RX4 yX4_weekCount yX4_weekCount ∈ lw_tbl := az_t (i := 1441) (by decide +kernel)
theorem Y_X4_weekCount : az_Y yX4_weekCount cX4_weekCount 1 (Option.some FieldType.int) 0 := ⟨wc_X4_weekCount, wini_X4, by decide +kernel, by decide +kernel⟩
theorem wc_X4_deep : Cond.code yX4_deep cX4_deep 2 (Option.some FieldType.int) ∈ lw_tbl := az_t (i := 1470) (by decide +kernel)
theorem wi_X4_deep : Cond.instanceMethod yX4_deep ∈ lw_tbl := az_t (i := 1469) (by decide +kernel)
theorem wse_X4_deep : Cond.selects RX4 yX4_deep yX4_deep ∈ lw_tbl := az_tp (i := 26) (by decide +kernel)
theorem Y_X4_deep : az_Y yX4_deep cX4_deep 2 (Option.some FieldType.int) 1 := ⟨wc_X4_deep, wini_X4, by decide +kernel, by decide +kernel⟩
theorem wc_X4_floats : Cond.code yX4_floats cX4_floats 2 (Option.some FieldType.boolean) ∈ lw_tbl := az_t (i := 1478) (by decide +kernel)
theorem wi_X4_floats : Cond.instanceMethod yX4_floats ∈ lw_tbl := az_t (i := 1477) (by decide +kernel)
theorem wse_X4_floats : Cond.selects RX4 yX4_floats yX4_floats ∈ lw_tbl := az_tp (i := 27) (by decide +kernel)
theorem Y_X4_floats : az_Y yX4_floats cX4_floats 2 (Option.some FieldType.boolean) 1 := ⟨wc_X4_floats, wini_X4, by decide +kernel, by decide +kernel⟩
theorem wm_X4_158 : Cond.methodLink RX4 158 yX4_deep ∈ lw_tbl := az_t (i := 1467) (by decide +kernel)
theorem wc_X4_addBarge : Cond.code yX4_addBarge cX4_addBarge 5 (Option.some FieldType.int) ∈ lw_tbl := az_t (i := 1446) (by decide +kernel)
theorem wi_X4_addBarge : Cond.instanceMethod yX4_addBarge ∈ lw_tbl := az_t (i := 1444) (by decide +kernel)
theorem wse_X4_addBarge : Cond.selects RX4 yX4_addBarge yX4_addBarge ∈ lw_tbl := az_t (i := 1445) (by decide +kernel)
theorem Y_X4_addBarge : az_Y yX4_addBarge cX4_addBarge 5 (Option.some FieldType.int) 4 := ⟨wc_X4_addBarge, wini_X4, by decide +kernel, by decide +kernel⟩
theorem wc_X4_bargeCount : Cond.code yX4_bargeCount cX4_bargeCount 1 (Option.some FieldType.int) ∈ lw_tbl := az_t (i := 1450) (by decide +kernel)
theorem wi_X4_bargeCount : Cond.instanceMethod yX4_bargeCount ∈ lw_tbl := az_t (i := 1448) (by decide +kernel)
theorem wse_X4_bargeCount : Cond.selects RX4 yX4_bargeCount yX4_bargeCount ∈ lw_tbl := az_t (i := 1449) (by decide +kernel)
theorem Y_X4_bargeCount : az_Y yX4_bargeCount cX4_bargeCount 1 (Option.some FieldType.int) 0 := ⟨wc_X4_bargeCount, wini_X4, by decide +kernel, by decide +kernel⟩
theorem wc_X4_reachOf : Cond.code yX4_reachOf cX4_reachOf 2 (Option.some FieldType.int) ∈ lw_tbl := az_t (i := 1454) (by decide +kernel)
theorem wi_X4_reachOf : Cond.instanceMethod yX4_reachOf ∈ lw_tbl := az_t (i := 1452) (by decide +kernel)
theorem wse_X4_reachOf : Cond.selects RX4 yX4_reachOf yX4_reachOf ∈ lw_tbl := az_t (i := 1453) (by decide +kernel)
theorem Y_X4_reachOf : az_Y yX4_reachOf cX4_reachOf 2 (Option.some FieldType.int) 1 := ⟨wc_X4_reachOf, wini_X4, by decide +kernel, by decide +kernel⟩
theorem wm_X4_161 : Cond.methodLink RX4 161 yX4_isBarge ∈ lw_tbl := az_t (i := 1455) (by decide +kernel)
theorem wc_X4_cargoOf : Cond.code yX4_cargoOf cX4_cargoOf 2 (Option.some FieldType.int) ∈ lw_tbl := az_t (i := 1462) (by decide +kernel)
theorem wi_X4_cargoOf : Cond.instanceMethod yX4_cargoOf ∈ lw_tbl := az_t (i := 1460) (by decide +kernel)
theorem wse_X4_cargoOf : Cond.selects RX4 yX4_cargoOf yX4_cargoOf ∈ lw_tbl := az_t (i := 1461) (by decide +kernel)
theorem Y_X4_cargoOf : az_Y yX4_cargoOf cX4_cargoOf 2 (Option.some FieldType.int) 1 := ⟨wc_X4_cargoOf, wini_X4, by decide +kernel, by decide +kernel⟩
theorem wc_X4_draughtOf : Cond.code yX4_draughtOf cX4_draughtOf 2 (Option.some FieldType.int) ∈ lw_tbl := az_t (i := 1466) (by decide +kernel)
theorem wi_X4_draughtOf : Cond.instanceMethod yX4_draughtOf ∈ lw_tbl := az_t (i := 1464) (by decide +kernel)
theorem wse_X4_draughtOf : Cond.selects RX4 yX4_draughtOf yX4_draughtOf ∈ lw_tbl := az_t (i := 1465) (by decide +kernel)
theorem Y_X4_draughtOf : az_Y yX4_draughtOf cX4_draughtOf 2 (Option.some FieldType.int) 1 := ⟨wc_X4_draughtOf, wini_X4, by decide +kernel, by decide +kernel⟩
theorem wc_X4_isAfloat : Cond.code yX4_isAfloat cX4_isAfloat 2 (Option.some FieldType.boolean) ∈ lw_tbl := az_t (i := 1474) (by decide +kernel)
theorem wi_X4_isAfloat : Cond.instanceMethod yX4_isAfloat ∈ lw_tbl := az_t (i := 1472) (by decide +kernel)
theorem wse_X4_isAfloat : Cond.selects RX4 yX4_isAfloat yX4_isAfloat ∈ lw_tbl := az_t (i := 1473) (by decide +kernel)
theorem Y_X4_isAfloat : az_Y yX4_isAfloat cX4_isAfloat 2 (Option.some FieldType.boolean) 1 := ⟨wc_X4_isAfloat, wini_X4, by decide +kernel, by decide +kernel⟩
theorem wm_X4_164 : Cond.methodLink RX4 164 yX4_floats ∈ lw_tbl := az_t (i := 1475) (by decide +kernel)
theorem wc_X4_first : Cond.code yX4_first cX4_first 3 (Option.some FieldType.int) ∈ lw_tbl := az_t (i := 1486) (by decide +kernel)
theorem wi_X4_first : Cond.instanceMethod yX4_first ∈ lw_tbl := az_t (i := 1485) (by decide +kernel)
theorem wse_X4_first : Cond.selects RX4 yX4_first yX4_first ∈ lw_tbl := az_tp (i := 28) (by decide +kernel)
theorem Y_X4_first : az_Y yX4_first cX4_first 3 (Option.some FieldType.int) 1 := ⟨wc_X4_first, wini_X4, by decide +kernel, by decide +kernel⟩
theorem wc_X4_size : Cond.code yX4_size cX4_size 4 (Option.some FieldType.int) ∈ lw_tbl := az_t (i := 1490) (by decide +kernel)
theorem wi_X4_size : Cond.instanceMethod yX4_size ∈ lw_tbl := az_t (i := 1489) (by decide +kernel)
theorem wse_X4_size : Cond.selects RX4 yX4_size yX4_size ∈ lw_tbl := az_tp (i := 29) (by decide +kernel)
theorem Y_X4_size : az_Y yX4_size cX4_size 4 (Option.some FieldType.int) 1 := ⟨wc_X4_size, wini_X4, by decide +kernel, by decide +kernel⟩
theorem wm_X4_167 : Cond.methodLink RX4 167 yX4_first ∈ lw_tbl := az_t (i := 1483) (by decide +kernel)
theorem wc_X4_couple : Cond.code yX4_couple cX4_couple 5 (Option.some FieldType.int) ∈ lw_tbl := az_t (i := 1482) (by decide +kernel)
theorem wi_X4_couple : Cond.instanceMethod yX4_couple ∈ lw_tbl := az_t (i := 1480) (by decide +kernel)
theorem wse_X4_couple : Cond.selects RX4 yX4_couple yX4_couple ∈ lw_tbl := az_t (i := 1481) (by decide +kernel)
theorem Y_X4_couple : az_Y yX4_couple cX4_couple 5 (Option.some FieldType.int) 2 := ⟨wc_X4_couple, wini_X4, by decide +kernel, by decide +kernel⟩
theorem wm_X4_170 : Cond.methodLink RX4 170 yX4_size ∈ lw_tbl := az_t (i := 1487) (by decide +kernel)
theorem wc_X4_uncouple : Cond.code yX4_uncouple cX4_uncouple 3 (Option.some FieldType.int) ∈ lw_tbl := az_t (i := 1494) (by decide +kernel)
theorem wi_X4_uncouple : Cond.instanceMethod yX4_uncouple ∈ lw_tbl := az_t (i := 1492) (by decide +kernel)
theorem wse_X4_uncouple : Cond.selects RX4 yX4_uncouple yX4_uncouple ∈ lw_tbl := az_t (i := 1493) (by decide +kernel)
theorem Y_X4_uncouple : az_Y yX4_uncouple cX4_uncouple 3 (Option.some FieldType.int) 1 := ⟨wc_X4_uncouple, wini_X4, by decide +kernel, by decide +kernel⟩
theorem wc_X4_convoySize : Cond.code yX4_convoySize cX4_convoySize 2 (Option.some FieldType.int) ∈ lw_tbl := az_t (i := 1498) (by decide +kernel)
theorem wi_X4_convoySize : Cond.instanceMethod yX4_convoySize ∈ lw_tbl := az_t (i := 1496) (by decide +kernel)
theorem wse_X4_convoySize : Cond.selects RX4 yX4_convoySize yX4_convoySize ∈ lw_tbl := az_t (i := 1497) (by decide +kernel)
theorem Y_X4_convoySize : az_Y yX4_convoySize cX4_convoySize 2 (Option.some FieldType.int) 1 := ⟨wc_X4_convoySize, wini_X4, by decide +kernel, by decide +kernel⟩
theorem wc_X4_convoyAt : Cond.code yX4_convoyAt cX4_convoyAt 5 (Option.some FieldType.int) ∈ lw_tbl := az_t (i := 1502) (by decide +kernel)
theorem wi_X4_convoyAt : Cond.instanceMethod yX4_convoyAt ∈ lw_tbl := az_t (i := 1500) (by decide +kernel)
theorem wse_X4_convoyAt : Cond.selects RX4 yX4_convoyAt yX4_convoyAt ∈ lw_tbl := az_t (i := 1501) (by decide +kernel)
theorem Y_X4_convoyAt : az_Y yX4_convoyAt cX4_convoyAt 5 (Option.some FieldType.int) 2 := ⟨wc_X4_convoyAt, wini_X4, by decide +kernel, by decide +kernel⟩
theorem wc_X4_isTooLong : Cond.code yX4_isTooLong cX4_isTooLong 5 (Option.some FieldType.boolean) ∈ lw_tbl := az_t (i := 1510) (by decide +kernel)
theorem wi_X4_isTooLong : Cond.instanceMethod yX4_isTooLong ∈ lw_tbl := az_t (i := 1509) (by decide +kernel)
theorem wse_X4_isTooLong : Cond.selects RX4 yX4_isTooLong yX4_isTooLong ∈ lw_tbl := az_tp (i := 30) (by decide +kernel)
theorem Y_X4_isTooLong : az_Y yX4_isTooLong cX4_isTooLong 5 (Option.some FieldType.boolean) 2 := ⟨wc_X4_isTooLong, wini_X4, by decide +kernel, by decide +kernel⟩
theorem wc_X4_endOfPart : Cond.code yX4_endOfPart cX4_endOfPart 5 (Option.some FieldType.int) ∈ lw_tbl := az_t (i := 1514) (by decide +kernel)
theorem wi_X4_endOfPart : Cond.instanceMethod yX4_endOfPart ∈ lw_tbl := az_t (i := 1513) (by decide +kernel)
theorem wse_X4_endOfPart : Cond.selects RX4 yX4_endOfPart yX4_endOfPart ∈ lw_tbl := az_tp (i := 31) (by decide +kernel)
theorem Y_X4_endOfPart : az_Y yX4_endOfPart cX4_endOfPart 5 (Option.some FieldType.int) 2 := ⟨wc_X4_endOfPart, wini_X4, by decide +kernel, by decide +kernel⟩
theorem wc_X4_partsFor : Cond.code yX4_partsFor cX4_partsFor 5 (Option.some FieldType.int) ∈ lw_tbl := az_t (i := 1506) (by decide +kernel)
theorem wi_X4_partsFor : Cond.instanceMethod yX4_partsFor ∈ lw_tbl := az_t (i := 1504) (by decide +kernel)
theorem wse_X4_partsFor : Cond.selects RX4 yX4_partsFor yX4_partsFor ∈ lw_tbl := az_t (i := 1505) (by decide +kernel)
theorem Y_X4_partsFor : az_Y yX4_partsFor cX4_partsFor 5 (Option.some FieldType.int) 2 := ⟨wc_X4_partsFor, wini_X4, by decide +kernel, by decide +kernel⟩
theorem wm_X4_173 : Cond.methodLink RX4 173 yX4_isTooLong ∈ lw_tbl := az_t (i := 1507) (by decide +kernel)
theorem wm_X4_177 : Cond.methodLink RX4 177 yX4_endOfPart ∈ lw_tbl := az_t (i := 1511) (by decide +kernel)
theorem wc_X4_keeps : Cond.code yX4_keeps cX4_keeps 2 (Option.none : Option FieldType) ∈ lw_tbl := az_t (i := 1522) (by decide +kernel)
theorem wi_X4_keeps : Cond.instanceMethod yX4_keeps ∈ lw_tbl := az_t (i := 1521) (by decide +kernel)
theorem wse_X4_keeps : Cond.selects RX4 yX4_keeps yX4_keeps ∈ lw_tbl := az_tp (i := 32) (by decide +kernel)
theorem Y_X4_keeps : az_Y yX4_keeps cX4_keeps 2 (Option.none : Option FieldType) 0 := ⟨wc_X4_keeps, wini_X4, by decide +kernel, by decide +kernel⟩
theorem wl_X4_181 : Cond.fieldLink RX4 181 "BargeRiverModel" "wasSea" "I" ∈ lw_tbl := az_t (i := 1245) (by decide +kernel)
theorem wl_X4_184 : Cond.fieldLink RX4 184 "BargeRiverModel" "wasMoves" "I" ∈ lw_tbl := az_t (i := 1246) (by decide +kernel)
theorem wc_X4_takesBack : Cond.code yX4_takesBack cX4_takesBack 2 (Option.none : Option FieldType) ∈ lw_tbl := az_t (i := 1542) (by decide +kernel)
theorem wi_X4_takesBack : Cond.instanceMethod yX4_takesBack ∈ lw_tbl := az_t (i := 1541) (by decide +kernel)
theorem wse_X4_takesBack : Cond.selects RX4 yX4_takesBack yX4_takesBack ∈ lw_tbl := az_tp (i := 37) (by decide +kernel)
theorem Y_X4_takesBack : az_Y yX4_takesBack cX4_takesBack 2 (Option.none : Option FieldType) 0 := ⟨wc_X4_takesBack, wini_X4, by decide +kernel, by decide +kernel⟩
theorem wc_X4_refuses : Cond.code yX4_refuses cX4_refuses 3 (Option.some FieldType.int) ∈ lw_tbl := az_t (i := 1530) (by decide +kernel)
theorem wi_X4_refuses : Cond.instanceMethod yX4_refuses ∈ lw_tbl := az_t (i := 1529) (by decide +kernel)
theorem wse_X4_refuses : Cond.selects RX4 yX4_refuses yX4_refuses ∈ lw_tbl := az_tp (i := 34) (by decide +kernel)
theorem Y_X4_refuses : az_Y yX4_refuses cX4_refuses 3 (Option.some FieldType.int) 2 := ⟨wc_X4_refuses, wini_X4, by decide +kernel, by decide +kernel⟩
theorem wl_X4_187 : Cond.fieldLink RX4 187 "BargeRiverModel" "why" "I" ∈ lw_tbl := az_t (i := 1237) (by decide +kernel)
theorem wl_X4_190 : Cond.fieldLink RX4 190 "BargeRiverModel" "whyLock" "I" ∈ lw_tbl := az_t (i := 1238) (by decide +kernel)
theorem wc_X4_locks : Cond.code yX4_locks cX4_locks 6 (Option.some FieldType.int) ∈ lw_tbl := az_t (i := 1534) (by decide +kernel)
theorem wi_X4_locks : Cond.instanceMethod yX4_locks ∈ lw_tbl := az_t (i := 1533) (by decide +kernel)
theorem wse_X4_locks : Cond.selects RX4 yX4_locks yX4_locks ∈ lw_tbl := az_tp (i := 35) (by decide +kernel)
theorem Y_X4_locks : az_Y yX4_locks cX4_locks 6 (Option.some FieldType.int) 4 := ⟨wc_X4_locks, wini_X4, by decide +kernel, by decide +kernel⟩
theorem wc_X4_passes : Cond.code yX4_passes cX4_passes 7 (Option.some FieldType.int) ∈ lw_tbl := az_t (i := 1526) (by decide +kernel)
theorem wi_X4_passes : Cond.instanceMethod yX4_passes ∈ lw_tbl := az_t (i := 1525) (by decide +kernel)
theorem wse_X4_passes : Cond.selects RX4 yX4_passes yX4_passes ∈ lw_tbl := az_tp (i := 33) (by decide +kernel)
theorem Y_X4_passes : az_Y yX4_passes cX4_passes 7 (Option.some FieldType.int) 2 := ⟨wc_X4_passes, wini_X4, by decide +kernel, by decide +kernel⟩
theorem wm_X4_193 : Cond.methodLink RX4 193 yX4_refuses ∈ lw_tbl := az_t (i := 1527) (by decide +kernel)
theorem wm_X4_196 : Cond.methodLink RX4 196 yX4_locks ∈ lw_tbl := az_t (i := 1531) (by decide +kernel)
theorem wc_X4_sails : Cond.code yX4_sails cX4_sails 5 (Option.some FieldType.int) ∈ lw_tbl := az_t (i := 1550) (by decide +kernel)
theorem wi_X4_sails : Cond.instanceMethod yX4_sails ∈ lw_tbl := az_t (i := 1549) (by decide +kernel)
theorem wse_X4_sails : Cond.selects RX4 yX4_sails yX4_sails ∈ lw_tbl := az_tp (i := 38) (by decide +kernel)
theorem Y_X4_sails : az_Y yX4_sails cX4_sails 5 (Option.some FieldType.int) 2 := ⟨wc_X4_sails, wini_X4, by decide +kernel, by decide +kernel⟩
theorem wm_X4_200 : Cond.methodLink RX4 200 yX4_passes ∈ lw_tbl := az_t (i := 1523) (by decide +kernel)
theorem wc_X4_ends : Cond.code yX4_ends cX4_ends 3 (Option.some FieldType.int) ∈ lw_tbl := az_t (i := 1538) (by decide +kernel)
theorem wi_X4_ends : Cond.instanceMethod yX4_ends ∈ lw_tbl := az_t (i := 1537) (by decide +kernel)
theorem wse_X4_ends : Cond.selects RX4 yX4_ends yX4_ends ∈ lw_tbl := az_tp (i := 36) (by decide +kernel)
theorem Y_X4_ends : az_Y yX4_ends cX4_ends 3 (Option.some FieldType.int) 2 := ⟨wc_X4_ends, wini_X4, by decide +kernel, by decide +kernel⟩
theorem wm_X4_204 : Cond.methodLink RX4 204 yX4_takesBack ∈ lw_tbl := az_t (i := 1539) (by decide +kernel)
theorem wl_X4_207 : Cond.fieldLink RX4 207 "BargeRiverModel" "reason" "I" ∈ lw_tbl := az_t (i := 1239) (by decide +kernel)
theorem wl_X4_210 : Cond.fieldLink RX4 210 "BargeRiverModel" "reasonLock" "I" ∈ lw_tbl := az_t (i := 1240) (by decide +kernel)
theorem wc_X4_pass : Cond.code yX4_pass cX4_pass 3 (Option.some FieldType.int) ∈ lw_tbl := az_t (i := 1518) (by decide +kernel)
theorem wi_X4_pass : Cond.instanceMethod yX4_pass ∈ lw_tbl := az_t (i := 1516) (by decide +kernel)
theorem wse_X4_pass : Cond.selects RX4 yX4_pass yX4_pass ∈ lw_tbl := az_t (i := 1517) (by decide +kernel)
theorem Y_X4_pass : az_Y yX4_pass cX4_pass 3 (Option.some FieldType.int) 2 := ⟨wc_X4_pass, wini_X4, by decide +kernel, by decide +kernel⟩
theorem wm_X4_213 : Cond.methodLink RX4 213 yX4_keeps ∈ lw_tbl := az_t (i := 1519) (by decide +kernel)
theorem wm_X4_216 : Cond.methodLink RX4 216 yX4_ends ∈ lw_tbl := az_t (i := 1535) (by decide +kernel)
theorem wc_X4_voyage : Cond.code yX4_voyage cX4_voyage 3 (Option.some FieldType.int) ∈ lw_tbl := az_t (i := 1546) (by decide +kernel)
theorem wi_X4_voyage : Cond.instanceMethod yX4_voyage ∈ lw_tbl := az_t (i := 1544) (by decide +kernel)
theorem wse_X4_voyage : Cond.selects RX4 yX4_voyage yX4_voyage ∈ lw_tbl := az_t (i := 1545) (by decide +kernel)
theorem Y_X4_voyage : az_Y yX4_voyage cX4_voyage 3 (Option.some FieldType.int) 2 := ⟨wc_X4_voyage, wini_X4, by decide +kernel, by decide +kernel⟩
theorem wm_X4_219 : Cond.methodLink RX4 219 yX4_sails ∈ lw_tbl := az_t (i := 1547) (by decide +kernel)
theorem wc_X4_can : Cond.code yX4_can cX4_can 4 (Option.some FieldType.boolean) ∈ lw_tbl := az_t (i := 1558) (by decide +kernel)
theorem wi_X4_can : Cond.instanceMethod yX4_can ∈ lw_tbl := az_t (i := 1557) (by decide +kernel)
theorem wse_X4_can : Cond.selects RX4 yX4_can yX4_can ∈ lw_tbl := az_tp (i := 39) (by decide +kernel)
theorem Y_X4_can : az_Y yX4_can cX4_can 4 (Option.some FieldType.boolean) 2 := ⟨wc_X4_can, wini_X4, by decide +kernel, by decide +kernel⟩
theorem wc_X4_isPossible : Cond.code yX4_isPossible cX4_isPossible 4 (Option.some FieldType.boolean) ∈ lw_tbl := az_t (i := 1554) (by decide +kernel)
theorem wi_X4_isPossible : Cond.instanceMethod yX4_isPossible ∈ lw_tbl := az_t (i := 1552) (by decide +kernel)
theorem wse_X4_isPossible : Cond.selects RX4 yX4_isPossible yX4_isPossible ∈ lw_tbl := az_t (i := 1553) (by decide +kernel)
theorem Y_X4_isPossible : az_Y yX4_isPossible cX4_isPossible 4 (Option.some FieldType.boolean) 2 := ⟨wc_X4_isPossible, wini_X4, by decide +kernel, by decide +kernel⟩
theorem wm_X4_222 : Cond.methodLink RX4 222 yX4_can ∈ lw_tbl := az_t (i := 1555) (by decide +kernel)
theorem wc_X4_allThrough : Cond.code yX4_allThrough cX4_allThrough 3 (Option.some FieldType.int) ∈ lw_tbl := az_t (i := 1566) (by decide +kernel)
theorem wi_X4_allThrough : Cond.instanceMethod yX4_allThrough ∈ lw_tbl := az_t (i := 1565) (by decide +kernel)
theorem wse_X4_allThrough : Cond.selects RX4 yX4_allThrough yX4_allThrough ∈ lw_tbl := az_tp (i := 40) (by decide +kernel)
theorem Y_X4_allThrough : az_Y yX4_allThrough cX4_allThrough 3 (Option.some FieldType.int) 0 := ⟨wc_X4_allThrough, wini_X4, by decide +kernel, by decide +kernel⟩
theorem wc_X4_waterFor : Cond.code yX4_waterFor cX4_waterFor 7 (Option.some FieldType.int) ∈ lw_tbl := az_t (i := 1562) (by decide +kernel)
theorem wi_X4_waterFor : Cond.instanceMethod yX4_waterFor ∈ lw_tbl := az_t (i := 1560) (by decide +kernel)
theorem wse_X4_waterFor : Cond.selects RX4 yX4_waterFor yX4_waterFor ∈ lw_tbl := az_t (i := 1561) (by decide +kernel)
theorem Y_X4_waterFor : az_Y yX4_waterFor cX4_waterFor 7 (Option.some FieldType.int) 2 := ⟨wc_X4_waterFor, wini_X4, by decide +kernel, by decide +kernel⟩
theorem wm_X4_225 : Cond.methodLink RX4 225 yX4_allThrough ∈ lw_tbl := az_t (i := 1563) (by decide +kernel)
theorem wc_X4_refusalReason : Cond.code yX4_refusalReason cX4_refusalReason 1 (Option.some FieldType.int) ∈ lw_tbl := az_t (i := 1570) (by decide +kernel)
theorem wi_X4_refusalReason : Cond.instanceMethod yX4_refusalReason ∈ lw_tbl := az_t (i := 1568) (by decide +kernel)
theorem wse_X4_refusalReason : Cond.selects RX4 yX4_refusalReason yX4_refusalReason ∈ lw_tbl := az_t (i := 1569) (by decide +kernel)
theorem Y_X4_refusalReason : az_Y yX4_refusalReason cX4_refusalReason 1 (Option.some FieldType.int) 0 := ⟨wc_X4_refusalReason, wini_X4, by decide +kernel, by decide +kernel⟩
theorem wc_X4_refusalLock : Cond.code yX4_refusalLock cX4_refusalLock 1 (Option.some FieldType.int) ∈ lw_tbl := az_t (i := 1574) (by decide +kernel)
theorem wi_X4_refusalLock : Cond.instanceMethod yX4_refusalLock ∈ lw_tbl := az_t (i := 1572) (by decide +kernel)
theorem wse_X4_refusalLock : Cond.selects RX4 yX4_refusalLock yX4_refusalLock ∈ lw_tbl := az_t (i := 1573) (by decide +kernel)
theorem Y_X4_refusalLock : az_Y yX4_refusalLock cX4_refusalLock 1 (Option.some FieldType.int) 0 := ⟨wc_X4_refusalLock, wini_X4, by decide +kernel, by decide +kernel⟩
theorem wc_X4_priceIn : Cond.code yX4_priceIn cX4_priceIn 2 (Option.some FieldType.int) ∈ lw_tbl := az_t (i := 1578) (by decide +kernel)
theorem wi_X4_priceIn : Cond.instanceMethod yX4_priceIn ∈ lw_tbl := az_t (i := 1576) (by decide +kernel)
theorem wse_X4_priceIn : Cond.selects RX4 yX4_priceIn yX4_priceIn ∈ lw_tbl := az_t (i := 1577) (by decide +kernel)
theorem Y_X4_priceIn : az_Y yX4_priceIn cX4_priceIn 2 (Option.some FieldType.int) 1 := ⟨wc_X4_priceIn, wini_X4, by decide +kernel, by decide +kernel⟩
theorem wc_X4_money : Cond.code yX4_money cX4_money 1 (Option.some FieldType.long) ∈ lw_tbl := az_t (i := 1582) (by decide +kernel)
theorem wi_X4_money : Cond.instanceMethod yX4_money ∈ lw_tbl := az_t (i := 1580) (by decide +kernel)
theorem wse_X4_money : Cond.selects RX4 yX4_money yX4_money ∈ lw_tbl := az_t (i := 1581) (by decide +kernel)
theorem Y_X4_money : az_Y yX4_money cX4_money 1 (Option.some FieldType.long) 0 := ⟨wc_X4_money, wini_X4, by decide +kernel, by decide +kernel⟩
theorem wc_X4_has : Cond.code yX4_has cX4_has 2 (Option.some FieldType.long) ∈ lw_tbl := az_t (i := 1590) (by decide +kernel)
theorem wi_X4_has : Cond.instanceMethod yX4_has ∈ lw_tbl := az_t (i := 1589) (by decide +kernel)
theorem wse_X4_has : Cond.selects RX4 yX4_has yX4_has ∈ lw_tbl := az_tp (i := 41) (by decide +kernel)
theorem Y_X4_has : az_Y yX4_has cX4_has 2 (Option.some FieldType.long) 1 := ⟨wc_X4_has, wini_X4, by decide +kernel, by decide +kernel⟩
theorem wc_X4_buy : Cond.code yX4_buy cX4_buy 6 (Option.some FieldType.long) ∈ lw_tbl := az_t (i := 1586) (by decide +kernel)
theorem wi_X4_buy : Cond.instanceMethod yX4_buy ∈ lw_tbl := az_t (i := 1584) (by decide +kernel)
theorem wse_X4_buy : Cond.selects RX4 yX4_buy yX4_buy ∈ lw_tbl := az_t (i := 1585) (by decide +kernel)
theorem Y_X4_buy : az_Y yX4_buy cX4_buy 6 (Option.some FieldType.long) 2 := ⟨wc_X4_buy, wini_X4, by decide +kernel, by decide +kernel⟩
theorem wm_X4_229 : Cond.methodLink RX4 229 yX4_has ∈ lw_tbl := az_t (i := 1587) (by decide +kernel)
theorem wc_X4_sells : Cond.code yX4_sells cX4_sells 3 (Option.none : Option FieldType) ∈ lw_tbl := az_t (i := 1598) (by decide +kernel)
theorem wi_X4_sells : Cond.instanceMethod yX4_sells ∈ lw_tbl := az_t (i := 1597) (by decide +kernel)
theorem wse_X4_sells : Cond.selects RX4 yX4_sells yX4_sells ∈ lw_tbl := az_tp (i := 42) (by decide +kernel)
theorem Y_X4_sells : az_Y yX4_sells cX4_sells 3 (Option.none : Option FieldType) 2 := ⟨wc_X4_sells, wini_X4, by decide +kernel, by decide +kernel⟩
theorem wc_X4_sell : Cond.code yX4_sell cX4_sell 3 (Option.some FieldType.long) ∈ lw_tbl := az_t (i := 1594) (by decide +kernel)
theorem wi_X4_sell : Cond.instanceMethod yX4_sell ∈ lw_tbl := az_t (i := 1592) (by decide +kernel)
theorem wse_X4_sell : Cond.selects RX4 yX4_sell yX4_sell ∈ lw_tbl := az_t (i := 1593) (by decide +kernel)
theorem Y_X4_sell : az_Y yX4_sell cX4_sell 3 (Option.some FieldType.long) 2 := ⟨wc_X4_sell, wini_X4, by decide +kernel, by decide +kernel⟩
theorem wm_X4_233 : Cond.methodLink RX4 233 yX4_sells ∈ lw_tbl := az_t (i := 1595) (by decide +kernel)
theorem wc_X4_sellToDraught : Cond.code yX4_sellToDraught cX4_sellToDraught 4 (Option.some FieldType.int) ∈ lw_tbl := az_t (i := 1602) (by decide +kernel)
theorem wi_X4_sellToDraught : Cond.instanceMethod yX4_sellToDraught ∈ lw_tbl := az_t (i := 1600) (by decide +kernel)
theorem wse_X4_sellToDraught : Cond.selects RX4 yX4_sellToDraught yX4_sellToDraught ∈ lw_tbl := az_t (i := 1601) (by decide +kernel)
theorem Y_X4_sellToDraught : az_Y yX4_sellToDraught cX4_sellToDraught 4 (Option.some FieldType.int) 2 := ⟨wc_X4_sellToDraught, wini_X4, by decide +kernel, by decide +kernel⟩
theorem wc_X4_greatestLoad : Cond.code yX4_greatestLoad cX4_greatestLoad 3 (Option.some FieldType.int) ∈ lw_tbl := az_t (i := 1606) (by decide +kernel)
theorem wi_X4_greatestLoad : Cond.instanceMethod yX4_greatestLoad ∈ lw_tbl := az_t (i := 1604) (by decide +kernel)
theorem wse_X4_greatestLoad : Cond.selects RX4 yX4_greatestLoad yX4_greatestLoad ∈ lw_tbl := az_t (i := 1605) (by decide +kernel)
theorem Y_X4_greatestLoad : az_Y yX4_greatestLoad cX4_greatestLoad 3 (Option.some FieldType.int) 1 := ⟨wc_X4_greatestLoad, wini_X4, by decide +kernel, by decide +kernel⟩
theorem wc_X4_worthIn : Cond.code yX4_worthIn cX4_worthIn 3 (Option.some FieldType.int) ∈ lw_tbl := az_t (i := 1610) (by decide +kernel)
theorem wi_X4_worthIn : Cond.instanceMethod yX4_worthIn ∈ lw_tbl := az_t (i := 1608) (by decide +kernel)
theorem wse_X4_worthIn : Cond.selects RX4 yX4_worthIn yX4_worthIn ∈ lw_tbl := az_t (i := 1609) (by decide +kernel)
theorem Y_X4_worthIn : az_Y yX4_worthIn cX4_worthIn 3 (Option.some FieldType.int) 2 := ⟨wc_X4_worthIn, wini_X4, by decide +kernel, by decide +kernel⟩
theorem wc_X4_bestReach : Cond.code yX4_bestReach cX4_bestReach 4 (Option.some FieldType.int) ∈ lw_tbl := az_t (i := 1614) (by decide +kernel)
theorem wi_X4_bestReach : Cond.instanceMethod yX4_bestReach ∈ lw_tbl := az_t (i := 1612) (by decide +kernel)
theorem wse_X4_bestReach : Cond.selects RX4 yX4_bestReach yX4_bestReach ∈ lw_tbl := az_t (i := 1613) (by decide +kernel)
theorem Y_X4_bestReach : az_Y yX4_bestReach cX4_bestReach 4 (Option.some FieldType.int) 1 := ⟨wc_X4_bestReach, wini_X4, by decide +kernel, by decide +kernel⟩
theorem wc_X4_cameTotal : Cond.code yX4_cameTotal cX4_cameTotal 1 (Option.some FieldType.int) ∈ lw_tbl := az_t (i := 1618) (by decide +kernel)
theorem wi_X4_cameTotal : Cond.instanceMethod yX4_cameTotal ∈ lw_tbl := az_t (i := 1616) (by decide +kernel)
theorem wse_X4_cameTotal : Cond.selects RX4 yX4_cameTotal yX4_cameTotal ∈ lw_tbl := az_t (i := 1617) (by decide +kernel)
theorem Y_X4_cameTotal : az_Y yX4_cameTotal cX4_cameTotal 1 (Option.some FieldType.int) 0 := ⟨wc_X4_cameTotal, wini_X4, by decide +kernel, by decide +kernel⟩
theorem wc_X4_seaTotal : Cond.code yX4_seaTotal cX4_seaTotal 1 (Option.some FieldType.int) ∈ lw_tbl := az_t (i := 1622) (by decide +kernel)
theorem wi_X4_seaTotal : Cond.instanceMethod yX4_seaTotal ∈ lw_tbl := az_t (i := 1620) (by decide +kernel)
theorem wse_X4_seaTotal : Cond.selects RX4 yX4_seaTotal yX4_seaTotal ∈ lw_tbl := az_t (i := 1621) (by decide +kernel)
theorem Y_X4_seaTotal : az_Y yX4_seaTotal cX4_seaTotal 1 (Option.some FieldType.int) 0 := ⟨wc_X4_seaTotal, wini_X4, by decide +kernel, by decide +kernel⟩
theorem wc_X4_airTotal : Cond.code yX4_airTotal cX4_airTotal 1 (Option.some FieldType.int) ∈ lw_tbl := az_t (i := 1626) (by decide +kernel)
theorem wi_X4_airTotal : Cond.instanceMethod yX4_airTotal ∈ lw_tbl := az_t (i := 1624) (by decide +kernel)
theorem wse_X4_airTotal : Cond.selects RX4 yX4_airTotal yX4_airTotal ∈ lw_tbl := az_t (i := 1625) (by decide +kernel)
theorem Y_X4_airTotal : az_Y yX4_airTotal cX4_airTotal 1 (Option.some FieldType.int) 0 := ⟨wc_X4_airTotal, wini_X4, by decide +kernel, by decide +kernel⟩
theorem wc_X4_held : Cond.code yX4_held cX4_held 3 (Option.some FieldType.int) ∈ lw_tbl := az_t (i := 1634) (by decide +kernel)
theorem wi_X4_held : Cond.instanceMethod yX4_held ∈ lw_tbl := az_t (i := 1633) (by decide +kernel)
theorem wse_X4_held : Cond.selects RX4 yX4_held yX4_held ∈ lw_tbl := az_tp (i := 43) (by decide +kernel)
theorem Y_X4_held : az_Y yX4_held cX4_held 3 (Option.some FieldType.int) 0 := ⟨wc_X4_held, wini_X4, by decide +kernel, by decide +kernel⟩
theorem wc_X4_heldTotal : Cond.code yX4_heldTotal cX4_heldTotal 1 (Option.some FieldType.int) ∈ lw_tbl := az_t (i := 1630) (by decide +kernel)
theorem wi_X4_heldTotal : Cond.instanceMethod yX4_heldTotal ∈ lw_tbl := az_t (i := 1628) (by decide +kernel)
theorem wse_X4_heldTotal : Cond.selects RX4 yX4_heldTotal yX4_heldTotal ∈ lw_tbl := az_t (i := 1629) (by decide +kernel)
theorem Y_X4_heldTotal : az_Y yX4_heldTotal cX4_heldTotal 1 (Option.some FieldType.int) 0 := ⟨wc_X4_heldTotal, wini_X4, by decide +kernel, by decide +kernel⟩
theorem wm_X4_237 : Cond.methodLink RX4 237 yX4_held ∈ lw_tbl := az_t (i := 1631) (by decide +kernel)
theorem wc_X4_movementCount : Cond.code yX4_movementCount cX4_movementCount 1 (Option.some FieldType.int) ∈ lw_tbl := az_t (i := 1638) (by decide +kernel)
theorem wi_X4_movementCount : Cond.instanceMethod yX4_movementCount ∈ lw_tbl := az_t (i := 1636) (by decide +kernel)
theorem wse_X4_movementCount : Cond.selects RX4 yX4_movementCount yX4_movementCount ∈ lw_tbl := az_t (i := 1637) (by decide +kernel)
theorem Y_X4_movementCount : az_Y yX4_movementCount cX4_movementCount 1 (Option.some FieldType.int) 0 := ⟨wc_X4_movementCount, wini_X4, by decide +kernel, by decide +kernel⟩
theorem wc_X4_movementFrom : Cond.code yX4_movementFrom cX4_movementFrom 2 (Option.some FieldType.int) ∈ lw_tbl := az_t (i := 1642) (by decide +kernel)
theorem wi_X4_movementFrom : Cond.instanceMethod yX4_movementFrom ∈ lw_tbl := az_t (i := 1640) (by decide +kernel)
theorem wse_X4_movementFrom : Cond.selects RX4 yX4_movementFrom yX4_movementFrom ∈ lw_tbl := az_t (i := 1641) (by decide +kernel)
theorem Y_X4_movementFrom : az_Y yX4_movementFrom cX4_movementFrom 2 (Option.some FieldType.int) 1 := ⟨wc_X4_movementFrom, wini_X4, by decide +kernel, by decide +kernel⟩
theorem wc_X4_movementTo : Cond.code yX4_movementTo cX4_movementTo 2 (Option.some FieldType.int) ∈ lw_tbl := az_t (i := 1646) (by decide +kernel)
theorem wi_X4_movementTo : Cond.instanceMethod yX4_movementTo ∈ lw_tbl := az_t (i := 1644) (by decide +kernel)
theorem wse_X4_movementTo : Cond.selects RX4 yX4_movementTo yX4_movementTo ∈ lw_tbl := az_t (i := 1645) (by decide +kernel)
theorem Y_X4_movementTo : az_Y yX4_movementTo cX4_movementTo 2 (Option.some FieldType.int) 1 := ⟨wc_X4_movementTo, wini_X4, by decide +kernel, by decide +kernel⟩
theorem wc_X4_movementVolume : Cond.code yX4_movementVolume cX4_movementVolume 2 (Option.some FieldType.int) ∈ lw_tbl := az_t (i := 1650) (by decide +kernel)
theorem wi_X4_movementVolume : Cond.instanceMethod yX4_movementVolume ∈ lw_tbl := az_t (i := 1648) (by decide +kernel)
theorem wse_X4_movementVolume : Cond.selects RX4 yX4_movementVolume yX4_movementVolume ∈ lw_tbl := az_t (i := 1649) (by decide +kernel)
theorem Y_X4_movementVolume : az_Y yX4_movementVolume cX4_movementVolume 2 (Option.some FieldType.int) 1 := ⟨wc_X4_movementVolume, wini_X4, by decide +kernel, by decide +kernel⟩
theorem wc_X4_meanLevel : Cond.code yX4_meanLevel cX4_meanLevel 3 (Option.some FieldType.double) ∈ lw_tbl := az_t (i := 1654) (by decide +kernel)
theorem wi_X4_meanLevel : Cond.instanceMethod yX4_meanLevel ∈ lw_tbl := az_t (i := 1652) (by decide +kernel)
theorem wse_X4_meanLevel : Cond.selects RX4 yX4_meanLevel yX4_meanLevel ∈ lw_tbl := az_t (i := 1653) (by decide +kernel)
theorem Y_X4_meanLevel : az_Y yX4_meanLevel cX4_meanLevel 3 (Option.some FieldType.double) 0 := ⟨wc_X4_meanLevel, wini_X4, by decide +kernel, by decide +kernel⟩
theorem wc_X4_isBalanced : Cond.code yX4_isBalanced cX4_isBalanced 3 (Option.some FieldType.boolean) ∈ lw_tbl := az_t (i := 1658) (by decide +kernel)
theorem wi_X4_isBalanced : Cond.instanceMethod yX4_isBalanced ∈ lw_tbl := az_t (i := 1656) (by decide +kernel)
theorem wse_X4_isBalanced : Cond.selects RX4 yX4_isBalanced yX4_isBalanced ∈ lw_tbl := az_t (i := 1657) (by decide +kernel)
theorem Y_X4_isBalanced : az_Y yX4_isBalanced cX4_isBalanced 3 (Option.some FieldType.boolean) 0 := ⟨wc_X4_isBalanced, wini_X4, by decide +kernel, by decide +kernel⟩
theorem wc_X4_writes : Cond.code yX4_writes cX4_writes 2 (Option.none : Option FieldType) ∈ lw_tbl := az_t (i := 1666) (by decide +kernel)
theorem wi_X4_writes : Cond.instanceMethod yX4_writes ∈ lw_tbl := az_t (i := 1665) (by decide +kernel)
theorem wse_X4_writes : Cond.selects RX4 yX4_writes yX4_writes ∈ lw_tbl := az_tp (i := 44) (by decide +kernel)
theorem Y_X4_writes : az_Y yX4_writes cX4_writes 2 (Option.none : Option FieldType) 1 := ⟨wc_X4_writes, wini_X4, by decide +kernel, by decide +kernel⟩
theorem wl_X4_240 : Cond.fieldLink RX4 240 "BargeRiverModel" "lineLong" "I" ∈ lw_tbl := az_t (i := 1248) (by decide +kernel)
theorem wc_X4_writeReach : Cond.code yX4_writeReach cX4_writeReach 4 (Option.some FieldType.int) ∈ lw_tbl := az_t (i := 1662) (by decide +kernel)
theorem wi_X4_writeReach : Cond.instanceMethod yX4_writeReach ∈ lw_tbl := az_t (i := 1660) (by decide +kernel)
theorem wse_X4_writeReach : Cond.selects RX4 yX4_writeReach yX4_writeReach ∈ lw_tbl := az_t (i := 1661) (by decide +kernel)
theorem Y_X4_writeReach : az_Y yX4_writeReach cX4_writeReach 4 (Option.some FieldType.int) 1 := ⟨wc_X4_writeReach, wini_X4, by decide +kernel, by decide +kernel⟩
theorem wm_X4_243 : Cond.methodLink RX4 243 yX4_writes ∈ lw_tbl := az_t (i := 1663) (by decide +kernel)
theorem wc_X4_lineAt : Cond.code yX4_lineAt cX4_lineAt 2 (Option.some FieldType.char) ∈ lw_tbl := az_t (i := 1670) (by decide +kernel)
theorem wi_X4_lineAt : Cond.instanceMethod yX4_lineAt ∈ lw_tbl := az_t (i := 1668) (by decide +kernel)
theorem wse_X4_lineAt : Cond.selects RX4 yX4_lineAt yX4_lineAt ∈ lw_tbl := az_t (i := 1669) (by decide +kernel)
theorem Y_X4_lineAt : az_Y yX4_lineAt cX4_lineAt 2 (Option.some FieldType.char) 1 := ⟨wc_X4_lineAt, wini_X4, by decide +kernel, by decide +kernel⟩
theorem wm_L_7 : Cond.methodLink RL 7 yX3_addReach ∈ lw_tbl := az_t (i := 376) (by decide +kernel)
theorem wm_L_17 : Cond.methodLink RL 17 yX3_areaOf ∈ lw_tbl := az_t (i := 419) (by decide +kernel)
theorem wm_L_23 : Cond.methodLink RL 23 yX3_volumeOf ∈ lw_tbl := az_t (i := 426) (by decide +kernel)
theorem wm_L_26 : Cond.methodLink RL 26 yX3_volumeBySteps ∈ lw_tbl := az_t (i := 430) (by decide +kernel)
theorem wm_L_29 : Cond.methodLink RL 29 yX3_levelOf ∈ lw_tbl := az_t (i := 434) (by decide +kernel)
theorem wm_L_32 : Cond.methodLink RL 32 yX3_lockfulOf ∈ lw_tbl := az_t (i := 441) (by decide +kernel)
theorem wm_L_35 : Cond.methodLink RL 35 yX3_lengthOf ∈ lw_tbl := az_t (i := 453) (by decide +kernel)
theorem wm_L_38 : Cond.methodLink RL 38 yX3_sillOf ∈ lw_tbl := az_t (i := 460) (by decide +kernel)
theorem wm_L_41 : Cond.methodLink RL 41 yX3_isFull ∈ lw_tbl := az_t (i := 467) (by decide +kernel)
theorem wm_L_45 : Cond.methodLink RL 45 yX3_turn ∈ lw_tbl := az_t (i := 479) (by decide +kernel)
theorem wm_L_50 : Cond.methodLink RL 50 yX3_waterThrough ∈ lw_tbl := az_t (i := 515) (by decide +kernel)
theorem wm_L_53 : Cond.methodLink RL 53 yX3_rain ∈ lw_tbl := az_t (i := 522) (by decide +kernel)
theorem wm_L_57 : Cond.methodLink RL 57 yX3_addBarge ∈ lw_tbl := az_t (i := 530) (by decide +kernel)
theorem wm_L_61 : Cond.methodLink RL 61 yX3_reachOf ∈ lw_tbl := az_t (i := 576) (by decide +kernel)
theorem wm_L_64 : Cond.methodLink RL 64 yX3_cargoOf ∈ lw_tbl := az_t (i := 588) (by decide +kernel)
theorem wm_L_67 : Cond.methodLink RL 67 yX3_draughtOf ∈ lw_tbl := az_t (i := 595) (by decide +kernel)
theorem wm_L_70 : Cond.methodLink RL 70 yX3_isAfloat ∈ lw_tbl := az_t (i := 610) (by decide +kernel)
theorem wm_L_73 : Cond.methodLink RL 73 yX3_couple ∈ lw_tbl := az_t (i := 622) (by decide +kernel)
theorem wm_L_76 : Cond.methodLink RL 76 yX3_uncouple ∈ lw_tbl := az_t (i := 643) (by decide +kernel)
theorem wm_L_79 : Cond.methodLink RL 79 yX3_convoySize ∈ lw_tbl := az_t (i := 651) (by decide +kernel)
theorem wm_L_82 : Cond.methodLink RL 82 yX3_convoyAt ∈ lw_tbl := az_t (i := 659) (by decide +kernel)
theorem wm_L_87 : Cond.methodLink RL 87 yX3_partsFor ∈ lw_tbl := az_t (i := 682) (by decide +kernel)
theorem wm_L_90 : Cond.methodLink RL 90 yX3_pass ∈ lw_tbl := az_t (i := 703) (by decide +kernel)
theorem wm_L_94 : Cond.methodLink RL 94 yX3_voyage ∈ lw_tbl := az_t (i := 742) (by decide +kernel)
theorem wm_L_97 : Cond.methodLink RL 97 yX3_isPossible ∈ lw_tbl := az_t (i := 750) (by decide +kernel)
theorem wm_L_101 : Cond.methodLink RL 101 yX3_waterFor ∈ lw_tbl := az_t (i := 761) (by decide +kernel)
theorem wm_L_104 : Cond.methodLink RL 104 yX3_refusalReason ∈ lw_tbl := az_t (i := 773) (by decide +kernel)
theorem wm_L_108 : Cond.methodLink RL 108 yX3_refusalLock ∈ lw_tbl := az_t (i := 785) (by decide +kernel)
theorem wm_L_111 : Cond.methodLink RL 111 yX3_priceIn ∈ lw_tbl := az_t (i := 792) (by decide +kernel)
theorem wm_L_114 : Cond.methodLink RL 114 yX3_buy ∈ lw_tbl := az_t (i := 799) (by decide +kernel)
theorem wm_L_118 : Cond.methodLink RL 118 yX3_sell ∈ lw_tbl := az_t (i := 811) (by decide +kernel)
theorem wm_L_121 : Cond.methodLink RL 121 yX3_sellToDraught ∈ lw_tbl := az_t (i := 823) (by decide +kernel)
theorem wm_L_124 : Cond.methodLink RL 124 yX3_greatestLoad ∈ lw_tbl := az_t (i := 836) (by decide +kernel)
theorem wm_L_127 : Cond.methodLink RL 127 yX3_worthIn ∈ lw_tbl := az_t (i := 843) (by decide +kernel)
theorem wm_L_130 : Cond.methodLink RL 130 yX3_bestReach ∈ lw_tbl := az_t (i := 850) (by decide +kernel)
theorem wm_L_133 : Cond.methodLink RL 133 yX3_movementFrom ∈ lw_tbl := az_t (i := 857) (by decide +kernel)
theorem wm_L_136 : Cond.methodLink RL 136 yX3_movementTo ∈ lw_tbl := az_t (i := 869) (by decide +kernel)
theorem wm_L_139 : Cond.methodLink RL 139 yX3_movementVolume ∈ lw_tbl := az_t (i := 876) (by decide +kernel)
theorem wm_L_142 : Cond.methodLink RL 142 yX3_writeReach ∈ lw_tbl := az_t (i := 883) (by decide +kernel)
theorem wm_L_145 : Cond.methodLink RL 145 yX3_lineAt ∈ lw_tbl := az_t (i := 1186) (by decide +kernel)
theorem wk_L_8 : Cond.classLink RL 8 "BargeRiver" ∈ lw_tbl := az_t (i := 28) (by decide +kernel)
theorem wm_L_149 : Cond.methodLink RL 149 yX3_init ∈ lw_tbl := az_t (i := 30) (by decide +kernel)
theorem wk_L_150 : Cond.classLink RL 150 "BargeRiverModel" ∈ lw_tbl := az_t (i := 1201) (by decide +kernel)
theorem wm_L_152 : Cond.methodLink RL 152 yX4_init ∈ lw_tbl := az_t (i := 1203) (by decide +kernel)
theorem wm_L_153 : Cond.methodLink RL 153 yL_addReach ∈ lw_tbl := az_t (i := 371) (by decide +kernel)
theorem wst_L_addReach : Cond.static yL_addReach ∈ lw_tbl := az_t (i := 372) (by decide +kernel)
theorem wm_L_158 : Cond.methodLink RL 158 yX4_addReach ∈ lw_tbl := az_t (i := 1336) (by decide +kernel)
theorem wm_L_159 : Cond.methodLink RL 159 yX4_thrown ∈ lw_tbl := az_t (i := 1332) (by decide +kernel)
theorem wm_L_162 : Cond.methodLink RL 162 yX3_reachCount ∈ lw_tbl := az_t (i := 220) (by decide +kernel)
theorem wm_L_165 : Cond.methodLink RL 165 yX4_reachCount ∈ lw_tbl := az_t (i := 1355) (by decide +kernel)
theorem wm_L_166 : Cond.methodLink RL 166 yL_areaOf ∈ lw_tbl := az_t (i := 415) (by decide +kernel)
theorem wst_L_areaOf : Cond.static yL_areaOf ∈ lw_tbl := az_t (i := 416) (by decide +kernel)
theorem wm_L_169 : Cond.methodLink RL 169 yX4_areaOf ∈ lw_tbl := az_t (i := 1359) (by decide +kernel)
theorem wm_L_170 : Cond.methodLink RL 170 yL_volumeOf ∈ lw_tbl := az_t (i := 423) (by decide +kernel)
theorem wst_L_volumeOf : Cond.static yL_volumeOf ∈ lw_tbl := az_t (i := 424) (by decide +kernel)
theorem wm_L_172 : Cond.methodLink RL 172 yX4_volumeOf ∈ lw_tbl := az_t (i := 1367) (by decide +kernel)
theorem wm_L_173 : Cond.methodLink RL 173 yL_volumeBySteps ∈ lw_tbl := az_t (i := 427) (by decide +kernel)
theorem wst_L_volumeBySteps : Cond.static yL_volumeBySteps ∈ lw_tbl := az_t (i := 428) (by decide +kernel)
theorem wm_L_175 : Cond.methodLink RL 175 yX4_volumeBySteps ∈ lw_tbl := az_t (i := 1371) (by decide +kernel)
theorem wm_L_176 : Cond.methodLink RL 176 yL_levelOf ∈ lw_tbl := az_t (i := 431) (by decide +kernel)
theorem wst_L_levelOf : Cond.static yL_levelOf ∈ lw_tbl := az_t (i := 432) (by decide +kernel)
theorem wm_L_178 : Cond.methodLink RL 178 yX4_levelOf ∈ lw_tbl := az_t (i := 1379) (by decide +kernel)
theorem wm_L_179 : Cond.methodLink RL 179 yL_lockfulOf ∈ lw_tbl := az_t (i := 438) (by decide +kernel)
theorem wst_L_lockfulOf : Cond.static yL_lockfulOf ∈ lw_tbl := az_t (i := 439) (by decide +kernel)
theorem wm_L_181 : Cond.methodLink RL 181 yX4_lockfulOf ∈ lw_tbl := az_t (i := 1387) (by decide +kernel)
theorem wm_L_182 : Cond.methodLink RL 182 yL_lengthOf ∈ lw_tbl := az_t (i := 450) (by decide +kernel)
theorem wst_L_lengthOf : Cond.static yL_lengthOf ∈ lw_tbl := az_t (i := 451) (by decide +kernel)
theorem wm_L_184 : Cond.methodLink RL 184 yX4_lengthOf ∈ lw_tbl := az_t (i := 1395) (by decide +kernel)
theorem wm_L_185 : Cond.methodLink RL 185 yL_sillOf ∈ lw_tbl := az_t (i := 457) (by decide +kernel)
theorem wst_L_sillOf : Cond.static yL_sillOf ∈ lw_tbl := az_t (i := 458) (by decide +kernel)
theorem wm_L_187 : Cond.methodLink RL 187 yX4_sillOf ∈ lw_tbl := az_t (i := 1399) (by decide +kernel)
theorem wm_L_188 : Cond.methodLink RL 188 yL_isFull ∈ lw_tbl := az_t (i := 464) (by decide +kernel)
theorem wst_L_isFull : Cond.static yL_isFull ∈ lw_tbl := az_t (i := 465) (by decide +kernel)
theorem wm_L_190 : Cond.methodLink RL 190 yX4_isFull ∈ lw_tbl := az_t (i := 1403) (by decide +kernel)
theorem wm_L_191 : Cond.methodLink RL 191 yL_turn ∈ lw_tbl := az_t (i := 475) (by decide +kernel)
theorem wst_L_turn : Cond.static yL_turn ∈ lw_tbl := az_t (i := 476) (by decide +kernel)
theorem wm_L_193 : Cond.methodLink RL 193 yX4_turn ∈ lw_tbl := az_t (i := 1411) (by decide +kernel)
theorem wm_L_194 : Cond.methodLink RL 194 yL_waterThrough ∈ lw_tbl := az_t (i := 512) (by decide +kernel)
theorem wst_L_waterThrough : Cond.static yL_waterThrough ∈ lw_tbl := az_t (i := 513) (by decide +kernel)
theorem wm_L_196 : Cond.methodLink RL 196 yX4_waterThrough ∈ lw_tbl := az_t (i := 1427) (by decide +kernel)
theorem wm_L_197 : Cond.methodLink RL 197 yL_rain ∈ lw_tbl := az_t (i := 519) (by decide +kernel)
theorem wst_L_rain : Cond.static yL_rain ∈ lw_tbl := az_t (i := 520) (by decide +kernel)
theorem wm_L_200 : Cond.methodLink RL 200 yX4_rain ∈ lw_tbl := az_t (i := 1431) (by decide +kernel)
theorem wm_L_201 : Cond.methodLink RL 201 yX3_endWeek ∈ lw_tbl := az_t (i := 224) (by decide +kernel)
theorem wm_L_204 : Cond.methodLink RL 204 yX4_endWeek ∈ lw_tbl := az_t (i := 1435) (by decide +kernel)
theorem wm_L_205 : Cond.methodLink RL 205 yX3_weekCount ∈ lw_tbl := az_t (i := 240) (by decide +kernel)
theorem wm_L_208 : Cond.methodLink RL 208 yX4_weekCount ∈ lw_tbl := az_t (i := 1439) (by decide +kernel)
theorem wm_L_209 : Cond.methodLink RL 209 yL_addBarge ∈ lw_tbl := az_t (i := 527) (by decide +kernel)
theorem wst_L_addBarge : Cond.static yL_addBarge ∈ lw_tbl := az_t (i := 528) (by decide +kernel)
theorem wm_L_212 : Cond.methodLink RL 212 yX4_addBarge ∈ lw_tbl := az_t (i := 1443) (by decide +kernel)
theorem wm_L_213 : Cond.methodLink RL 213 yX3_bargeCount ∈ lw_tbl := az_t (i := 244) (by decide +kernel)
theorem wm_L_216 : Cond.methodLink RL 216 yX4_bargeCount ∈ lw_tbl := az_t (i := 1447) (by decide +kernel)
theorem wm_L_217 : Cond.methodLink RL 217 yL_reachOf ∈ lw_tbl := az_t (i := 573) (by decide +kernel)
theorem wst_L_reachOf : Cond.static yL_reachOf ∈ lw_tbl := az_t (i := 574) (by decide +kernel)
theorem wm_L_219 : Cond.methodLink RL 219 yX4_reachOf ∈ lw_tbl := az_t (i := 1451) (by decide +kernel)
theorem wm_L_220 : Cond.methodLink RL 220 yL_cargoOf ∈ lw_tbl := az_t (i := 585) (by decide +kernel)
theorem wst_L_cargoOf : Cond.static yL_cargoOf ∈ lw_tbl := az_t (i := 586) (by decide +kernel)
theorem wm_L_222 : Cond.methodLink RL 222 yX4_cargoOf ∈ lw_tbl := az_t (i := 1459) (by decide +kernel)
theorem wm_L_223 : Cond.methodLink RL 223 yL_draughtOf ∈ lw_tbl := az_t (i := 592) (by decide +kernel)
theorem wst_L_draughtOf : Cond.static yL_draughtOf ∈ lw_tbl := az_t (i := 593) (by decide +kernel)
theorem wm_L_225 : Cond.methodLink RL 225 yX4_draughtOf ∈ lw_tbl := az_t (i := 1463) (by decide +kernel)
theorem wm_L_226 : Cond.methodLink RL 226 yL_isAfloat ∈ lw_tbl := az_t (i := 607) (by decide +kernel)
theorem wst_L_isAfloat : Cond.static yL_isAfloat ∈ lw_tbl := az_t (i := 608) (by decide +kernel)
theorem wm_L_228 : Cond.methodLink RL 228 yX4_isAfloat ∈ lw_tbl := az_t (i := 1471) (by decide +kernel)
theorem wm_L_229 : Cond.methodLink RL 229 yL_couple ∈ lw_tbl := az_t (i := 619) (by decide +kernel)
theorem wst_L_couple : Cond.static yL_couple ∈ lw_tbl := az_t (i := 620) (by decide +kernel)
theorem wm_L_231 : Cond.methodLink RL 231 yX4_couple ∈ lw_tbl := az_t (i := 1479) (by decide +kernel)
theorem wm_L_232 : Cond.methodLink RL 232 yL_uncouple ∈ lw_tbl := az_t (i := 640) (by decide +kernel)
theorem wst_L_uncouple : Cond.static yL_uncouple ∈ lw_tbl := az_t (i := 641) (by decide +kernel)
theorem wm_L_234 : Cond.methodLink RL 234 yX4_uncouple ∈ lw_tbl := az_t (i := 1491) (by decide +kernel)
theorem wm_L_235 : Cond.methodLink RL 235 yL_convoySize ∈ lw_tbl := az_t (i := 648) (by decide +kernel)
theorem wst_L_convoySize : Cond.static yL_convoySize ∈ lw_tbl := az_t (i := 649) (by decide +kernel)
theorem wm_L_237 : Cond.methodLink RL 237 yX4_convoySize ∈ lw_tbl := az_t (i := 1495) (by decide +kernel)
theorem wm_L_238 : Cond.methodLink RL 238 yL_convoyAt ∈ lw_tbl := az_t (i := 655) (by decide +kernel)
theorem wst_L_convoyAt : Cond.static yL_convoyAt ∈ lw_tbl := az_t (i := 656) (by decide +kernel)
theorem wm_L_240 : Cond.methodLink RL 240 yX4_convoyAt ∈ lw_tbl := az_t (i := 1499) (by decide +kernel)
theorem wm_L_241 : Cond.methodLink RL 241 yL_partsFor ∈ lw_tbl := az_t (i := 679) (by decide +kernel)
theorem wst_L_partsFor : Cond.static yL_partsFor ∈ lw_tbl := az_t (i := 680) (by decide +kernel)
theorem wm_L_243 : Cond.methodLink RL 243 yX4_partsFor ∈ lw_tbl := az_t (i := 1503) (by decide +kernel)
theorem wm_L_244 : Cond.methodLink RL 244 yL_pass ∈ lw_tbl := az_t (i := 700) (by decide +kernel)
theorem wst_L_pass : Cond.static yL_pass ∈ lw_tbl := az_t (i := 701) (by decide +kernel)
theorem wm_L_247 : Cond.methodLink RL 247 yX4_pass ∈ lw_tbl := az_t (i := 1515) (by decide +kernel)
theorem wm_L_248 : Cond.methodLink RL 248 yL_voyage ∈ lw_tbl := az_t (i := 739) (by decide +kernel)
theorem wst_L_voyage : Cond.static yL_voyage ∈ lw_tbl := az_t (i := 740) (by decide +kernel)
theorem wm_L_250 : Cond.methodLink RL 250 yX4_voyage ∈ lw_tbl := az_t (i := 1543) (by decide +kernel)
theorem wm_L_251 : Cond.methodLink RL 251 yL_isPossible ∈ lw_tbl := az_t (i := 747) (by decide +kernel)
theorem wst_L_isPossible : Cond.static yL_isPossible ∈ lw_tbl := az_t (i := 748) (by decide +kernel)
theorem wm_L_253 : Cond.methodLink RL 253 yX4_isPossible ∈ lw_tbl := az_t (i := 1551) (by decide +kernel)
theorem wm_L_254 : Cond.methodLink RL 254 yL_waterFor ∈ lw_tbl := az_t (i := 758) (by decide +kernel)
theorem wst_L_waterFor : Cond.static yL_waterFor ∈ lw_tbl := az_t (i := 759) (by decide +kernel)
theorem wm_L_256 : Cond.methodLink RL 256 yX4_waterFor ∈ lw_tbl := az_t (i := 1559) (by decide +kernel)
theorem wm_L_257 : Cond.methodLink RL 257 yL_refusalReason ∈ lw_tbl := az_t (i := 770) (by decide +kernel)
theorem wst_L_refusalReason : Cond.static yL_refusalReason ∈ lw_tbl := az_t (i := 771) (by decide +kernel)
theorem wm_L_260 : Cond.methodLink RL 260 yX4_refusalReason ∈ lw_tbl := az_t (i := 1567) (by decide +kernel)
theorem wm_L_261 : Cond.methodLink RL 261 yL_refusalLock ∈ lw_tbl := az_t (i := 782) (by decide +kernel)
theorem wst_L_refusalLock : Cond.static yL_refusalLock ∈ lw_tbl := az_t (i := 783) (by decide +kernel)
theorem wm_L_263 : Cond.methodLink RL 263 yX4_refusalLock ∈ lw_tbl := az_t (i := 1571) (by decide +kernel)
theorem wm_L_264 : Cond.methodLink RL 264 yL_priceIn ∈ lw_tbl := az_t (i := 789) (by decide +kernel)
theorem wst_L_priceIn : Cond.static yL_priceIn ∈ lw_tbl := az_t (i := 790) (by decide +kernel)
theorem wm_L_266 : Cond.methodLink RL 266 yX4_priceIn ∈ lw_tbl := az_t (i := 1575) (by decide +kernel)
theorem wm_L_267 : Cond.methodLink RL 267 yX3_money ∈ lw_tbl := az_t (i := 248) (by decide +kernel)
theorem wm_L_271 : Cond.methodLink RL 271 yX4_money ∈ lw_tbl := az_t (i := 1579) (by decide +kernel)
theorem wm_L_272 : Cond.methodLink RL 272 yL_buy ∈ lw_tbl := az_t (i := 796) (by decide +kernel)
theorem wst_L_buy : Cond.static yL_buy ∈ lw_tbl := az_t (i := 797) (by decide +kernel)
theorem wm_L_274 : Cond.methodLink RL 274 yX4_buy ∈ lw_tbl := az_t (i := 1583) (by decide +kernel)
theorem wm_L_275 : Cond.methodLink RL 275 yL_sell ∈ lw_tbl := az_t (i := 808) (by decide +kernel)
theorem wst_L_sell : Cond.static yL_sell ∈ lw_tbl := az_t (i := 809) (by decide +kernel)
theorem wm_L_277 : Cond.methodLink RL 277 yX4_sell ∈ lw_tbl := az_t (i := 1591) (by decide +kernel)
theorem wm_L_278 : Cond.methodLink RL 278 yL_sellToDraught ∈ lw_tbl := az_t (i := 820) (by decide +kernel)
theorem wst_L_sellToDraught : Cond.static yL_sellToDraught ∈ lw_tbl := az_t (i := 821) (by decide +kernel)
theorem wm_L_280 : Cond.methodLink RL 280 yX4_sellToDraught ∈ lw_tbl := az_t (i := 1599) (by decide +kernel)
theorem wm_L_281 : Cond.methodLink RL 281 yL_greatestLoad ∈ lw_tbl := az_t (i := 833) (by decide +kernel)
theorem wst_L_greatestLoad : Cond.static yL_greatestLoad ∈ lw_tbl := az_t (i := 834) (by decide +kernel)
theorem wm_L_283 : Cond.methodLink RL 283 yX4_greatestLoad ∈ lw_tbl := az_t (i := 1603) (by decide +kernel)
theorem wm_L_284 : Cond.methodLink RL 284 yL_worthIn ∈ lw_tbl := az_t (i := 840) (by decide +kernel)
theorem wst_L_worthIn : Cond.static yL_worthIn ∈ lw_tbl := az_t (i := 841) (by decide +kernel)
theorem wm_L_286 : Cond.methodLink RL 286 yX4_worthIn ∈ lw_tbl := az_t (i := 1607) (by decide +kernel)
theorem wm_L_287 : Cond.methodLink RL 287 yL_bestReach ∈ lw_tbl := az_t (i := 847) (by decide +kernel)
theorem wst_L_bestReach : Cond.static yL_bestReach ∈ lw_tbl := az_t (i := 848) (by decide +kernel)
theorem wm_L_289 : Cond.methodLink RL 289 yX4_bestReach ∈ lw_tbl := az_t (i := 1611) (by decide +kernel)
theorem wm_L_290 : Cond.methodLink RL 290 yX3_cameTotal ∈ lw_tbl := az_t (i := 252) (by decide +kernel)
theorem wm_L_293 : Cond.methodLink RL 293 yX4_cameTotal ∈ lw_tbl := az_t (i := 1615) (by decide +kernel)
theorem wm_L_294 : Cond.methodLink RL 294 yX3_seaTotal ∈ lw_tbl := az_t (i := 256) (by decide +kernel)
theorem wm_L_297 : Cond.methodLink RL 297 yX4_seaTotal ∈ lw_tbl := az_t (i := 1619) (by decide +kernel)
theorem wm_L_298 : Cond.methodLink RL 298 yX3_airTotal ∈ lw_tbl := az_t (i := 260) (by decide +kernel)
theorem wm_L_301 : Cond.methodLink RL 301 yX4_airTotal ∈ lw_tbl := az_t (i := 1623) (by decide +kernel)
theorem wm_L_302 : Cond.methodLink RL 302 yX3_heldTotal ∈ lw_tbl := az_t (i := 264) (by decide +kernel)
theorem wm_L_305 : Cond.methodLink RL 305 yX4_heldTotal ∈ lw_tbl := az_t (i := 1627) (by decide +kernel)
theorem wm_L_306 : Cond.methodLink RL 306 yX3_movementCount ∈ lw_tbl := az_t (i := 268) (by decide +kernel)
theorem wm_L_309 : Cond.methodLink RL 309 yX4_movementCount ∈ lw_tbl := az_t (i := 1635) (by decide +kernel)
theorem wm_L_310 : Cond.methodLink RL 310 yL_movementFrom ∈ lw_tbl := az_t (i := 854) (by decide +kernel)
theorem wst_L_movementFrom : Cond.static yL_movementFrom ∈ lw_tbl := az_t (i := 855) (by decide +kernel)
theorem wm_L_312 : Cond.methodLink RL 312 yX4_movementFrom ∈ lw_tbl := az_t (i := 1639) (by decide +kernel)
theorem wm_L_313 : Cond.methodLink RL 313 yL_movementTo ∈ lw_tbl := az_t (i := 866) (by decide +kernel)
theorem wst_L_movementTo : Cond.static yL_movementTo ∈ lw_tbl := az_t (i := 867) (by decide +kernel)
theorem wm_L_315 : Cond.methodLink RL 315 yX4_movementTo ∈ lw_tbl := az_t (i := 1643) (by decide +kernel)
theorem wm_L_316 : Cond.methodLink RL 316 yL_movementVolume ∈ lw_tbl := az_t (i := 873) (by decide +kernel)
theorem wst_L_movementVolume : Cond.static yL_movementVolume ∈ lw_tbl := az_t (i := 874) (by decide +kernel)
theorem wm_L_318 : Cond.methodLink RL 318 yX4_movementVolume ∈ lw_tbl := az_t (i := 1647) (by decide +kernel)
theorem wm_L_319 : Cond.methodLink RL 319 yX3_meanLevel ∈ lw_tbl := az_t (i := 272) (by decide +kernel)
theorem wm_L_323 : Cond.methodLink RL 323 yX4_meanLevel ∈ lw_tbl := az_t (i := 1651) (by decide +kernel)
theorem wm_L_324 : Cond.methodLink RL 324 yX3_isBalanced ∈ lw_tbl := az_t (i := 276) (by decide +kernel)
theorem wm_L_328 : Cond.methodLink RL 328 yX4_isBalanced ∈ lw_tbl := az_t (i := 1655) (by decide +kernel)
theorem wm_L_329 : Cond.methodLink RL 329 yL_writeReach ∈ lw_tbl := az_t (i := 880) (by decide +kernel)
theorem wst_L_writeReach : Cond.static yL_writeReach ∈ lw_tbl := az_t (i := 881) (by decide +kernel)
theorem wm_L_331 : Cond.methodLink RL 331 yX4_writeReach ∈ lw_tbl := az_t (i := 1659) (by decide +kernel)
theorem wm_L_332 : Cond.methodLink RL 332 yL_lineAt ∈ lw_tbl := az_t (i := 1183) (by decide +kernel)
theorem wst_L_lineAt : Cond.static yL_lineAt ∈ lw_tbl := az_t (i := 1184) (by decide +kernel)
theorem wm_L_334 : Cond.methodLink RL 334 yX4_lineAt ∈ lw_tbl := az_t (i := 1667) (by decide +kernel)
end
section
/-! WHAT THE RUN TAKES FROM ITS START, beside the tables' good words: nest mates' links, casts, statics, texts -/
def az_txt : List (Nat × String) := [(333, "there is no such reach"), (62, "an argument is out of range"), (72, "there are 6 reaches"), (335, "there is no such lock"), (116, "the upper reach has too little water"), (125, "the volume is out of range"), (143, "a measure of the barge is out of range"), (148, "there are 8 barges"), (150, "the barge would not be afloat"), (343, "there is no such barge"), (177, "both are in the same convoy"), (182, "the convoys cannot become one"), (194, "the barge is the first one of its convoy"), (201, "the convoy has no such place"), (207, "a barge is longer than the lock"), (212, "there is no lock in this direction"), (357, "the passage is refused"), (218, "the convoy is in this reach"), (235, "the voyage would be refused"), (339, "no passage was refused so far"), (341, "the number of tons is out of range"), (246, "there is not enough money"), (248, "the barge has less cargo"), (254, "the draught is out of range"), (259, "the empty draught is greater"), (337, "there is no such movement"), (307, ": "), (312, "dm"), (326, "the line has no such character")]
def az_bad : List Cond := [Cond.fieldLinkNest RX3 273 "BargeRiver$Movements" "froms" "[I" "BargeRiver", Cond.fieldLinkNest RX3 276 "BargeRiver$Movements" "tos" "[I" "BargeRiver", Cond.fieldLinkNest RX3 279 "BargeRiver$Movements" "volumes" "[I" "BargeRiver", Cond.fieldLinkNest RX2 61 "BargeRiver$Movements" "count" "I" "BargeRiver", Cond.fieldLinkNest RX3 267 "BargeRiver$Movements" "count" "I" "BargeRiver", Cond.fieldLinkNest RX3 82 "BargeRiver$Water" "areas" "[I" "BargeRiver", Cond.fieldLinkNest RX3 75 "BargeRiver$Water" "lockfuls" "[I" "BargeRiver", Cond.fieldLinkNest RX3 122 "BargeRiver$Water" "through" "[I" "BargeRiver", Cond.fieldLinkNest RX3 89 "BargeRiver$Water" "movements" "LBargeRiver$Movements;" "BargeRiver", Cond.fieldLinkNest RX3 67 "BargeRiver$Water" "reaches" "I" "BargeRiver", Cond.fieldLinkNest RX3 196 "BargeRiver$Barge" "number" "I" "BargeRiver", Cond.fieldLinkNest RX3 256 "BargeRiver$Barge" "emptyDraught" "I" "BargeRiver", Cond.fieldLinkNest RX3 159 "BargeRiver$Barge" "reach" "I" "BargeRiver", Cond.fieldLinkNest RX3 162 "BargeRiver$Barge" "cargo" "I" "BargeRiver", Cond.fieldLinkNest RX3 191 "BargeRiver$Barge" "ahead" "LBargeRiver$Barge;" "BargeRiver", Cond.fieldLinkNest RX3 187 "BargeRiver$Barge" "behind" "LBargeRiver$Barge;" "BargeRiver", Cond.methodLinkNest RX3 11 yX2_init "BargeRiver", Cond.methodLinkNest RX2 32 yX1_init "BargeRiver", Cond.castable "java/lang/IllegalArgumentException" "java/lang/IllegalArgumentException", Cond.castable "java/lang/IllegalStateException" "java/lang/IllegalStateException", Cond.castable "java/lang/IndexOutOfBoundsException" "java/lang/IndexOutOfBoundsException", Cond.castable "java/lang/UnsupportedOperationException" "java/lang/UnsupportedOperationException", Cond.castable "java/util/NoSuchElementException" "java/util/NoSuchElementException"]
def az_ncs : List (String × String) := [("java/lang/IllegalArgumentException", "java/lang/IllegalStateException"), ("java/lang/IllegalArgumentException", "java/lang/IndexOutOfBoundsException"), ("java/lang/IllegalArgumentException", "java/lang/UnsupportedOperationException"), ("java/lang/IllegalArgumentException", "java/util/NoSuchElementException"), ("java/lang/IllegalStateException", "java/lang/IllegalArgumentException"), ("java/lang/IllegalStateException", "java/lang/IndexOutOfBoundsException"), ("java/lang/IllegalStateException", "java/lang/UnsupportedOperationException"), ("java/lang/IllegalStateException", "java/util/NoSuchElementException"), ("java/lang/IndexOutOfBoundsException", "java/lang/IllegalArgumentException"), ("java/lang/IndexOutOfBoundsException", "java/lang/IllegalStateException"), ("java/lang/IndexOutOfBoundsException", "java/lang/UnsupportedOperationException"), ("java/lang/IndexOutOfBoundsException", "java/util/NoSuchElementException"), ("java/lang/UnsupportedOperationException", "java/lang/IllegalArgumentException"), ("java/lang/UnsupportedOperationException", "java/lang/IllegalStateException"), ("java/lang/UnsupportedOperationException", "java/lang/IndexOutOfBoundsException"), ("java/lang/UnsupportedOperationException", "java/util/NoSuchElementException"), ("java/util/NoSuchElementException", "java/lang/IllegalArgumentException"), ("java/util/NoSuchElementException", "java/lang/IllegalStateException"), ("java/util/NoSuchElementException", "java/lang/IndexOutOfBoundsException"), ("java/util/NoSuchElementException", "java/lang/UnsupportedOperationException")]
def az_tens : Nat → Int32 := fun j => nI (48 + j / 10)
def az_ones : Nat → Int32 := fun j => nI (48 + j % 10)
def az_str (b0 k : Nat) (tx : String) (byt : List Int32) (U : State) (H : Heap) : Prop := ∃ a v : Nat, vk_R RX3 k tx a U ∧ va_O "java/lang/String" a (fun q => b0 ≤ q) U H ∧ va_OF "java/lang/String" "coder" "B" (.int 0) a (fun q => b0 ≤ q) U H ∧ va_OF "java/lang/String" "value" "[B" (.ref v) a (fun q => b0 ≤ q) U H ∧ va_T .byte v 2 (fun j => .int (byt.getD j 0)) (fun q => b0 ≤ q) U H
def az_tab (b0 : Nat) (n : String) (f : Nat → Int32) (U : State) (H : Heap) : Prop := ∃ t : Nat, va_Z "java/lang/Integer" n "[B" (.ref t) (fun q => b0 ≤ q) U H ∧ va_T .byte t 100 (fun j => .int (f j)) (fun q => b0 ≤ q) U H
def az_S (b0 : Nat) (U : State) (H : Heap) : Prop :=
  vx_Zq Bundle.tN "UNASSIGNED_STACK" Bundle.steD (fun q => b0 ≤ q) U H ∧ vx_Zq Bundle.tN "SUPPRESSED_SENTINEL" Bundle.listD (fun q => b0 ≤ q) U H ∧
  (∀ q ∈ az_txt, ∃ a : Nat, vk_R RX3 q.1 q.2 a U) ∧ (∀ w ∈ az_bad, va_Nw w U) ∧ (∀ q ∈ az_ncs, va_Nc q.1 q.2 U) ∧ va_AO az_B U ∧
  va_Z "java/lang/String" "COMPACT_STRINGS" "Z" (.int 1) (fun q => b0 ≤ q) U H ∧ az_tab b0 "DigitTens" az_tens U H ∧ az_tab b0 "DigitOnes" az_ones U H ∧ az_str b0 307 ": " [58, 32] U H ∧ az_str b0 312 "dm" [100, 109] U H
def az_okS (l : Launch) (G : az_G) : Prop := az_ok l G ∧ ∀ (U : State) (H : Heap), G.2.2.2 U H → az_S G.1 U H
theorem nx_X3_273 : Cond.fieldLinkNest RX3 273 "BargeRiver$Movements" "froms" "[I" "BargeRiver" ∈ az_bad := List.mem_of_getElem? (i := 0) rfl
theorem nx_X3_276 : Cond.fieldLinkNest RX3 276 "BargeRiver$Movements" "tos" "[I" "BargeRiver" ∈ az_bad := List.mem_of_getElem? (i := 1) rfl
theorem nx_X3_279 : Cond.fieldLinkNest RX3 279 "BargeRiver$Movements" "volumes" "[I" "BargeRiver" ∈ az_bad := List.mem_of_getElem? (i := 2) rfl
theorem nx_X2_61 : Cond.fieldLinkNest RX2 61 "BargeRiver$Movements" "count" "I" "BargeRiver" ∈ az_bad := List.mem_of_getElem? (i := 3) rfl
theorem nx_X3_267 : Cond.fieldLinkNest RX3 267 "BargeRiver$Movements" "count" "I" "BargeRiver" ∈ az_bad := List.mem_of_getElem? (i := 4) rfl
theorem nx_X3_82 : Cond.fieldLinkNest RX3 82 "BargeRiver$Water" "areas" "[I" "BargeRiver" ∈ az_bad := List.mem_of_getElem? (i := 5) rfl
theorem nx_X3_75 : Cond.fieldLinkNest RX3 75 "BargeRiver$Water" "lockfuls" "[I" "BargeRiver" ∈ az_bad := List.mem_of_getElem? (i := 6) rfl
theorem nx_X3_122 : Cond.fieldLinkNest RX3 122 "BargeRiver$Water" "through" "[I" "BargeRiver" ∈ az_bad := List.mem_of_getElem? (i := 7) rfl
theorem nx_X3_89 : Cond.fieldLinkNest RX3 89 "BargeRiver$Water" "movements" "LBargeRiver$Movements;" "BargeRiver" ∈ az_bad := List.mem_of_getElem? (i := 8) rfl
theorem nx_X3_67 : Cond.fieldLinkNest RX3 67 "BargeRiver$Water" "reaches" "I" "BargeRiver" ∈ az_bad := List.mem_of_getElem? (i := 9) rfl
theorem nx_X3_196 : Cond.fieldLinkNest RX3 196 "BargeRiver$Barge" "number" "I" "BargeRiver" ∈ az_bad := List.mem_of_getElem? (i := 10) rfl
theorem nx_X3_256 : Cond.fieldLinkNest RX3 256 "BargeRiver$Barge" "emptyDraught" "I" "BargeRiver" ∈ az_bad := List.mem_of_getElem? (i := 11) rfl
theorem nx_X3_159 : Cond.fieldLinkNest RX3 159 "BargeRiver$Barge" "reach" "I" "BargeRiver" ∈ az_bad := List.mem_of_getElem? (i := 12) rfl
theorem nx_X3_162 : Cond.fieldLinkNest RX3 162 "BargeRiver$Barge" "cargo" "I" "BargeRiver" ∈ az_bad := List.mem_of_getElem? (i := 13) rfl
theorem nx_X3_191 : Cond.fieldLinkNest RX3 191 "BargeRiver$Barge" "ahead" "LBargeRiver$Barge;" "BargeRiver" ∈ az_bad := List.mem_of_getElem? (i := 14) rfl
theorem nx_X3_187 : Cond.fieldLinkNest RX3 187 "BargeRiver$Barge" "behind" "LBargeRiver$Barge;" "BargeRiver" ∈ az_bad := List.mem_of_getElem? (i := 15) rfl
theorem nx_X3_11 : Cond.methodLinkNest RX3 11 yX2_init "BargeRiver" ∈ az_bad := List.mem_of_getElem? (i := 16) rfl
theorem nx_X2_32 : Cond.methodLinkNest RX2 32 yX1_init "BargeRiver" ∈ az_bad := List.mem_of_getElem? (i := 17) rfl
theorem nx_IAE : Cond.castable "java/lang/IllegalArgumentException" "java/lang/IllegalArgumentException" ∈ az_bad := List.mem_of_getElem? (i := 18) rfl
theorem nx_ISE : Cond.castable "java/lang/IllegalStateException" "java/lang/IllegalStateException" ∈ az_bad := List.mem_of_getElem? (i := 19) rfl
theorem nx_IOB : Cond.castable "java/lang/IndexOutOfBoundsException" "java/lang/IndexOutOfBoundsException" ∈ az_bad := List.mem_of_getElem? (i := 20) rfl
theorem nx_UOE : Cond.castable "java/lang/UnsupportedOperationException" "java/lang/UnsupportedOperationException" ∈ az_bad := List.mem_of_getElem? (i := 21) rfl
theorem nx_NSE : Cond.castable "java/util/NoSuchElementException" "java/util/NoSuchElementException" ∈ az_bad := List.mem_of_getElem? (i := 22) rfl
section AZU
variable {l : Launch} {G : az_G} {nL : Nat} {Q : State → Prop} {p : Program} {e : Env} {R : Room} {s : State} {m : MethodId} {args : Array Value} {below : List Frame} {meth : Method} {c : Code} {ad : az_A} {K : az_K} {k n pc : Nat} {lv : List (Nat × Value)} {st : List Value}
variable {cc : ByteArray} {own : String} {ret : Option FieldType} {tab : List ExceptionTableEntry} {post : az_O → az_A → az_K → Prop} {mc ms : Nat}
theorem az_bw (C : az_C l G p s m args meth c cc own nL ret tab) (hG : az_okS l G) {w : Cond} (hw : w ∈ az_bad) (ho : w.onTables = true) : w.before args s = true := va_Nw.use ho ((hG.2 _ _ C.hO).2.2.2.1 w hw)
theorem az_ialdN (C : az_C l G p s m args meth c cc own nL ret tab) (r i j : Nat) {N a : Nat} {f : Nat → Int32} {v : Int32} (d : decode cc pc = .ok (.iaload, 1)) (ha : ad r i = a) (hk : K r i = some (.inl (G.2.2.1 0, N, .inl f))) (hj : j < N) (hN : N < 2 ^ 31) (hv : f j = v) (kk : az_W l G nL Q p e R s m args below meth c ad K k n (pc + 1) lv (.int v :: st)) : az_W l G nL Q p e R s m args below meth c ad K k n pc lv (.int (nI j) :: .ref a :: st) :=
  az_iald C r i d ha hk (vp_in_nI hj hN) (by rw [nI_clamp (Nat.lt_trans hj hN), hv]; exact kk)
theorem az_zaldN (C : az_C l G p s m args meth c cc own nL ret tab) (r i j : Nat) {N a : Nat} {f : Nat → Int32} {v : Int32} (d : decode cc pc = .ok (.baload, 1)) (ha : ad r i = a) (hk : K r i = some (.inl (G.2.2.1 1, N, .inl f))) (hj : j < N) (hN : N < 2 ^ 31) (hv : f j = v) (kk : az_W l G nL Q p e R s m args below meth c ad K k n (pc + 1) lv (.int v :: st)) : az_W l G nL Q p e R s m args below meth c ad K k n pc lv (.int (nI j) :: .ref a :: st) :=
  az_zald C r i d ha hk (vp_in_nI hj hN) (by rw [nI_clamp (Nat.lt_trans hj hN), hv]; exact kk)
theorem az_caldN (C : az_C l G p s m args meth c cc own nL ret tab) (r i j : Nat) {N a : Nat} {f : Nat → Int32} {v : Int32} (d : decode cc pc = .ok (.caload, 1)) (ha : ad r i = a) (hk : K r i = some (.inl (G.2.2.1 2, N, .inl f))) (hj : j < N) (hN : N < 2 ^ 31) (hv : f j = v) (kk : az_W l G nL Q p e R s m args below meth c ad K k n (pc + 1) lv (.int v :: st)) : az_W l G nL Q p e R s m args below meth c ad K k n pc lv (.int (nI j) :: .ref a :: st) :=
  az_cald C r i d ha hk (vp_in_nI hj hN) (by rw [nI_clamp (Nat.lt_trans hj hN), hv]; exact kk)
theorem az_baldN (C : az_C l G p s m args meth c cc own nL ret tab) (r i j : Nat) {N a : Nat} {f : Nat → Int32} {v : Int32} (d : decode cc pc = .ok (.baload, 1)) (ha : ad r i = a) (hk : K r i = some (.inl (G.2.2.1 3, N, .inl f))) (hj : j < N) (hN : N < 2 ^ 31) (hv : f j = v) (kk : az_W l G nL Q p e R s m args below meth c ad K k n (pc + 1) lv (.int v :: st)) : az_W l G nL Q p e R s m args below meth c ad K k n pc lv (.int (nI j) :: .ref a :: st) :=
  az_bald C r i d ha hk (vp_in_nI hj hN) (by rw [nI_clamp (Nat.lt_trans hj hN), hv]; exact kk)
theorem az_iastN (C : az_C l G p s m args meth c cc own nL ret tab) (r i j : Nat) {N a : Nat} {f : Nat → Int32} {x : Int32} (d : decode cc pc = .ok (.iastore, 1)) (ha : ad r i = a) (hk : K r i = some (.inl (G.2.2.1 0, N, .inl f))) (hj : j < N) (hN : N < 2 ^ 31) (kk : az_W l G nL Q p e R s m args below meth c ad (az_u K r i (.inl (G.2.2.1 0, N, .inl (upd f j x)))) k n (pc + 1) lv st) : az_W l G nL Q p e R s m args below meth c ad K k n pc lv (.int x :: .int (nI j) :: .ref a :: st) :=
  az_iast C r i d ha hk (vp_in_nI hj hN) (by rw [nI_clamp (Nat.lt_trans hj hN)]; exact kk)
theorem az_zastN (C : az_C l G p s m args meth c cc own nL ret tab) (r i j : Nat) {N a : Nat} {f : Nat → Int32} {x : Int32} (d : decode cc pc = .ok (.bastore, 1)) (ha : ad r i = a) (hk : K r i = some (.inl (G.2.2.1 1, N, .inl f))) (hj : j < N) (hN : N < 2 ^ 31) (kk : az_W l G nL Q p e R s m args below meth c ad (az_u K r i (.inl (G.2.2.1 1, N, .inl (upd f j (vp_nar .boolean x))))) k n (pc + 1) lv st) : az_W l G nL Q p e R s m args below meth c ad K k n pc lv (.int x :: .int (nI j) :: .ref a :: st) :=
  az_zast C r i d ha hk (vp_in_nI hj hN) (by rw [nI_clamp (Nat.lt_trans hj hN)]; exact kk)
theorem az_castN (C : az_C l G p s m args meth c cc own nL ret tab) (r i j : Nat) {N a : Nat} {f : Nat → Int32} {x : Int32} (d : decode cc pc = .ok (.castore, 1)) (ha : ad r i = a) (hk : K r i = some (.inl (G.2.2.1 2, N, .inl f))) (hj : j < N) (hN : N < 2 ^ 31) (kk : az_W l G nL Q p e R s m args below meth c ad (az_u K r i (.inl (G.2.2.1 2, N, .inl (upd f j (vp_nar .char x))))) k n (pc + 1) lv st) : az_W l G nL Q p e R s m args below meth c ad K k n pc lv (.int x :: .int (nI j) :: .ref a :: st) :=
  az_cast C r i d ha hk (vp_in_nI hj hN) (by rw [nI_clamp (Nat.lt_trans hj hN)]; exact kk)
theorem az_bastN (C : az_C l G p s m args meth c cc own nL ret tab) (r i j : Nat) {N a : Nat} {f : Nat → Int32} {x : Int32} (d : decode cc pc = .ok (.bastore, 1)) (ha : ad r i = a) (hk : K r i = some (.inl (G.2.2.1 3, N, .inl f))) (hj : j < N) (hN : N < 2 ^ 31) (kk : az_W l G nL Q p e R s m args below meth c ad (az_u K r i (.inl (G.2.2.1 3, N, .inl (upd f j (vp_nar .byte x))))) k n (pc + 1) lv st) : az_W l G nL Q p e R s m args below meth c ad K k n pc lv (.int x :: .int (nI j) :: .ref a :: st) :=
  az_bast C r i d ha hk (vp_in_nI hj hN) (by rw [nI_clamp (Nat.lt_trans hj hN)]; exact kk)
end AZU
theorem nI_m3 (a : Nat) : nI a - (-3) = nI (a + 3) := by rw [← nI_add]; exact Int32.sub_neg
end
section
section
variable {l : Launch} {G : az_G} {ρ : Rp} {x : Xs} {m : Ms} {ou : Nat → Int64}
theorem nI_c (k : Nat) : (10 : Int32) + nI k - (-3) = nI (k + 13) := by
  rw [show (10 : Int32) + nI k = nI (10 + k) from nI_add 10 k, nI_m3]
  congr 1
  omega
-- Water.at
set_option maxHeartbeats 4000000 in
set_option maxRecDepth 100000 in
theorem kat (hG : az_okS l G) (v : Int32) (j : Nat) (hv : v - (-3) = nI j) (hj : j < 18) : az_M l G yX2_at (az_ws yX2_at cX2_at 2 (Option.some FieldType.int)) 1 [.ref (ρ.1 1), .int v] (AD ρ) (KK G ρ x m ou) 0 0 (az_r (some (.int (x.1 4 j))) (AD ρ) (KK G ρ x m ou)) := by
  refine az_start hG.1 (by decide +kernel) (Nat.le_of_ble_eq_true rfl) ?_
  intro p e s mm args below meth c C hnm
  show az_W l G 2 _ p e _ s mm args below meth c _ _ 0 0 0 [(0, .ref (ρ.1 1)), (1, .int v)] []
  refine az_aload_n C 0 dX2_at_0 rfl ?_
  refine az_get C cX2 0 1 2 (v := .ref (ρ.1 4)) wl_X2_18 dX2_at_1 rfl rfl rfl (by decide) ?_
  refine az_iload_n C 1 dX2_at_4 rfl ?_
  refine az_bipush C (v := (-3)) dX2_at_5 (by decide) ?_
  refine az_isub C dX2_at_7 ?_
  refine az_top (nI j) hv ?_
  refine az_ialdN C 0 4 j (v := x.1 4 j) dX2_at_8 rfl rfl (by omega) (by decide) rfl ?_
  exact az_iret C rfl dX2_at_9 (Nat.le_of_ble_eq_true rfl) (Nat.le_of_ble_eq_true rfl) ⟨rfl, rfl, rfl⟩

-- Water.level
set_option maxHeartbeats 4000000 in
set_option maxRecDepth 100000 in
theorem klevel (hG : az_okS l G) (k : Nat) (hk : k < 6) (ha : ¬ x.1 2 k = 0) : az_M l G yX2_level (az_ws yX2_level cX2_level 2 (Option.some FieldType.int)) 2 [.ref (ρ.1 1), .int (nI k)] (AD ρ) (KK G ρ x m ou) 0 0 (az_r (some (.int (x.1 4 (k + 3) / x.1 2 k))) (AD ρ) (KK G ρ x m ou)) := by
  refine az_start hG.1 (by decide +kernel) (Nat.le_of_ble_eq_true rfl) ?_
  intro p e s mm args below meth c C hnm
  show az_W l G 2 _ p e _ s mm args below meth c _ _ 0 0 0 [(0, .ref (ρ.1 1)), (1, .int (nI k))] []
  refine az_aload_n C 0 dX2_level_0 rfl ?_
  refine az_iload_n C 1 dX2_level_1 rfl ?_
  refine az_callV C Y_X2_at cX2 0 1 [.int (nI k)] [] wm_X2_41 wi_X2_at wse_X2_at dX2_level_2 rfl rfl rfl (kat hG (nI k) (k + 3) (nI_m3 k) (by omega)) rfl (Nat.le_of_ble_eq_true rfl) (Nat.le_of_ble_eq_true rfl) (Nat.le_of_ble_eq_true rfl) (Nat.le_of_ble_eq_true rfl) (Nat.le_of_ble_eq_true rfl) (az_k1 rfl rfl ?_) (az_k0 rfl)
  refine az_aload_n C 0 dX2_level_5 rfl ?_
  refine az_get C cX2 0 1 0 (v := .ref (ρ.1 2)) wl_X2_9 dX2_level_6 rfl rfl rfl (by decide) ?_
  refine az_iload_n C 1 dX2_level_9 rfl ?_
  refine az_ialdN C 0 2 k (v := x.1 2 k) dX2_level_10 rfl rfl (by omega) (by decide) rfl ?_
  refine az_idiv C dX2_level_11 ha ?_
  exact az_iret C rfl dX2_level_12 (Nat.le_of_ble_eq_true rfl) (Nat.le_of_ble_eq_true rfl) ⟨rfl, rfl, rfl⟩

-- Water.hasFullChamber
set_option maxHeartbeats 4000000 in
set_option maxRecDepth 100000 in
theorem kfull (hG : az_okS l G) (k : Nat) (hk : k < 5) : az_M l G yX2_hasFullChamber (az_ws yX2_hasFullChamber cX2_hasFullChamber 2 (Option.some FieldType.boolean)) 2 [.ref (ρ.1 1), .int (nI k)] (AD ρ) (KK G ρ x m ou) 0 0 (az_r (some (.int (if x.1 4 (k + 13) ≤ 0 then 0 else 1))) (AD ρ) (KK G ρ x m ou)) := by
  refine az_start hG.1 (by decide +kernel) (Nat.le_of_ble_eq_true rfl) ?_
  intro p e s mm args below meth c C hnm
  show az_W l G 2 _ p e _ s mm args below meth c _ _ 0 0 0 [(0, .ref (ρ.1 1)), (1, .int (nI k))] []
  refine az_aload_n C 0 dX2_hasFullChamber_0 rfl ?_
  refine az_bipush C (v := 10) dX2_hasFullChamber_1 (by decide) ?_
  refine az_iload_n C 1 dX2_hasFullChamber_3 rfl ?_
  refine az_iadd C dX2_hasFullChamber_4 ?_
  refine az_callV C Y_X2_at cX2 0 1 [.int ((10 + nI k))] [] wm_X2_41 wi_X2_at wse_X2_at dX2_hasFullChamber_5 rfl rfl rfl (kat hG ((10 + nI k)) (k + 13) (nI_c k) (by omega)) rfl (Nat.le_of_ble_eq_true rfl) (Nat.le_of_ble_eq_true rfl) (Nat.le_of_ble_eq_true rfl) (Nat.le_of_ble_eq_true rfl) (Nat.le_of_ble_eq_true rfl) (az_k1 rfl rfl ?_) (az_k0 rfl)
  refine az_if_le C 15 dX2_hasFullChamber_8 (by decide) (fun c1 => ?_) (fun c1 => ?_)
  · refine az_iconst C (v := 0) dX2_hasFullChamber_15 (by decide) ?_
    exact az_zret C .boolean rfl rfl dX2_hasFullChamber_16 (Nat.le_of_ble_eq_true rfl) (Nat.le_of_ble_eq_true rfl) ⟨(by simp only [c1, if_true, if_false]), rfl, rfl⟩
  · refine az_iconst C (v := 1) dX2_hasFullChamber_11 (by decide) ?_
    refine az_goto C 16 dX2_hasFullChamber_12 (by decide) ?_
    exact az_zret C .boolean rfl rfl dX2_hasFullChamber_16 (Nat.le_of_ble_eq_true rfl) (Nat.le_of_ble_eq_true rfl) ⟨(by simp only [c1, if_true, if_false]), rfl, rfl⟩

-- Water.throughTotal
set_option maxHeartbeats 4000000 in
set_option maxRecDepth 100000 in
theorem kthrough (hG : az_okS l G)  : az_M l G yX2_throughTotal (az_ws yX2_throughTotal cX2_throughTotal 3 (Option.some FieldType.int)) 1 [.ref (ρ.1 1)] (AD ρ) (KK G ρ x m ou) 0 0 (az_r (some (.int (0 + x.1 5 0 + x.1 5 1 + x.1 5 2 + x.1 5 3 + x.1 5 4))) (AD ρ) (KK G ρ x m ou)) := by
  refine az_start hG.1 (by decide +kernel) (Nat.le_of_ble_eq_true rfl) ?_
  intro p e s mm args below meth c C hnm
  show az_W l G 3 _ p e _ s mm args below meth c _ _ 0 0 0 [(0, .ref (ρ.1 1))] []
  refine az_iconst C (v := 0) dX2_throughTotal_0 (by decide) ?_
  refine az_istore_n C (lv' := [(1, .int 0), (0, .ref (ρ.1 1))]) (j := 1) rfl dX2_throughTotal_1 (by decide) rfl ?_
  refine az_iconst C (v := 0) dX2_throughTotal_2 (by decide) ?_
  refine az_istore_n C (lv' := [(2, .int 0), (1, .int 0), (0, .ref (ρ.1 1))]) (j := 2) rfl dX2_throughTotal_3 (by decide) rfl ?_
  refine az_iload_n C 0 dX2_throughTotal_4 rfl ?_
  refine az_iconst C (v := 5) dX2_throughTotal_5 (by decide) ?_
  refine az_icmp_ge C 24 dX2_throughTotal_6 (by decide) (fun q => absurd q (by decide)) (fun _ => ?_)
  refine az_iload_n C 1 dX2_throughTotal_9 rfl ?_
  refine az_aload_n C 2 dX2_throughTotal_10 rfl ?_
  refine az_get C cX2 0 1 3 (v := .ref (ρ.1 5)) wl_X2_21 dX2_throughTotal_11 rfl rfl rfl (by decide) ?_
  refine az_iload_n C 0 dX2_throughTotal_14 rfl ?_
  refine az_ialdN C 0 5 0 (v := x.1 5 0) dX2_throughTotal_15 rfl rfl (by decide) (by decide) rfl ?_
  refine az_iadd C dX2_throughTotal_16 ?_
  refine az_istore_n C (lv' := [(1, .int ((0 + x.1 5 0))), (2, .int 0), (0, .ref (ρ.1 1))]) (j := 1) rfl dX2_throughTotal_17 (by decide) rfl ?_
  refine az_iinc C 1 (v := 1) (lv' := [(2, .int 1), (1, .int ((0 + x.1 5 0))), (0, .ref (ρ.1 1))]) dX2_throughTotal_18 rfl (by decide) (by decide) rfl ?_
  refine az_goto C 4 dX2_throughTotal_21 (by decide) ?_
  refine az_iload_n C 0 dX2_throughTotal_4 rfl ?_
  refine az_iconst C (v := 5) dX2_throughTotal_5 (by decide) ?_
  refine az_icmp_ge C 24 dX2_throughTotal_6 (by decide) (fun q => absurd q (by decide)) (fun _ => ?_)
  refine az_iload_n C 1 dX2_throughTotal_9 rfl ?_
  refine az_aload_n C 2 dX2_throughTotal_10 rfl ?_
  refine az_get C cX2 0 1 3 (v := .ref (ρ.1 5)) wl_X2_21 dX2_throughTotal_11 rfl rfl rfl (by decide) ?_
  refine az_iload_n C 0 dX2_throughTotal_14 rfl ?_
  refine az_ialdN C 0 5 1 (v := x.1 5 1) dX2_throughTotal_15 rfl rfl (by decide) (by decide) rfl ?_
  refine az_iadd C dX2_throughTotal_16 ?_
  refine az_istore_n C (lv' := [(1, .int (((0 + x.1 5 0) + x.1 5 1))), (2, .int 1), (0, .ref (ρ.1 1))]) (j := 1) rfl dX2_throughTotal_17 (by decide) rfl ?_
  refine az_iinc C 1 (v := 2) (lv' := [(2, .int 2), (1, .int (((0 + x.1 5 0) + x.1 5 1))), (0, .ref (ρ.1 1))]) dX2_throughTotal_18 rfl (by decide) (by decide) rfl ?_
  refine az_goto C 4 dX2_throughTotal_21 (by decide) ?_
  refine az_iload_n C 0 dX2_throughTotal_4 rfl ?_
  refine az_iconst C (v := 5) dX2_throughTotal_5 (by decide) ?_
  refine az_icmp_ge C 24 dX2_throughTotal_6 (by decide) (fun q => absurd q (by decide)) (fun _ => ?_)
  refine az_iload_n C 1 dX2_throughTotal_9 rfl ?_
  refine az_aload_n C 2 dX2_throughTotal_10 rfl ?_
  refine az_get C cX2 0 1 3 (v := .ref (ρ.1 5)) wl_X2_21 dX2_throughTotal_11 rfl rfl rfl (by decide) ?_
  refine az_iload_n C 0 dX2_throughTotal_14 rfl ?_
  refine az_ialdN C 0 5 2 (v := x.1 5 2) dX2_throughTotal_15 rfl rfl (by decide) (by decide) rfl ?_
  refine az_iadd C dX2_throughTotal_16 ?_
  refine az_istore_n C (lv' := [(1, .int ((((0 + x.1 5 0) + x.1 5 1) + x.1 5 2))), (2, .int 2), (0, .ref (ρ.1 1))]) (j := 1) rfl dX2_throughTotal_17 (by decide) rfl ?_
  refine az_iinc C 1 (v := 3) (lv' := [(2, .int 3), (1, .int ((((0 + x.1 5 0) + x.1 5 1) + x.1 5 2))), (0, .ref (ρ.1 1))]) dX2_throughTotal_18 rfl (by decide) (by decide) rfl ?_
  refine az_goto C 4 dX2_throughTotal_21 (by decide) ?_
  refine az_iload_n C 0 dX2_throughTotal_4 rfl ?_
  refine az_iconst C (v := 5) dX2_throughTotal_5 (by decide) ?_
  refine az_icmp_ge C 24 dX2_throughTotal_6 (by decide) (fun q => absurd q (by decide)) (fun _ => ?_)
  refine az_iload_n C 1 dX2_throughTotal_9 rfl ?_
  refine az_aload_n C 2 dX2_throughTotal_10 rfl ?_
  refine az_get C cX2 0 1 3 (v := .ref (ρ.1 5)) wl_X2_21 dX2_throughTotal_11 rfl rfl rfl (by decide) ?_
  refine az_iload_n C 0 dX2_throughTotal_14 rfl ?_
  refine az_ialdN C 0 5 3 (v := x.1 5 3) dX2_throughTotal_15 rfl rfl (by decide) (by decide) rfl ?_
  refine az_iadd C dX2_throughTotal_16 ?_
  refine az_istore_n C (lv' := [(1, .int (((((0 + x.1 5 0) + x.1 5 1) + x.1 5 2) + x.1 5 3))), (2, .int 3), (0, .ref (ρ.1 1))]) (j := 1) rfl dX2_throughTotal_17 (by decide) rfl ?_
  refine az_iinc C 1 (v := 4) (lv' := [(2, .int 4), (1, .int (((((0 + x.1 5 0) + x.1 5 1) + x.1 5 2) + x.1 5 3))), (0, .ref (ρ.1 1))]) dX2_throughTotal_18 rfl (by decide) (by decide) rfl ?_
  refine az_goto C 4 dX2_throughTotal_21 (by decide) ?_
  refine az_iload_n C 0 dX2_throughTotal_4 rfl ?_
  refine az_iconst C (v := 5) dX2_throughTotal_5 (by decide) ?_
  refine az_icmp_ge C 24 dX2_throughTotal_6 (by decide) (fun q => absurd q (by decide)) (fun _ => ?_)
  refine az_iload_n C 1 dX2_throughTotal_9 rfl ?_
  refine az_aload_n C 2 dX2_throughTotal_10 rfl ?_
  refine az_get C cX2 0 1 3 (v := .ref (ρ.1 5)) wl_X2_21 dX2_throughTotal_11 rfl rfl rfl (by decide) ?_
  refine az_iload_n C 0 dX2_throughTotal_14 rfl ?_
  refine az_ialdN C 0 5 4 (v := x.1 5 4) dX2_throughTotal_15 rfl rfl (by decide) (by decide) rfl ?_
  refine az_iadd C dX2_throughTotal_16 ?_
  refine az_istore_n C (lv' := [(1, .int ((((((0 + x.1 5 0) + x.1 5 1) + x.1 5 2) + x.1 5 3) + x.1 5 4))), (2, .int 4), (0, .ref (ρ.1 1))]) (j := 1) rfl dX2_throughTotal_17 (by decide) rfl ?_
  refine az_iinc C 1 (v := 5) (lv' := [(2, .int 5), (1, .int ((((((0 + x.1 5 0) + x.1 5 1) + x.1 5 2) + x.1 5 3) + x.1 5 4))), (0, .ref (ρ.1 1))]) dX2_throughTotal_18 rfl (by decide) (by decide) rfl ?_
  refine az_goto C 4 dX2_throughTotal_21 (by decide) ?_
  refine az_iload_n C 0 dX2_throughTotal_4 rfl ?_
  refine az_iconst C (v := 5) dX2_throughTotal_5 (by decide) ?_
  refine az_icmp_ge C 24 dX2_throughTotal_6 (by decide) (fun _ => ?_) (fun q => absurd (by decide) q)
  refine az_iload_n C 1 dX2_throughTotal_24 rfl ?_
  exact az_iret C rfl dX2_throughTotal_25 (Nat.le_of_ble_eq_true rfl) (Nat.le_of_ble_eq_true rfl) ⟨rfl, rfl, rfl⟩

end
end
section
theorem az_end : True := trivial
end
