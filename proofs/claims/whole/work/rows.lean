section
-- ===== PART A: goes FIRST, ahead of the names: the tables' words, and 'selects' of the private methods out of them =====
/-- a private method of a class that the tables say can be made, by its rows of tables_1 -/
def lw_okq (q : MethodName × Nat) : Prop := (q.1.cls ≠ "java/lang/invoke/MethodHandle" ∧ q.1.cls ≠ "java/lang/invoke/VarHandle") ∧ Cond.instantiable q.1.cls q.2 ∈ tables_1 ∧ Cond.privateMethod q.1 ∈ tables_1 ∧ Cond.instanceMethod q.1 ∈ tables_1
theorem lw_p0 : lw_okq (⟨"StormBasin", "tryPastRain", "(II)I"⟩, 9) := ⟨⟨by decide +kernel, by decide +kernel⟩, List.mem_of_getElem? (i := 36) (by decide +kernel), List.mem_of_getElem? (i := 222) (by decide +kernel), List.mem_of_getElem? (i := 223) (by decide +kernel)⟩
theorem lw_p1 : lw_okq (⟨"StormBasin", "moveWater", "(LStormBasin$Water;III)V"⟩, 9) := ⟨⟨by decide +kernel, by decide +kernel⟩, List.mem_of_getElem? (i := 36) (by decide +kernel), List.mem_of_getElem? (i := 233) (by decide +kernel), List.mem_of_getElem? (i := 234) (by decide +kernel)⟩
theorem lw_p2 : lw_okq (⟨"StormBasin", "openingBy", "(LStormBasin$Water;I)I"⟩, 9) := ⟨⟨by decide +kernel, by decide +kernel⟩, List.mem_of_getElem? (i := 36) (by decide +kernel), List.mem_of_getElem? (i := 238) (by decide +kernel), List.mem_of_getElem? (i := 239) (by decide +kernel)⟩
theorem lw_p3 : lw_okq (⟨"StormBasin", "holdsBy", "(LStormBasin$Water;LStormBasin$Rule;)Z"⟩, 9) := ⟨⟨by decide +kernel, by decide +kernel⟩, List.mem_of_getElem? (i := 36) (by decide +kernel), List.mem_of_getElem? (i := 243) (by decide +kernel), List.mem_of_getElem? (i := 244) (by decide +kernel)⟩
theorem lw_p4 : lw_okq (⟨"StormBasin", "levelBy", "(LStormBasin$Water;I)I"⟩, 9) := ⟨⟨by decide +kernel, by decide +kernel⟩, List.mem_of_getElem? (i := 36) (by decide +kernel), List.mem_of_getElem? (i := 247) (by decide +kernel), List.mem_of_getElem? (i := 248) (by decide +kernel)⟩
theorem lw_p5 : lw_okq (⟨"StormBasin", "wetCellsBy", "(LStormBasin$Water;)I"⟩, 9) := ⟨⟨by decide +kernel, by decide +kernel⟩, List.mem_of_getElem? (i := 36) (by decide +kernel), List.mem_of_getElem? (i := 267) (by decide +kernel), List.mem_of_getElem? (i := 268) (by decide +kernel)⟩
theorem lw_p6 : lw_okq (⟨"java/lang/Throwable", "fillInStackTrace", "(I)Ljava/lang/Throwable;"⟩, 6) := ⟨⟨by decide +kernel, by decide +kernel⟩, List.mem_of_getElem? (i := 317) (by decide +kernel), List.mem_of_getElem? (i := 315) (by decide +kernel), List.mem_of_getElem? (i := 316) (by decide +kernel)⟩
theorem lw_p7 : lw_okq (⟨"StormBasin", "requireBeforeFirstHour", "()V"⟩, 9) := ⟨⟨by decide +kernel, by decide +kernel⟩, List.mem_of_getElem? (i := 36) (by decide +kernel), List.mem_of_getElem? (i := 420) (by decide +kernel), List.mem_of_getElem? (i := 421) (by decide +kernel)⟩
theorem lw_p8 : lw_okq (⟨"java/util/ArrayList", "add", "(Ljava/lang/Object;[Ljava/lang/Object;I)V"⟩, 3) := ⟨⟨by decide +kernel, by decide +kernel⟩, List.mem_of_getElem? (i := 44) (by decide +kernel), List.mem_of_getElem? (i := 489) (by decide +kernel), List.mem_of_getElem? (i := 490) (by decide +kernel)⟩
theorem lw_p9 : lw_okq (⟨"java/util/ArrayList", "grow", "()[Ljava/lang/Object;"⟩, 3) := ⟨⟨by decide +kernel, by decide +kernel⟩, List.mem_of_getElem? (i := 44) (by decide +kernel), List.mem_of_getElem? (i := 493) (by decide +kernel), List.mem_of_getElem? (i := 494) (by decide +kernel)⟩
theorem lw_p10 : lw_okq (⟨"java/util/ArrayList", "grow", "(I)[Ljava/lang/Object;"⟩, 3) := ⟨⟨by decide +kernel, by decide +kernel⟩, List.mem_of_getElem? (i := 44) (by decide +kernel), List.mem_of_getElem? (i := 497) (by decide +kernel), List.mem_of_getElem? (i := 498) (by decide +kernel)⟩
theorem lw_p11 : lw_okq (⟨"StormBasin", "basinOf", "(I)LStormBasin$Basin;"⟩, 9) := ⟨⟨by decide +kernel, by decide +kernel⟩, List.mem_of_getElem? (i := 36) (by decide +kernel), List.mem_of_getElem? (i := 555) (by decide +kernel), List.mem_of_getElem? (i := 556) (by decide +kernel)⟩
theorem lw_p12 : lw_okq (⟨"StormBasin", "requireBasin", "(I)V"⟩, 9) := ⟨⟨by decide +kernel, by decide +kernel⟩, List.mem_of_getElem? (i := 36) (by decide +kernel), List.mem_of_getElem? (i := 559) (by decide +kernel), List.mem_of_getElem? (i := 560) (by decide +kernel)⟩
theorem lw_p13 : lw_okq (⟨"StormBasin$Street", "volumeBefore", "(I)I"⟩, 5) := ⟨⟨by decide +kernel, by decide +kernel⟩, List.mem_of_getElem? (i := 430) (by decide +kernel), List.mem_of_getElem? (i := 569) (by decide +kernel), List.mem_of_getElem? (i := 570) (by decide +kernel)⟩
theorem lw_p14 : lw_okq (⟨"StormBasin$Street", "cellsAhead", "(II)I"⟩, 5) := ⟨⟨by decide +kernel, by decide +kernel⟩, List.mem_of_getElem? (i := 430) (by decide +kernel), List.mem_of_getElem? (i := 573) (by decide +kernel), List.mem_of_getElem? (i := 574) (by decide +kernel)⟩
theorem lw_p15 : lw_okq (⟨"StormBasin", "requireRule", "(I)V"⟩, 9) := ⟨⟨by decide +kernel, by decide +kernel⟩, List.mem_of_getElem? (i := 36) (by decide +kernel), List.mem_of_getElem? (i := 645) (by decide +kernel), List.mem_of_getElem? (i := 646) (by decide +kernel)⟩
def lw_privs_1 : List (MethodName × Nat) := [(⟨"StormBasin", "tryPastRain", "(II)I"⟩, 9), (⟨"StormBasin", "moveWater", "(LStormBasin$Water;III)V"⟩, 9), (⟨"StormBasin", "openingBy", "(LStormBasin$Water;I)I"⟩, 9), (⟨"StormBasin", "holdsBy", "(LStormBasin$Water;LStormBasin$Rule;)Z"⟩, 9), (⟨"StormBasin", "levelBy", "(LStormBasin$Water;I)I"⟩, 9), (⟨"StormBasin", "wetCellsBy", "(LStormBasin$Water;)I"⟩, 9), (⟨"java/lang/Throwable", "fillInStackTrace", "(I)Ljava/lang/Throwable;"⟩, 6), (⟨"StormBasin", "requireBeforeFirstHour", "()V"⟩, 9), (⟨"java/util/ArrayList", "add", "(Ljava/lang/Object;[Ljava/lang/Object;I)V"⟩, 3), (⟨"java/util/ArrayList", "grow", "()[Ljava/lang/Object;"⟩, 3), (⟨"java/util/ArrayList", "grow", "(I)[Ljava/lang/Object;"⟩, 3), (⟨"StormBasin", "basinOf", "(I)LStormBasin$Basin;"⟩, 9), (⟨"StormBasin", "requireBasin", "(I)V"⟩, 9), (⟨"StormBasin$Street", "volumeBefore", "(I)I"⟩, 5), (⟨"StormBasin$Street", "cellsAhead", "(II)I"⟩, 5), (⟨"StormBasin", "requireRule", "(I)V"⟩, 9)]
theorem lw_r1 : ∀ q ∈ lw_privs_1, lw_okq q := List.forall_mem_cons.mpr ⟨lw_p0, List.forall_mem_cons.mpr ⟨lw_p1, List.forall_mem_cons.mpr ⟨lw_p2, List.forall_mem_cons.mpr ⟨lw_p3, List.forall_mem_cons.mpr ⟨lw_p4, List.forall_mem_cons.mpr ⟨lw_p5, List.forall_mem_cons.mpr ⟨lw_p6, List.forall_mem_cons.mpr ⟨lw_p7, List.forall_mem_cons.mpr ⟨lw_p8, List.forall_mem_cons.mpr ⟨lw_p9, List.forall_mem_cons.mpr ⟨lw_p10, List.forall_mem_cons.mpr ⟨lw_p11, List.forall_mem_cons.mpr ⟨lw_p12, List.forall_mem_cons.mpr ⟨lw_p13, List.forall_mem_cons.mpr ⟨lw_p14, List.forall_mem_cons.mpr ⟨lw_p15, fun _ h => absurd h List.not_mem_nil⟩⟩⟩⟩⟩⟩⟩⟩⟩⟩⟩⟩⟩⟩⟩⟩
theorem lw_p16 : lw_okq (⟨"java/util/ArrayList", "fastRemove", "([Ljava/lang/Object;I)V"⟩, 3) := ⟨⟨by decide +kernel, by decide +kernel⟩, List.mem_of_getElem? (i := 44) (by decide +kernel), List.mem_of_getElem? (i := 654) (by decide +kernel), List.mem_of_getElem? (i := 655) (by decide +kernel)⟩
theorem lw_p17 : lw_okq (⟨"StormBasin", "passOneHour", "()V"⟩, 9) := ⟨⟨by decide +kernel, by decide +kernel⟩, List.mem_of_getElem? (i := 36) (by decide +kernel), List.mem_of_getElem? (i := 695) (by decide +kernel), List.mem_of_getElem? (i := 696) (by decide +kernel)⟩
theorem lw_p18 : lw_okq (⟨"StormBasin", "streetWith", "(II)LStormBasin$Street;"⟩, 9) := ⟨⟨by decide +kernel, by decide +kernel⟩, List.mem_of_getElem? (i := 36) (by decide +kernel), List.mem_of_getElem? (i := 727) (by decide +kernel), List.mem_of_getElem? (i := 728) (by decide +kernel)⟩
theorem lw_p19 : lw_okq (⟨"StormBasin$Street", "cellsUpTo", "(I)I"⟩, 5) := ⟨⟨by decide +kernel, by decide +kernel⟩, List.mem_of_getElem? (i := 430) (by decide +kernel), List.mem_of_getElem? (i := 736) (by decide +kernel), List.mem_of_getElem? (i := 737) (by decide +kernel)⟩
theorem lw_p20 : lw_okq (⟨"StormBasin$Street", "lowestCell", "()I"⟩, 5) := ⟨⟨by decide +kernel, by decide +kernel⟩, List.mem_of_getElem? (i := 430) (by decide +kernel), List.mem_of_getElem? (i := 752) (by decide +kernel), List.mem_of_getElem? (i := 753) (by decide +kernel)⟩
theorem lw_p21 : lw_okq (⟨"StormBasin", "requireHour", "(I)V"⟩, 9) := ⟨⟨by decide +kernel, by decide +kernel⟩, List.mem_of_getElem? (i := 36) (by decide +kernel), List.mem_of_getElem? (i := 763) (by decide +kernel), List.mem_of_getElem? (i := 764) (by decide +kernel)⟩
theorem lw_p22 : lw_okq (⟨"StormBasin", "houseOf", "(I)LStormBasin$House;"⟩, 9) := ⟨⟨by decide +kernel, by decide +kernel⟩, List.mem_of_getElem? (i := 36) (by decide +kernel), List.mem_of_getElem? (i := 830) (by decide +kernel), List.mem_of_getElem? (i := 831) (by decide +kernel)⟩
theorem lw_p23 : lw_okq (⟨"StormBasinModel", "isNone", "(I)Z"⟩, 38) := ⟨⟨by decide +kernel, by decide +kernel⟩, List.mem_of_getElem? (i := 1253) (by decide +kernel), List.mem_of_getElem? (i := 1383) (by decide +kernel), List.mem_of_getElem? (i := 1384) (by decide +kernel)⟩
theorem lw_p24 : lw_okq (⟨"StormBasinModel", "fails", "(I)Z"⟩, 38) := ⟨⟨by decide +kernel, by decide +kernel⟩, List.mem_of_getElem? (i := 1253) (by decide +kernel), List.mem_of_getElem? (i := 1390) (by decide +kernel), List.mem_of_getElem? (i := 1391) (by decide +kernel)⟩
theorem lw_p25 : lw_okq (⟨"StormBasinModel", "tells", "(I)I"⟩, 38) := ⟨⟨by decide +kernel, by decide +kernel⟩, List.mem_of_getElem? (i := 1253) (by decide +kernel), List.mem_of_getElem? (i := 1402) (by decide +kernel), List.mem_of_getElem? (i := 1403) (by decide +kernel)⟩
theorem lw_p26 : lw_okq (⟨"StormBasinModel", "holds", "(I)I"⟩, 38) := ⟨⟨by decide +kernel, by decide +kernel⟩, List.mem_of_getElem? (i := 1253) (by decide +kernel), List.mem_of_getElem? (i := 1414) (by decide +kernel), List.mem_of_getElem? (i := 1415) (by decide +kernel)⟩
theorem lw_p27 : lw_okq (⟨"StormBasinModel", "isNoRule", "(I)Z"⟩, 38) := ⟨⟨by decide +kernel, by decide +kernel⟩, List.mem_of_getElem? (i := 1253) (by decide +kernel), List.mem_of_getElem? (i := 1430) (by decide +kernel), List.mem_of_getElem? (i := 1431) (by decide +kernel)⟩
theorem lw_p28 : lw_okq (⟨"StormBasinModel", "isTrue", "(I[I)Z"⟩, 38) := ⟨⟨by decide +kernel, by decide +kernel⟩, List.mem_of_getElem? (i := 1253) (by decide +kernel), List.mem_of_getElem? (i := 1442) (by decide +kernel), List.mem_of_getElem? (i := 1443) (by decide +kernel)⟩
theorem lw_p29 : lw_okq (⟨"StormBasinModel", "opening", "(I[I)I"⟩, 38) := ⟨⟨by decide +kernel, by decide +kernel⟩, List.mem_of_getElem? (i := 1253) (by decide +kernel), List.mem_of_getElem? (i := 1450) (by decide +kernel), List.mem_of_getElem? (i := 1451) (by decide +kernel)⟩
theorem lw_p30 : lw_okq (⟨"StormBasinModel", "flows", "([I[I)I"⟩, 38) := ⟨⟨by decide +kernel, by decide +kernel⟩, List.mem_of_getElem? (i := 1253) (by decide +kernel), List.mem_of_getElem? (i := 1462) (by decide +kernel), List.mem_of_getElem? (i := 1463) (by decide +kernel)⟩
theorem lw_p31 : lw_okq (⟨"StormBasinModel", "held", "()I"⟩, 38) := ⟨⟨by decide +kernel, by decide +kernel⟩, List.mem_of_getElem? (i := 1253) (by decide +kernel), List.mem_of_getElem? (i := 1497) (by decide +kernel), List.mem_of_getElem? (i := 1498) (by decide +kernel)⟩
def lw_privs_2 : List (MethodName × Nat) := [(⟨"java/util/ArrayList", "fastRemove", "([Ljava/lang/Object;I)V"⟩, 3), (⟨"StormBasin", "passOneHour", "()V"⟩, 9), (⟨"StormBasin", "streetWith", "(II)LStormBasin$Street;"⟩, 9), (⟨"StormBasin$Street", "cellsUpTo", "(I)I"⟩, 5), (⟨"StormBasin$Street", "lowestCell", "()I"⟩, 5), (⟨"StormBasin", "requireHour", "(I)V"⟩, 9), (⟨"StormBasin", "houseOf", "(I)LStormBasin$House;"⟩, 9), (⟨"StormBasinModel", "isNone", "(I)Z"⟩, 38), (⟨"StormBasinModel", "fails", "(I)Z"⟩, 38), (⟨"StormBasinModel", "tells", "(I)I"⟩, 38), (⟨"StormBasinModel", "holds", "(I)I"⟩, 38), (⟨"StormBasinModel", "isNoRule", "(I)Z"⟩, 38), (⟨"StormBasinModel", "isTrue", "(I[I)Z"⟩, 38), (⟨"StormBasinModel", "opening", "(I[I)I"⟩, 38), (⟨"StormBasinModel", "flows", "([I[I)I"⟩, 38), (⟨"StormBasinModel", "held", "()I"⟩, 38)]
theorem lw_r2 : ∀ q ∈ lw_privs_2, lw_okq q := List.forall_mem_cons.mpr ⟨lw_p16, List.forall_mem_cons.mpr ⟨lw_p17, List.forall_mem_cons.mpr ⟨lw_p18, List.forall_mem_cons.mpr ⟨lw_p19, List.forall_mem_cons.mpr ⟨lw_p20, List.forall_mem_cons.mpr ⟨lw_p21, List.forall_mem_cons.mpr ⟨lw_p22, List.forall_mem_cons.mpr ⟨lw_p23, List.forall_mem_cons.mpr ⟨lw_p24, List.forall_mem_cons.mpr ⟨lw_p25, List.forall_mem_cons.mpr ⟨lw_p26, List.forall_mem_cons.mpr ⟨lw_p27, List.forall_mem_cons.mpr ⟨lw_p28, List.forall_mem_cons.mpr ⟨lw_p29, List.forall_mem_cons.mpr ⟨lw_p30, List.forall_mem_cons.mpr ⟨lw_p31, fun _ h => absurd h List.not_mem_nil⟩⟩⟩⟩⟩⟩⟩⟩⟩⟩⟩⟩⟩⟩⟩⟩
theorem lw_p32 : lw_okq (⟨"StormBasinModel", "deep", "(II)I"⟩, 38) := ⟨⟨by decide +kernel, by decide +kernel⟩, List.mem_of_getElem? (i := 1253) (by decide +kernel), List.mem_of_getElem? (i := 1509) (by decide +kernel), List.mem_of_getElem? (i := 1510) (by decide +kernel)⟩
theorem lw_p33 : lw_okq (⟨"StormBasinModel", "isNoCell", "(II)Z"⟩, 38) := ⟨⟨by decide +kernel, by decide +kernel⟩, List.mem_of_getElem? (i := 1253) (by decide +kernel), List.mem_of_getElem? (i := 1513) (by decide +kernel), List.mem_of_getElem? (i := 1514) (by decide +kernel)⟩
theorem lw_p34 : lw_okq (⟨"StormBasinModel", "depth", "(III)I"⟩, 38) := ⟨⟨by decide +kernel, by decide +kernel⟩, List.mem_of_getElem? (i := 1253) (by decide +kernel), List.mem_of_getElem? (i := 1517) (by decide +kernel), List.mem_of_getElem? (i := 1518) (by decide +kernel)⟩
theorem lw_p35 : lw_okq (⟨"StormBasinModel", "heightOf", "(II)I"⟩, 38) := ⟨⟨by decide +kernel, by decide +kernel⟩, List.mem_of_getElem? (i := 1253) (by decide +kernel), List.mem_of_getElem? (i := 1521) (by decide +kernel), List.mem_of_getElem? (i := 1522) (by decide +kernel)⟩
theorem lw_p36 : lw_okq (⟨"StormBasinModel", "upTo", "(II)I"⟩, 38) := ⟨⟨by decide +kernel, by decide +kernel⟩, List.mem_of_getElem? (i := 1253) (by decide +kernel), List.mem_of_getElem? (i := 1525) (by decide +kernel), List.mem_of_getElem? (i := 1526) (by decide +kernel)⟩
theorem lw_p37 : lw_okq (⟨"StormBasinModel", "then", "(III)I"⟩, 38) := ⟨⟨by decide +kernel, by decide +kernel⟩, List.mem_of_getElem? (i := 1253) (by decide +kernel), List.mem_of_getElem? (i := 1537) (by decide +kernel), List.mem_of_getElem? (i := 1538) (by decide +kernel)⟩
theorem lw_p38 : lw_okq (⟨"StormBasinModel", "wet", "(II)I"⟩, 38) := ⟨⟨by decide +kernel, by decide +kernel⟩, List.mem_of_getElem? (i := 1253) (by decide +kernel), List.mem_of_getElem? (i := 1545) (by decide +kernel), List.mem_of_getElem? (i := 1546) (by decide +kernel)⟩
theorem lw_p39 : lw_okq (⟨"StormBasinModel", "isNoHour", "(II)Z"⟩, 38) := ⟨⟨by decide +kernel, by decide +kernel⟩, List.mem_of_getElem? (i := 1253) (by decide +kernel), List.mem_of_getElem? (i := 1569) (by decide +kernel), List.mem_of_getElem? (i := 1570) (by decide +kernel)⟩
theorem lw_p40 : lw_okq (⟨"StormBasinModel", "isNoHouse", "(I)Z"⟩, 38) := ⟨⟨by decide +kernel, by decide +kernel⟩, List.mem_of_getElem? (i := 1253) (by decide +kernel), List.mem_of_getElem? (i := 1573) (by decide +kernel), List.mem_of_getElem? (i := 1574) (by decide +kernel)⟩
theorem lw_p41 : lw_okq (⟨"StormBasinModel", "worth", "(II)I"⟩, 38) := ⟨⟨by decide +kernel, by decide +kernel⟩, List.mem_of_getElem? (i := 1253) (by decide +kernel), List.mem_of_getElem? (i := 1577) (by decide +kernel), List.mem_of_getElem? (i := 1578) (by decide +kernel)⟩
theorem lw_p42 : lw_okq (⟨"StormBasinModel", "pays", "(II)I"⟩, 38) := ⟨⟨by decide +kernel, by decide +kernel⟩, List.mem_of_getElem? (i := 1253) (by decide +kernel), List.mem_of_getElem? (i := 1589) (by decide +kernel), List.mem_of_getElem? (i := 1590) (by decide +kernel)⟩
theorem lw_p43 : lw_okq (⟨"StormBasinModel", "allPaid", "()J"⟩, 38) := ⟨⟨by decide +kernel, by decide +kernel⟩, List.mem_of_getElem? (i := 1253) (by decide +kernel), List.mem_of_getElem? (i := 1609) (by decide +kernel), List.mem_of_getElem? (i := 1610) (by decide +kernel)⟩
theorem lw_p44 : lw_okq (⟨"StormBasinModel", "trial", "(II)I"⟩, 38) := ⟨⟨by decide +kernel, by decide +kernel⟩, List.mem_of_getElem? (i := 1253) (by decide +kernel), List.mem_of_getElem? (i := 1621) (by decide +kernel), List.mem_of_getElem? (i := 1622) (by decide +kernel)⟩
theorem lw_p45 : lw_okq (⟨"StormBasinModel", "putsNumber", "(I)V"⟩, 38) := ⟨⟨by decide +kernel, by decide +kernel⟩, List.mem_of_getElem? (i := 1253) (by decide +kernel), List.mem_of_getElem? (i := 1637) (by decide +kernel), List.mem_of_getElem? (i := 1638) (by decide +kernel)⟩
theorem lw_p46 : lw_okq (⟨"StormBasinModel", "puts", "(C)V"⟩, 38) := ⟨⟨by decide +kernel, by decide +kernel⟩, List.mem_of_getElem? (i := 1253) (by decide +kernel), List.mem_of_getElem? (i := 1641) (by decide +kernel), List.mem_of_getElem? (i := 1642) (by decide +kernel)⟩
def lw_privs_3 : List (MethodName × Nat) := [(⟨"StormBasinModel", "deep", "(II)I"⟩, 38), (⟨"StormBasinModel", "isNoCell", "(II)Z"⟩, 38), (⟨"StormBasinModel", "depth", "(III)I"⟩, 38), (⟨"StormBasinModel", "heightOf", "(II)I"⟩, 38), (⟨"StormBasinModel", "upTo", "(II)I"⟩, 38), (⟨"StormBasinModel", "then", "(III)I"⟩, 38), (⟨"StormBasinModel", "wet", "(II)I"⟩, 38), (⟨"StormBasinModel", "isNoHour", "(II)Z"⟩, 38), (⟨"StormBasinModel", "isNoHouse", "(I)Z"⟩, 38), (⟨"StormBasinModel", "worth", "(II)I"⟩, 38), (⟨"StormBasinModel", "pays", "(II)I"⟩, 38), (⟨"StormBasinModel", "allPaid", "()J"⟩, 38), (⟨"StormBasinModel", "trial", "(II)I"⟩, 38), (⟨"StormBasinModel", "putsNumber", "(I)V"⟩, 38), (⟨"StormBasinModel", "puts", "(C)V"⟩, 38)]
theorem lw_r3 : ∀ q ∈ lw_privs_3, lw_okq q := List.forall_mem_cons.mpr ⟨lw_p32, List.forall_mem_cons.mpr ⟨lw_p33, List.forall_mem_cons.mpr ⟨lw_p34, List.forall_mem_cons.mpr ⟨lw_p35, List.forall_mem_cons.mpr ⟨lw_p36, List.forall_mem_cons.mpr ⟨lw_p37, List.forall_mem_cons.mpr ⟨lw_p38, List.forall_mem_cons.mpr ⟨lw_p39, List.forall_mem_cons.mpr ⟨lw_p40, List.forall_mem_cons.mpr ⟨lw_p41, List.forall_mem_cons.mpr ⟨lw_p42, List.forall_mem_cons.mpr ⟨lw_p43, List.forall_mem_cons.mpr ⟨lw_p44, List.forall_mem_cons.mpr ⟨lw_p45, List.forall_mem_cons.mpr ⟨lw_p46, fun _ h => absurd h List.not_mem_nil⟩⟩⟩⟩⟩⟩⟩⟩⟩⟩⟩⟩⟩⟩⟩
def lw_privs : List (MethodName × Nat) := lw_privs_1 ++ (lw_privs_2 ++ (lw_privs_3))
def lw_tbl : List Cond := k2_sels lw_privs ++ tables_1
theorem lw_privs_ok : ∀ q ∈ lw_privs, lw_okq q := by
  show ∀ q ∈ lw_privs_1 ++ (lw_privs_2 ++ (lw_privs_3)), lw_okq q
  exact List.forall_mem_append.mpr ⟨lw_r1, List.forall_mem_append.mpr ⟨lw_r2, lw_r3⟩⟩
/-- the streams that the claim lets the run draw from -/
abbrev lw_cs : List Choice := [Jvm.Choice.named "NaN.bits"]
theorem lw_bits : nanBits ∈ lw_cs := by first | decide | exact List.mem_cons_self | simp [lw_cs, nanBits]
-- ===== end of PART A; then your names; then what follows =====
end
section
/-! ===== BEGIN words of one list among another's, by their places ===== -/
theorem goodIn_r {big : List Cond} (ws : List Cond) (ps : List Nat) (hp : ws = ps.filterMap (fun i => big[i]?)) (h : ws.all goodWord = true) : GoodIn big ws := by
  intro w hw
  have h1 := List.all_eq_true.mp h w hw
  rw [hp] at hw
  obtain ⟨i, -, hi⟩ := List.mem_filterMap.mp hw
  have hm : w ∈ big := by first | exact List.mem_of_getElem? hi | exact List.getElem?_mem hi
  exact ⟨hm, good_of_word h1⟩
theorem goodIn_app {big a b : List Cond} (ha : GoodIn big a) (hb : GoodIn big b) : GoodIn big (a ++ b) := fun w h => (List.mem_append.mp h).elim (ha w) (hb w)
theorem goodIn_ca {big a b : List Cond} {c : Cond} (ha : GoodIn big (c :: a)) (hb : GoodIn big b) : GoodIn big (c :: (a ++ b)) := fun w h => (List.mem_cons.mp h).elim (fun e => ha w (List.mem_cons.mpr (Or.inl e))) (fun h => (List.mem_append.mp h).elim (fun h => ha w (List.mem_cons.mpr (Or.inr h))) (hb w))
theorem goodIn_sub {big ws : List Cond} (hm : ∀ w ∈ ws, w ∈ big) (h : ws.all goodWord = true) : GoodIn big ws := fun w hw => ⟨hm w hw, good_of_word (List.all_eq_true.mp h w hw)⟩
/-! ===== END ===== -/

/-! ===== BEGIN exceptions that leave a method, and their catching by the caller (launches without stack traces) ===== -/
section VXA
/-! The laws vx_back, vx_callV, vx_callS, vx_callSW, vx_throw0, vx_throwS follow proofs of the library, with one case more: JvmDerived/Free/Laws.lean (Back.of_free), Shelf42/LK1.lean (callV, callS), Shelf/KitTraced.lean (throwNew0V, throwNewS). -/
/-- where a method has thrown q: the class by its name, the cell, what was written, the world -/
def vx_T (XC : String → State → State → Prop) (st : State) (q : Addr) (t : State) (mc ms : Nat) (free : Addr → Prop) : Prop :=
  ∃ (E : String) (ce : Cell) (L : List Loc), XC E st t ∧ t.heap[q]? = some ce ∧ ce.vm = .none ∧ st.vm.findClass E = some ce.cls ∧ st.WarmedH t.vm ∧ st.sameButNew ({ t with vm := st.vm } : State) L mc ms ∧ ∀ z ∈ L, free z.base
def vx_Q (Qc : Array Value → State → Outcome → State → Prop) (XC : String → State → State → Prop) (mc ms : Nat) (free : Addr → Prop) : Array Value → State → Outcome → State → Prop := fun a st o t =>
  (Qc a st o t ∧ ∃ L, FrameEnd st o t L mc ms ∧ ∀ q ∈ L, free q.base) ∨ ∃ q, o = .threw q ∧ vx_T XC st q t mc ms free
/-- a callee that returns or throws -/
def vx_Met (l : Launch) (y : MethodName) (ws : List Cond) (rm : Room) (Pc : Array Value → State → Prop) (Qc : Array Value → State → Outcome → State → Prop) (XC : String → State → State → Prop) (mc ms : Nat) (free : Addr → Prop) : Prop :=
  MetFree l y (headSpec ws rm) Pc (fun _ _ _ _ _ => True) (vx_Q Qc XC mc ms free)
def vx_Post (XC : String → State → State → Prop) (mc ms : Nat) (free : Addr → Prop) : Pt → Array Value → Addr → Pt → Prop := fun A a q B =>
  ∃ (g : JFrame) (mk : MethodId) (t : State) (L : List Loc) (E : String) (ce : Cell), B.U.heap = t.heap ∧ B.U.vm = t.vm ∧ XC E (A.U.calling g mk a) t ∧ t.heap[q]? = some ce ∧ ce.vm = .none ∧ A.U.vm.findClass E = some ce.cls ∧ B.locs = A.locs ++ L ∧ (∀ z ∈ L, free z.base) ∧ B.cells = A.cells + mc ∧ B.slots = A.slots + ms
def vx_Back (l : Launch) (R : Room) (p : Program) (e : Env) (below : List Frame) (s : State) (sargs : Array Value) (y : MethodName) (len W9 : Nat)
    (Pre : Pt → Array Value → Prop) (Post : Pt → Array Value → Option Value → Pt → Prop) (PostX : Pt → Array Value → Addr → Pt → Prop) : Prop :=
  ∀ (m : MethodId) (meth : Method) (c : Code) (A : Pt) (g : JFrame) (ig : Instr) (mk : MethodId) (a : Array Value),
    Stand p l e R s m sargs below meth c A.U A.locs A.cells A.slots → g.method = m → g.locals.size = c.maxLocals → decode c.code g.pc = .ok (ig, len) →
    2 * g.monitorRoom + (g.stack.map fun v => v.category).sum ≤ W9 → A.U.methodNamed? y = some mk → Pre A a →
    (∃ (v : Option Value) (B : Pt), Stand p l e R s m sargs below meth c B.U B.locs B.cells B.slots ∧ Post A a v B ∧
      Steps p.tables e below (doInvoke e (A.U.setTop g) [] mk a).1 (B.U.setTop { g with pc := g.pc + len, stack := v.toList ++ g.stack })) ∨
    (∃ (q : Addr) (B : Pt), Stand p l e R s m sargs below meth c B.U B.locs B.cells B.slots ∧ PostX A a q B ∧
      Steps p.tables e below (doInvoke e (A.U.setTop g) [] mk a).1 ((B.U.setTop g).pushFrame (.throwing q)))
section Payer
variable {l : Launch} {R : Room} {p : Program} {e : Env} {below : List Frame} {s : State} {sargs : Array Value} {y : MethodName} {len W9 : Nat}
theorem vx_back {ws : List Cond} {rm : Room} {Pc : Array Value → State → Prop} {Qc : Array Value → State → Outcome → State → Prop} {XC : String → State → State → Prop} {mc ms : Nat} {free : Addr → Prop} {bytes : ByteArray} {maxL : Nat} {ret : Option FieldType}
    (hM : vx_Met l y ws rm Pc Qc XC mc ms free) (hblind : FrameBlind Pc) (hrc : rm.cells = mc) (hrs : rm.slots = ms)
    (hframes : rm.frames + 1 ≤ R.frames) (hlocals : W9 + (maxL + 11) + rm.locals ≤ R.locals)
    (hws : ∀ w ∈ ws, ∀ a' U, s.WarmedH U.vm → w.before a' U = true) (hcode : Cond.code y bytes maxL ret ∈ ws) (hinit : ∀ a' U, s.WarmedH U.vm → (Cond.initialized y.cls).before a' U = true) :
    vx_Back l R p e below s sargs y len W9 (PreOf R mc ms Pc) (PostOf Qc mc ms free) (vx_Post XC mc ms free) := by
  intro m meth c A g ig mk a X hg hsize hdg hW hn hp
  have h1 : (headSpec ws rm).pre.before a A.U = true := atoms_intro fun w hw => hws w hw _ _ X.warmed
  have h2 : (Cond.code y bytes maxL ret).before a A.U = true := hws _ hcode _ _ X.warmed
  have h3 : (Cond.initialized y.cls).before a A.U = true := hinit _ _ X.warmed
  have h4 : A.cells + (headSpec ws rm).room.cells ≤ R.cells := by rw [show (headSpec ws rm).room.cells = mc from hrc]; exact hp.1
  have h5 : A.slots + (headSpec ws rm).room.slots ≤ R.slots := by rw [show (headSpec ws rm).room.slots = ms from hrs]; exact hp.2.1
  have hPc : Pc a (A.U.calling g mk a) := hblind _ _ _ _ hp.2.2
  obtain ⟨U, Ls, c0, s0⟩ := A
  dsimp only [Pt.U, Pt.locs, Pt.cells, Pt.slots] at h1 h2 h3 h4 h5 X hn hPc ⊢
  obtain ⟨methY, cY, hmY, hcY, -, hlY, -, -, -, -⟩ := Cond.code_spec hn h2
  obtain ⟨kY, hkY, -⟩ := className_of_methodNamed hn
  have hinitY : kY.init = .initialized := Cond.initialized_spec (findClass_of_methodNamed hn) hkY h3
  have h : At U g.method c below := by rw [hg]; exact X.here
  have hlocals9 : W9 + (maxL + 11) + (headSpec ws rm).room.locals ≤ R.locals := hlocals
  have happ : (headSpec ws rm).appliesLoose y e.platform (U.calling g mk a) = true :=
    Spec.appliesLoose_calling (g := g) h hdg hn hkY hinitY
      (X.room_calling (g := g) (R' := (headSpec ws rm).room) hsize hmY hcY hframes (by rw [hlY]; omega) h4 h5) h1
  obtain ⟨mid, hmid⟩ := h.above
  have hfr : (U.setTop g).frames = (.java g :: mid) ++ below := by rw [State.frames_setTop' g h.top, hmid]; rfl
  obtain ⟨o, s₂, hsteps, -, hend, hq⟩ := Steps.callFree hM p X.admits X.cas X.clock (acts := []) hfr happ hPc trivial
  have hq' : vx_Q Qc XC mc ms free a (U.calling g mk a) o s₂ := hq
  rw [State.frames_setTop' g h.top] at hend
  obtain ⟨g₀, hg0⟩ := Option.isSome_iff_exists.mp h.top
  obtain ⟨r, hr⟩ := State.topJava?_eq_some.mp hg0
  have hr' : (({ U with heap := s₂.heap, slotsUsed := s₂.slotsUsed } : State).setVm s₂.vm).frames = .java g₀ :: r := hr
  rcases hq' with ⟨hqc, L, hfe, hL⟩ | ⟨q, rfl, E, ce, L, hx, hce, hcv, hcl, hW₂, hsm, hL⟩
  · obtain ⟨⟨v, rfl⟩, hW₂, e2, q2, q3, q4, q5, q6⟩ := id hfe
    have e3 : s₂ = ({ (U.calling g mk a).setFrames s₂.frames with heap := s₂.heap, slotsUsed := s₂.slotsUsed } : State).setVm s₂.vm := by
      have : s₂ = ({ s₂ with vm := (U.calling g mk a).vm } : State).setVm s₂.vm := rfl
      rw [e2] at this
      exact this
    obtain ⟨c₂, i₂, len₂, hc₂, hd₂, hf₂⟩ := hend
    have hW' : U.WarmedH s₂.vm := hW₂
    have hcc : c₂ = c := by
      have h1 : s₂.code? g.method = U.code? g.method := by
        rw [State.code?_eq, State.code?_eq, hW'.alike.method?]
      exact Option.some.inj (hc₂.symm.trans (h1.trans h.code))
    subst hcc
    have hlen : len₂ = len := by rw [hdg] at hd₂; cases hd₂; rfl
    subst hlen
    have hs₂ : s₂ = (({ U with heap := s₂.heap, slotsUsed := s₂.slotsUsed } : State).setVm s₂.vm).setTop { g with pc := g.pc + len₂, stack := v.toList ++ g.stack } := by
      refine e3.trans ?_
      rw [hf₂, State.calling_eq h.top, State.setFrames_setFrames, State.setTop_of_frames _ hr', hr]
      rfl
    have hsame : U.sameButNew ({ U with heap := s₂.heap, slotsUsed := s₂.slotsUsed } : State) L mc ms := by
      refine ⟨?_, q2, q3, q4, q5, q6⟩
      obtain ⟨t, ht, -⟩ := State.frames_cons hr
      show ({ U with heap := s₂.heap, slotsUsed := s₂.slotsUsed } : State) = { U.setFrames U.frames with heap := s₂.heap, slotsUsed := s₂.slotsUsed }
      rw [State.setFrames_self ht]
    subst hg
    refine Or.inl ⟨v, ⟨(({ U with heap := s₂.heap, slotsUsed := s₂.slotsUsed } : State).setVm s₂.vm), Ls ++ L, c0 + mc, s0 + ms⟩,
      ⟨X.admits, X.cas, X.clock, X.frames, X.room, X.hears, X.method, X.code, (X.here.setHeapUsed s₂.heap s₂.slotsUsed).setVm hW'.alike, X.tail, State.WarmedH.trans X.warmed hW', X.limits, X.bytes, X.same.trans (hsame.setVm s.vm)⟩,
      ⟨g, mk, s₂, L, rfl, rfl, hqc, rfl, hL, rfl, rfl⟩, ?_⟩
    show Steps p.tables e below _ ((({ U with heap := s₂.heap, slotsUsed := s₂.slotsUsed } : State).setVm s₂.vm).setTop { g with pc := g.pc + len₂, stack := v.toList ++ g.stack })
    rw [← hs₂]
    exact hsteps
  · obtain ⟨e2, q2, q3, q4, q5, q6⟩ := id hsm
    have e3 : s₂ = ({ (U.calling g mk a).setFrames s₂.frames with heap := s₂.heap, slotsUsed := s₂.slotsUsed } : State).setVm s₂.vm := by
      have : s₂ = ({ s₂ with vm := (U.calling g mk a).vm } : State).setVm s₂.vm := rfl
      rw [e2] at this
      exact this
    have hf₂ : s₂.frames = .throwing q :: .java g :: U.frames.tail := hend
    have hW' : U.WarmedH s₂.vm := hW₂
    have hs₂ : s₂ = ((({ U with heap := s₂.heap, slotsUsed := s₂.slotsUsed } : State).setVm s₂.vm).setTop g).pushFrame (.throwing q) := by
      refine e3.trans ?_
      rw [hf₂, State.calling_eq h.top, State.setFrames_setFrames, State.pushFrame, State.frames_setTop _ hr', State.setTop_of_frames _ hr', State.setFrames_setFrames, hr]
      rfl
    have hsame : U.sameButNew ({ U with heap := s₂.heap, slotsUsed := s₂.slotsUsed } : State) L mc ms := by
      refine ⟨?_, q2, q3, q4, q5, q6⟩
      obtain ⟨t, ht, -⟩ := State.frames_cons hr
      show ({ U with heap := s₂.heap, slotsUsed := s₂.slotsUsed } : State) = { U.setFrames U.frames with heap := s₂.heap, slotsUsed := s₂.slotsUsed }
      rw [State.setFrames_self ht]
    subst hg
    refine Or.inr ⟨q, ⟨(({ U with heap := s₂.heap, slotsUsed := s₂.slotsUsed } : State).setVm s₂.vm), Ls ++ L, c0 + mc, s0 + ms⟩,
      ⟨X.admits, X.cas, X.clock, X.frames, X.room, X.hears, X.method, X.code, (X.here.setHeapUsed s₂.heap s₂.slotsUsed).setVm hW'.alike, X.tail, State.WarmedH.trans X.warmed hW', X.limits, X.bytes, X.same.trans (hsame.setVm s.vm)⟩,
      ⟨g, mk, s₂, L, E, ce, rfl, rfl, hx, hce, hcv, hcl, rfl, hL, rfl, rfl⟩, ?_⟩
    show Steps p.tables e below _ (((({ U with heap := s₂.heap, slotsUsed := s₂.slotsUsed } : State).setVm s₂.vm).setTop g).pushFrame (.throwing q))
    rw [← hs₂]
    exact hsteps
end Payer
section Calls
variable {p : Program} {l : Launch} {e : Env} {R : Room} {s : State} {m : MethodId} {args : Array Value} {below : List Frame} {meth : Method} {c : Code} {T : State} {locs : List Loc} {cells slots : Nat}
theorem vx_callV (X : Stand p l e R s m args below meth c T locs cells slots) (hexec : p.tables.exec = Jvm.exec) {own C : String} {index : Nat} {y : MethodName} {bytes : ByteArray} {maxL : Nat} {ret : Option FieldType}
    (hown : s.vm.findClass own = some m.cls) (hlink : (Cond.methodLink own index y).before args s = true) (hinst : (Cond.instanceMethod y).before args s = true) (hsel : (Cond.selects C y y).before args s = true)
    (hcode : (Cond.code y bytes maxL ret).before args s = true) (hy : y.cls ≠ "java/lang/invoke/MethodHandle" ∧ y.cls ≠ "java/lang/invoke/VarHandle")
    {W9 : Nat} {Pre : Pt → Array Value → Prop} {Post : Pt → Array Value → Option Value → Pt → Prop} {PostX : Pt → Array Value → Addr → Pt → Prop} (hK : vx_Back l R p e below s args y 3 W9 Pre Post PostX)
    {b : Addr} {cellB : Cell} (hcell : T.heap[b]? = some cellB) (hobj : cellB.vm.isStatics = false) (hcls : s.vm.findClass C = some cellB.cls)
    {g : JFrame} (hg : g.method = m) (hsize : g.locals.size = c.maxLocals) {argsL rest : List Value} (hlen : ∀ sig, parseMethodDescriptor y.desc = some sig → argsL.length = sig.parameters.length)
    (hstack : g.stack = argsL.reverse ++ .ref b :: rest) (hW : 2 * g.monitorRoom + (rest.map fun v => v.category).sum ≤ W9) (hdg : decode c.code g.pc = .ok (.invokevirtual index, 3))
    (hpre : ∀ vm₁, s.WarmedH vm₁ → Pre ⟨T.setVm vm₁, locs, cells, slots⟩ (Value.ref b :: argsL).toArray) :
    (∃ (v : Option Value) (vm₁ : Vm) (B : Pt), s.WarmedH vm₁ ∧ Stand p l e R s m args below meth c B.U B.locs B.cells B.slots ∧ Post ⟨T.setVm vm₁, locs, cells, slots⟩ (Value.ref b :: argsL).toArray v B ∧
      ∀ target, Steps p.tables e below (B.U.setTop { g with pc := g.pc + 3, stack := v.toList ++ rest }) target → Steps p.tables e below (T.setTop g) target) ∨
    (∃ (q : Addr) (vm₁ : Vm) (B : Pt), s.WarmedH vm₁ ∧ Stand p l e R s m args below meth c B.U B.locs B.cells B.slots ∧ PostX ⟨T.setVm vm₁, locs, cells, slots⟩ (Value.ref b :: argsL).toArray q B ∧
      Steps p.tables e below (T.setTop g) ((B.U.setTop { g with stack := rest }).pushFrame (.throwing q))) := by
  obtain ⟨mk, methM, hnamed, hmethM, hstM, habM⟩ := Cond.instanceMethod_spec hinst
  obtain ⟨methM', cM, hmethM', -, -, -, -, -, -, hsigM⟩ := Cond.code_spec hnamed hcode
  cases hmethM.symm.trans hmethM'
  obtain ⟨c2, r2, m2, q1, q2, q3, q4, kP, hkP, hkPi⟩ := Cond.selects_spec hsel
  cases hcls.symm.trans q1
  cases (State.methodFound?_of_named hnamed hy).symm.trans q2
  cases hnamed.symm.trans q3
  have hselP : selectMethod e.platform s.vm cellB.cls mk = .method mk := by rw [Launch.admits_selectMethod X.admits]; exact q4
  obtain ⟨vm₁, X₁, hstep₁⟩ := X.invokevirtual hexec hown hlink hnamed hmethM hstM hkP hkPi hy (a := b) (cell := cellB) hcell
    (fun z h => by rw [h] at hobj; cases hobj) hselP hmethM habM hkP hkPi (g := g) hg (argsL := argsL) (rest := rest) (hlen _ hsigM) hstack hdg
  rcases hK m meth c ⟨T.setVm vm₁, locs, cells, slots⟩ { g with stack := rest } (.invokevirtual index) mk (Value.ref b :: argsL).toArray X₁ hg hsize hdg hW (X₁.named hnamed) (hpre vm₁ X₁.warmed) with ⟨v, B, X', hpost, hsteps⟩ | ⟨q, B, X', hpost, hsteps⟩
  · exact Or.inl ⟨v, vm₁, B, X₁.warmed, X', hpost, fun target h => hstep₁ _ fun acts => by rw [doInvoke_state]; exact hsteps.trans h⟩
  · exact Or.inr ⟨q, vm₁, B, X₁.warmed, X', hpost, hstep₁ _ fun acts => by rw [doInvoke_state]; exact hsteps⟩
theorem vx_callS (X : Stand p l e R s m args below meth c T locs cells slots) (hexec : p.tables.exec = Jvm.exec) {own : String} {index : Nat} {y : MethodName} {bytes : ByteArray} {maxL : Nat} {ret : Option FieldType}
    (hown : s.vm.findClass own = some m.cls) (hlink : (Cond.methodLink own index y).before args s = true) (hstat : (Cond.static y).before args s = true) (hinit : (Cond.initialized y.cls).before args s = true)
    (hcode : (Cond.code y bytes maxL ret).before args s = true) (hy : y.cls ≠ "java/lang/invoke/MethodHandle" ∧ y.cls ≠ "java/lang/invoke/VarHandle")
    {W9 : Nat} {Pre : Pt → Array Value → Prop} {Post : Pt → Array Value → Option Value → Pt → Prop} {PostX : Pt → Array Value → Addr → Pt → Prop} (hK : vx_Back l R p e below s args y 3 W9 Pre Post PostX)
    {g : JFrame} (hg : g.method = m) (hsize : g.locals.size = c.maxLocals) {argsL rest : List Value} (hlen : ∀ sig, parseMethodDescriptor y.desc = some sig → argsL.length = sig.parameters.length)
    (hstack : g.stack = argsL.reverse ++ rest) (hW : 2 * g.monitorRoom + (rest.map fun v => v.category).sum ≤ W9) (hdg : decode c.code g.pc = .ok (.invokestatic index, 3))
    (hpre : ∀ vm₁, s.WarmedH vm₁ → Pre ⟨T.setVm vm₁, locs, cells, slots⟩ argsL.toArray) :
    (∃ (v : Option Value) (vm₁ : Vm) (B : Pt), s.WarmedH vm₁ ∧ Stand p l e R s m args below meth c B.U B.locs B.cells B.slots ∧ Post ⟨T.setVm vm₁, locs, cells, slots⟩ argsL.toArray v B ∧
      ∀ target, Steps p.tables e below (B.U.setTop { g with pc := g.pc + 3, stack := v.toList ++ rest }) target → Steps p.tables e below (T.setTop g) target) ∨
    (∃ (q : Addr) (vm₁ : Vm) (B : Pt), s.WarmedH vm₁ ∧ Stand p l e R s m args below meth c B.U B.locs B.cells B.slots ∧ PostX ⟨T.setVm vm₁, locs, cells, slots⟩ argsL.toArray q B ∧
      Steps p.tables e below (T.setTop g) ((B.U.setTop { g with stack := rest }).pushFrame (.throwing q))) := by
  obtain ⟨mk, hnamed⟩ := Cond.code_named hcode
  obtain ⟨methM, cM, hmethM, -, -, -, -, -, -, hsigM⟩ := Cond.code_spec hnamed hcode
  have hstatic : methM.isStatic = true := Cond.static_spec hnamed hmethM hstat
  obtain ⟨kP, hkP, -⟩ := className_of_methodNamed hnamed
  have hinitP : kP.init = .initialized := Cond.initialized_spec (findClass_of_methodNamed hnamed) hkP hinit
  obtain ⟨vm₁, X₁, hstep₁⟩ := X.invokestatic hexec hown hlink hnamed hmethM hstatic hkP hinitP hy (g := g) hg (argsL := argsL) (rest := rest) (hlen _ hsigM) hstack hdg
  rcases hK m meth c ⟨T.setVm vm₁, locs, cells, slots⟩ { g with stack := rest } (.invokestatic index) mk argsL.toArray X₁ hg hsize hdg hW (X₁.named hnamed) (hpre vm₁ X₁.warmed) with ⟨v, B, X', hpost, hsteps⟩ | ⟨q, B, X', hpost, hsteps⟩
  · exact Or.inl ⟨v, vm₁, B, X₁.warmed, X', hpost, fun target h => hstep₁ _ fun acts => by rw [doInvoke_state]; exact hsteps.trans h⟩
  · exact Or.inr ⟨q, vm₁, B, X₁.warmed, X', hpost, hstep₁ _ fun acts => by rw [doInvoke_state]; exact hsteps⟩
end Calls
theorem vx_cls {s : State} {T : State} {vm₁ : Vm} {E : String} {k : ClassId} (hW : s.WarmedH vm₁) (h : (T.setVm vm₁).vm.findClass E = some k) : s.vm.findClass E = some k := by
  have h1 : vm₁.findClass E = some k := h
  rw [hW.alike.findClass] at h1
  exact h1
/-- the method's frame g, with q thrown over it -/
def vx_W (p : Program) (l : Launch) (e : Env) (R : Room) (s : State) (m : MethodId) (args : Array Value) (below : List Frame) (meth : Method) (c : Code) (H : Heap) (locs : List Loc) (cells slots : Nat) (Q : State → Prop) (g : JFrame) (q : Addr) : Prop :=
  ∀ T : State, T.heap = H → Stand p l e R s m args below meth c T locs cells slots → ∃ t, Steps p.tables e below ((T.setTop g).pushFrame (.throwing q)) t ∧ Q t
def vx_Run (p : Program) (l : Launch) (e : Env) (R : Room) (s : State) (m : MethodId) (args : Array Value) (below : List Frame) (meth : Method) (c : Code) (H : Heap) (locs : List Loc) (cells slots mc ms : Nat) (g : JFrame) (rest : List Value) (Qa : State → Outcome → State → Prop) (XC : String → State → State → Prop) (free : Addr → Prop) : Prop :=
  ∀ T : State, T.heap = H → Stand p l e R s m args below meth c T locs cells slots →
    (∃ (v : Option Value) (st₀ t T' : State) (L : List Loc), st₀.heap = H ∧ Stand p l e R s m args below meth c T' (locs ++ L) (cells + mc) (slots + ms) ∧ (∀ q ∈ L, free q.base) ∧ T'.heap = t.heap ∧ T'.vm = t.vm ∧ Qa st₀ (.returned v) t ∧
      Goes p e below T g T' { g with pc := g.pc + 3, stack := v.toList ++ rest }) ∨
    (∃ (q : Addr) (st₀ t T' : State) (L : List Loc) (E : String) (ce : Cell), st₀.heap = H ∧ Stand p l e R s m args below meth c T' (locs ++ L) (cells + mc) (slots + ms) ∧ (∀ z ∈ L, free z.base) ∧ T'.heap = t.heap ∧ T'.vm = t.vm ∧ XC E st₀ t ∧ t.heap[q]? = some ce ∧ ce.vm = .none ∧ s.vm.findClass E = some ce.cls ∧
      Steps p.tables e below (T.setTop g) ((T'.setTop { g with stack := rest }).pushFrame (.throwing q)))
def vx_X {S : Type} (px : S → Prop) (B : String → S → State → Prop) (A : Nat → Prop) : String → State → State → Prop := fun E st t => ∃ u : S, px u ∧ B E u t ∧ va_F A st t
section Runs
variable {p : Program} {l : Launch} {e : Env} {R : Room} {s : State} {m : MethodId} {args : Array Value} {below : List Frame} {meth : Method} {c : Code} {H : Heap} {locs : List Loc} {cells slots : Nat}
variable {y : MethodName} {bytes cc : ByteArray} {maxL nL mc ms n index : Nat} {ret : Option FieldType} {ws : List Cond} {rm : Room} {Pc : Array Value → State → Prop} {Qc : Array Value → State → Outcome → State → Prop} {XC : String → State → State → Prop} {free : Addr → Prop} {Ts : List Cond} {own C : String} {b : Addr} {As rest : List Value} {g : JFrame}
theorem vx_callBack (cb : CallB R s args own index y bytes maxL ret ws rm mc ms n) (hM : vx_Met l y ws rm Pc Qc XC mc ms free) (hbl : FrameBlind Pc) : vx_Back l R p e below s args y 3 8 (PreOf R mc ms Pc) (PostOf Qc mc ms free) (vx_Post XC mc ms free) := by
  obtain ⟨hrc, hrs, hfr, hlo, hws, hcw, -, hini, -⟩ := cb
  exact vx_back (bytes := bytes) (maxL := maxL) (ret := ret) hM hbl hrc hrs hfr hlo hws hcw (fun a' U hW => word_at hW (Or.inl (by first | rfl | simp [Cond.onTables, Cond.keeps, Cond.steady])) hini)
theorem vx_runV (S : CallFix p m c cc nL s args Ts own) (hM : vx_Met l y ws rm Pc Qc XC mc ms free) (cw : CallW R s args own C index y bytes maxL ret ws rm mc ms n) (hp : PreV s H C b Pc As)
    (hg : g.method = m) (hn : As.length = n) (hsize : g.locals.size = nL) (hstack : g.stack = As.reverse ++ .ref b :: rest) (hW : 2 * g.monitorRoom + (rest.map fun v => v.category).sum ≤ 8) (hdg : decode cc g.pc = .ok (.invokevirtual index, 3)) (hf : cells + mc ≤ R.cells ∧ slots + ms ≤ R.slots) :
    vx_Run p l e R s m args below meth c H locs cells slots mc ms g rest (Qc (Value.ref b :: As).toArray) XC free := by
  have hK : vx_Back l R p e below s args y 3 8 (PreOf R mc ms Pc) (PostOf Qc mc ms free) (vx_Post XC mc ms free) := vx_callBack cw.1 hM hp.1
  obtain ⟨⟨-, -, -, -, -, -, hcode, -, hy, hlen, hl⟩, hin, hse⟩ := cw
  obtain ⟨hx, hb, hml, ho, -⟩ := S
  obtain ⟨-, ⟨cellB, hcB, hoB, hclB⟩, hPc⟩ := hp
  intro T hT X
  rcases vx_callV X hx (C := C) (bytes := bytes) (maxL := maxL) (ret := ret) ho hl hin hse hcode hy hK (by rw [hT]; exact hcB) hoB hclB hg (hsize.trans hml.symm) (argsL := As) (rest := rest) (fun sig h => hn.trans (hlen sig h)) hstack hW (by rw [hb]; exact hdg)
    (fun vm₁ hW₁ => ⟨hf.1, hf.2, hPc (T.setVm vm₁) hT hW₁⟩) with ⟨v, vm₁, ⟨U', l2, c2, s2⟩, hW₁, X', ⟨g', mk, t, L, e1, e2, hq, h1, hL, h2, h3⟩, st⟩ | ⟨q, vm₁, ⟨U', l2, c2, s2⟩, hW₁, X', ⟨g', mk, t, L, E, ce, e1, e2, hq, hce, hcv, hcl, h1, hL, h2, h3⟩, st⟩
  · dsimp only [Pt.U, Pt.locs, Pt.cells, Pt.slots] at X' e1 e2 h1 h2 h3 st
    subst h1; subst h2; subst h3
    exact Or.inl ⟨v, (T.setVm vm₁).calling g' mk (Value.ref b :: As).toArray, t, U', L, hT, X', hL, e1, e2, hq, st⟩
  · dsimp only [Pt.U, Pt.locs, Pt.cells, Pt.slots] at X' e1 e2 h1 h2 h3 st hcl
    subst h1; subst h2; subst h3
    exact Or.inr ⟨q, (T.setVm vm₁).calling g' mk (Value.ref b :: As).toArray, t, U', L, E, ce, hT, X', hL, e1, e2, hq, hce, hcv, vx_cls hW₁ hcl, st⟩
theorem vx_runS (S : CallFix p m c cc nL s args Ts own) (hM : vx_Met l y ws rm Pc Qc XC mc ms free) (cw : CallB R s args own index y bytes maxL ret ws rm mc ms n ∧ (Cond.static y).before args s = true) (hp : PreS s H Pc As)
    (hg : g.method = m) (hn : As.length = n) (hsize : g.locals.size = nL) (hstack : g.stack = As.reverse ++ rest) (hW : 2 * g.monitorRoom + (rest.map fun v => v.category).sum ≤ 8) (hdg : decode cc g.pc = .ok (.invokestatic index, 3)) (hf : cells + mc ≤ R.cells ∧ slots + ms ≤ R.slots) :
    vx_Run p l e R s m args below meth c H locs cells slots mc ms g rest (Qc As.toArray) XC free := by
  have hK : vx_Back l R p e below s args y 3 8 (PreOf R mc ms Pc) (PostOf Qc mc ms free) (vx_Post XC mc ms free) := vx_callBack cw.1 hM hp.1
  obtain ⟨⟨-, -, -, -, -, -, hcode, hini, hy, hlen, hl⟩, hstt⟩ := cw
  obtain ⟨hx, hb, hml, ho, -⟩ := S
  intro T hT X
  rcases vx_callS X hx (bytes := bytes) (maxL := maxL) (ret := ret) ho hl hstt hini hcode hy hK hg (hsize.trans hml.symm) (argsL := As) (rest := rest) (fun sig h => hn.trans (hlen sig h)) hstack hW (by rw [hb]; exact hdg)
    (fun vm₁ hW₁ => ⟨hf.1, hf.2, hp.2 (T.setVm vm₁) hT hW₁⟩) with ⟨v, vm₁, ⟨U', l2, c2, s2⟩, hW₁, X', ⟨g', mk, t, L, e1, e2, hq, h1, hL, h2, h3⟩, st⟩ | ⟨q, vm₁, ⟨U', l2, c2, s2⟩, hW₁, X', ⟨g', mk, t, L, E, ce, e1, e2, hq, hce, hcv, hcl, h1, hL, h2, h3⟩, st⟩
  · dsimp only [Pt.U, Pt.locs, Pt.cells, Pt.slots] at X' e1 e2 h1 h2 h3 st
    subst h1; subst h2; subst h3
    exact Or.inl ⟨v, (T.setVm vm₁).calling g' mk As.toArray, t, U', L, hT, X', hL, e1, e2, hq, st⟩
  · dsimp only [Pt.U, Pt.locs, Pt.cells, Pt.slots] at X' e1 e2 h1 h2 h3 st hcl
    subst h1; subst h2; subst h3
    exact Or.inr ⟨q, (T.setVm vm₁).calling g' mk As.toArray, t, U', L, E, ce, hT, X', hL, e1, e2, hq, hce, hcv, vx_cls hW₁ hcl, st⟩
end Runs
section Rows
variable {p : Program} {l : Launch} {e : Env} {R : Room} {s : State} {m : MethodId} {args : Array Value} {below : List Frame} {meth : Method} {c : Code} {H : Heap} {locs : List Loc} {cells slots : Nat} {Q : State → Prop}
variable {mc ms : Nat} {free : Addr → Prop} {A0 A1 : Nat → Prop} {H0 : Heap} {a : Array Value} {pc : Nat} {ls : Array Slot} {st0 rest : List Value}
theorem vx_keep {st₀ t T' : State} {L : List Loc} (h0 : st₀.heap = H) (e1 : T'.heap = t.heap) (hS : va_S A0 H0 H locs) (hA : ∀ q, q < H.size → A1 q → A0 q) (hf : ∀ q, free q → A0 q) (hL : ∀ q ∈ L, free q.base) (hF : va_F A1 st₀ t) :
    H.size ≤ T'.heap.size ∧ (∀ q : Nat, q < H.size → ¬ A1 q → T'.heap[q]? = H[q]?) ∧ va_S A0 H0 T'.heap (locs ++ L) := by
  obtain ⟨hz, hk⟩ := hF
  rw [h0] at hz hk
  exact ⟨by rw [e1]; exact hz, fun q h1 h2 => by rw [e1]; exact hk q h1 h2,
    ⟨Nat.le_trans hS.1 (by rw [e1]; exact hz), fun q h1 h2 => by rw [e1, hk q (Nat.lt_of_lt_of_le h1 hS.1) (fun z => h2 (hA q (Nat.lt_of_lt_of_le h1 hS.1) z))]; exact hS.2.1 q h1 h2, fun q hq => by
      rcases List.mem_append.mp hq with h | h
      · exact hS.2.2 q h
      · exact hf _ (hL q h)⟩⟩
theorem vx_calli {S SX : Type} {post : Int32 → S → Prop} {px : SX → Prop} {B : S → State → Prop} {BX : String → SX → State → Prop} {AX : Nat → Prop} (hr : vx_Run p l e R s m args below meth c H locs cells slots mc ms (F0 m pc ls st0) rest (va_Qi post B A1 a) (vx_X px BX AX) free) (hS : va_S A0 H0 H locs) (hA : ∀ q, q < H.size → A1 q → A0 q) (hf : ∀ q, free q → A0 q) (hAX : ∀ q, q < H.size → AX q → A0 q)
    (kx : ∀ (E : String) (ce : Cell) (q9 : Addr) (u : SX) (t : State) (H1 : Heap) (locs1 : List Loc), t.heap = H1 → s.vm.Alike t.vm → px u → BX E u t → H.size ≤ H1.size → (∀ q : Nat, q < H.size → ¬ AX q → H1[q]? = H[q]?) → va_S A0 H0 H1 locs1 → H1[q9]? = some ce → ce.vm = .none → s.vm.findClass E = some ce.cls → vx_W p l e R s m args below meth c H1 locs1 (cells + mc) (slots + ms) Q (F0 m pc ls rest) q9)
    (kk : ∀ (r : Int32) (u : S) (t : State) (H1 : Heap) (locs1 : List Loc), t.heap = H1 → s.vm.Alike t.vm → post r u → B u t → H.size ≤ H1.size → (∀ q : Nat, q < H.size → ¬ A1 q → H1[q]? = H[q]?) → va_S A0 H0 H1 locs1 → W p l e R s m args below meth c H1 locs1 (cells + mc) (slots + ms) Q (F0 m (pc + 3) ls (.int r :: rest))) : W p l e R s m args below meth c H locs cells slots Q (F0 m pc ls st0) := by
  intro T hT X
  rcases hr T hT X with ⟨v, st₀, t, T', L, h0, X', hL, e1, e2, ⟨⟨r, u, hv, hp, hb⟩, hF⟩, st⟩ | ⟨q, st₀, t, T', L, E, ce, h0, X', hL, e1, e2, ⟨u, hp, hb, hF⟩, hce, hcv, hcl, st⟩
  · cases hv
    obtain ⟨k1, k2, k3⟩ := vx_keep h0 e1 hS hA hf hL hF
    obtain ⟨t2, a1, b1⟩ := kk r u t T'.heap (locs ++ L) e1.symm (by rw [← e2]; exact X'.warmed.alike) hp hb k1 k2 k3 T' rfl X'
    exact ⟨t2, st t2 a1, b1⟩
  · obtain ⟨k1, k2, k3⟩ := vx_keep h0 e1 hS hAX hf hL hF
    obtain ⟨t2, a1, b1⟩ := kx E ce q u t T'.heap (locs ++ L) e1.symm (by rw [← e2]; exact X'.warmed.alike) hp hb k1 k2 k3 (by rw [e1]; exact hce) hcv hcl T' rfl X'
    exact ⟨t2, st.trans a1, b1⟩
theorem vx_calll {S SX : Type} {post : Int64 → S → Prop} {px : SX → Prop} {B : S → State → Prop} {BX : String → SX → State → Prop} {AX : Nat → Prop} (hr : vx_Run p l e R s m args below meth c H locs cells slots mc ms (F0 m pc ls st0) rest (va_Ql post B A1 a) (vx_X px BX AX) free) (hS : va_S A0 H0 H locs) (hA : ∀ q, q < H.size → A1 q → A0 q) (hf : ∀ q, free q → A0 q) (hAX : ∀ q, q < H.size → AX q → A0 q)
    (kx : ∀ (E : String) (ce : Cell) (q9 : Addr) (u : SX) (t : State) (H1 : Heap) (locs1 : List Loc), t.heap = H1 → s.vm.Alike t.vm → px u → BX E u t → H.size ≤ H1.size → (∀ q : Nat, q < H.size → ¬ AX q → H1[q]? = H[q]?) → va_S A0 H0 H1 locs1 → H1[q9]? = some ce → ce.vm = .none → s.vm.findClass E = some ce.cls → vx_W p l e R s m args below meth c H1 locs1 (cells + mc) (slots + ms) Q (F0 m pc ls rest) q9)
    (kk : ∀ (r : Int64) (u : S) (t : State) (H1 : Heap) (locs1 : List Loc), t.heap = H1 → s.vm.Alike t.vm → post r u → B u t → H.size ≤ H1.size → (∀ q : Nat, q < H.size → ¬ A1 q → H1[q]? = H[q]?) → va_S A0 H0 H1 locs1 → W p l e R s m args below meth c H1 locs1 (cells + mc) (slots + ms) Q (F0 m (pc + 3) ls (.long r :: rest))) : W p l e R s m args below meth c H locs cells slots Q (F0 m pc ls st0) := by
  intro T hT X
  rcases hr T hT X with ⟨v, st₀, t, T', L, h0, X', hL, e1, e2, ⟨⟨r, u, hv, hp, hb⟩, hF⟩, st⟩ | ⟨q, st₀, t, T', L, E, ce, h0, X', hL, e1, e2, ⟨u, hp, hb, hF⟩, hce, hcv, hcl, st⟩
  · cases hv
    obtain ⟨k1, k2, k3⟩ := vx_keep h0 e1 hS hA hf hL hF
    obtain ⟨t2, a1, b1⟩ := kk r u t T'.heap (locs ++ L) e1.symm (by rw [← e2]; exact X'.warmed.alike) hp hb k1 k2 k3 T' rfl X'
    exact ⟨t2, st t2 a1, b1⟩
  · obtain ⟨k1, k2, k3⟩ := vx_keep h0 e1 hS hAX hf hL hF
    obtain ⟨t2, a1, b1⟩ := kx E ce q u t T'.heap (locs ++ L) e1.symm (by rw [← e2]; exact X'.warmed.alike) hp hb k1 k2 k3 (by rw [e1]; exact hce) hcv hcl T' rfl X'
    exact ⟨t2, st.trans a1, b1⟩
theorem vx_callf {S SX : Type} {post : UInt32 → S → Prop} {px : SX → Prop} {B : S → State → Prop} {BX : String → SX → State → Prop} {AX : Nat → Prop} (hr : vx_Run p l e R s m args below meth c H locs cells slots mc ms (F0 m pc ls st0) rest (va_Qf post B A1 a) (vx_X px BX AX) free) (hS : va_S A0 H0 H locs) (hA : ∀ q, q < H.size → A1 q → A0 q) (hf : ∀ q, free q → A0 q) (hAX : ∀ q, q < H.size → AX q → A0 q)
    (kx : ∀ (E : String) (ce : Cell) (q9 : Addr) (u : SX) (t : State) (H1 : Heap) (locs1 : List Loc), t.heap = H1 → s.vm.Alike t.vm → px u → BX E u t → H.size ≤ H1.size → (∀ q : Nat, q < H.size → ¬ AX q → H1[q]? = H[q]?) → va_S A0 H0 H1 locs1 → H1[q9]? = some ce → ce.vm = .none → s.vm.findClass E = some ce.cls → vx_W p l e R s m args below meth c H1 locs1 (cells + mc) (slots + ms) Q (F0 m pc ls rest) q9)
    (kk : ∀ (r : UInt32) (u : S) (t : State) (H1 : Heap) (locs1 : List Loc), t.heap = H1 → s.vm.Alike t.vm → post r u → B u t → H.size ≤ H1.size → (∀ q : Nat, q < H.size → ¬ A1 q → H1[q]? = H[q]?) → va_S A0 H0 H1 locs1 → W p l e R s m args below meth c H1 locs1 (cells + mc) (slots + ms) Q (F0 m (pc + 3) ls (.float r :: rest))) : W p l e R s m args below meth c H locs cells slots Q (F0 m pc ls st0) := by
  intro T hT X
  rcases hr T hT X with ⟨v, st₀, t, T', L, h0, X', hL, e1, e2, ⟨⟨r, u, hv, hp, hb⟩, hF⟩, st⟩ | ⟨q, st₀, t, T', L, E, ce, h0, X', hL, e1, e2, ⟨u, hp, hb, hF⟩, hce, hcv, hcl, st⟩
  · cases hv
    obtain ⟨k1, k2, k3⟩ := vx_keep h0 e1 hS hA hf hL hF
    obtain ⟨t2, a1, b1⟩ := kk r u t T'.heap (locs ++ L) e1.symm (by rw [← e2]; exact X'.warmed.alike) hp hb k1 k2 k3 T' rfl X'
    exact ⟨t2, st t2 a1, b1⟩
  · obtain ⟨k1, k2, k3⟩ := vx_keep h0 e1 hS hAX hf hL hF
    obtain ⟨t2, a1, b1⟩ := kx E ce q u t T'.heap (locs ++ L) e1.symm (by rw [← e2]; exact X'.warmed.alike) hp hb k1 k2 k3 (by rw [e1]; exact hce) hcv hcl T' rfl X'
    exact ⟨t2, st.trans a1, b1⟩
theorem vx_calld {S SX : Type} {post : UInt64 → S → Prop} {px : SX → Prop} {B : S → State → Prop} {BX : String → SX → State → Prop} {AX : Nat → Prop} (hr : vx_Run p l e R s m args below meth c H locs cells slots mc ms (F0 m pc ls st0) rest (va_Qd post B A1 a) (vx_X px BX AX) free) (hS : va_S A0 H0 H locs) (hA : ∀ q, q < H.size → A1 q → A0 q) (hf : ∀ q, free q → A0 q) (hAX : ∀ q, q < H.size → AX q → A0 q)
    (kx : ∀ (E : String) (ce : Cell) (q9 : Addr) (u : SX) (t : State) (H1 : Heap) (locs1 : List Loc), t.heap = H1 → s.vm.Alike t.vm → px u → BX E u t → H.size ≤ H1.size → (∀ q : Nat, q < H.size → ¬ AX q → H1[q]? = H[q]?) → va_S A0 H0 H1 locs1 → H1[q9]? = some ce → ce.vm = .none → s.vm.findClass E = some ce.cls → vx_W p l e R s m args below meth c H1 locs1 (cells + mc) (slots + ms) Q (F0 m pc ls rest) q9)
    (kk : ∀ (r : UInt64) (u : S) (t : State) (H1 : Heap) (locs1 : List Loc), t.heap = H1 → s.vm.Alike t.vm → post r u → B u t → H.size ≤ H1.size → (∀ q : Nat, q < H.size → ¬ A1 q → H1[q]? = H[q]?) → va_S A0 H0 H1 locs1 → W p l e R s m args below meth c H1 locs1 (cells + mc) (slots + ms) Q (F0 m (pc + 3) ls (.double r :: rest))) : W p l e R s m args below meth c H locs cells slots Q (F0 m pc ls st0) := by
  intro T hT X
  rcases hr T hT X with ⟨v, st₀, t, T', L, h0, X', hL, e1, e2, ⟨⟨r, u, hv, hp, hb⟩, hF⟩, st⟩ | ⟨q, st₀, t, T', L, E, ce, h0, X', hL, e1, e2, ⟨u, hp, hb, hF⟩, hce, hcv, hcl, st⟩
  · cases hv
    obtain ⟨k1, k2, k3⟩ := vx_keep h0 e1 hS hA hf hL hF
    obtain ⟨t2, a1, b1⟩ := kk r u t T'.heap (locs ++ L) e1.symm (by rw [← e2]; exact X'.warmed.alike) hp hb k1 k2 k3 T' rfl X'
    exact ⟨t2, st t2 a1, b1⟩
  · obtain ⟨k1, k2, k3⟩ := vx_keep h0 e1 hS hAX hf hL hF
    obtain ⟨t2, a1, b1⟩ := kx E ce q u t T'.heap (locs ++ L) e1.symm (by rw [← e2]; exact X'.warmed.alike) hp hb k1 k2 k3 (by rw [e1]; exact hce) hcv hcl T' rfl X'
    exact ⟨t2, st.trans a1, b1⟩
theorem vx_callv {S SX : Type} {post : S → Prop} {px : SX → Prop} {B : S → State → Prop} {BX : String → SX → State → Prop} {AX : Nat → Prop} (hr : vx_Run p l e R s m args below meth c H locs cells slots mc ms (F0 m pc ls st0) rest (va_Qv post B A1 a) (vx_X px BX AX) free) (hS : va_S A0 H0 H locs) (hA : ∀ q, q < H.size → A1 q → A0 q) (hf : ∀ q, free q → A0 q) (hAX : ∀ q, q < H.size → AX q → A0 q)
    (kx : ∀ (E : String) (ce : Cell) (q9 : Addr) (u : SX) (t : State) (H1 : Heap) (locs1 : List Loc), t.heap = H1 → s.vm.Alike t.vm → px u → BX E u t → H.size ≤ H1.size → (∀ q : Nat, q < H.size → ¬ AX q → H1[q]? = H[q]?) → va_S A0 H0 H1 locs1 → H1[q9]? = some ce → ce.vm = .none → s.vm.findClass E = some ce.cls → vx_W p l e R s m args below meth c H1 locs1 (cells + mc) (slots + ms) Q (F0 m pc ls rest) q9)
    (kk : ∀ (u : S) (t : State) (H1 : Heap) (locs1 : List Loc), t.heap = H1 → s.vm.Alike t.vm → post u → B u t → H.size ≤ H1.size → (∀ q : Nat, q < H.size → ¬ A1 q → H1[q]? = H[q]?) → va_S A0 H0 H1 locs1 → W p l e R s m args below meth c H1 locs1 (cells + mc) (slots + ms) Q (F0 m (pc + 3) ls (rest))) : W p l e R s m args below meth c H locs cells slots Q (F0 m pc ls st0) := by
  intro T hT X
  rcases hr T hT X with ⟨v, st₀, t, T', L, h0, X', hL, e1, e2, ⟨⟨u, hv, hp, hb⟩, hF⟩, st⟩ | ⟨q, st₀, t, T', L, E, ce, h0, X', hL, e1, e2, ⟨u, hp, hb, hF⟩, hce, hcv, hcl, st⟩
  · cases hv
    obtain ⟨k1, k2, k3⟩ := vx_keep h0 e1 hS hA hf hL hF
    obtain ⟨t2, a1, b1⟩ := kk u t T'.heap (locs ++ L) e1.symm (by rw [← e2]; exact X'.warmed.alike) hp hb k1 k2 k3 T' rfl X'
    exact ⟨t2, st t2 a1, b1⟩
  · obtain ⟨k1, k2, k3⟩ := vx_keep h0 e1 hS hAX hf hL hF
    obtain ⟨t2, a1, b1⟩ := kx E ce q u t T'.heap (locs ++ L) e1.symm (by rw [← e2]; exact X'.warmed.alike) hp hb k1 k2 k3 (by rw [e1]; exact hce) hcv hcl T' rfl X'
    exact ⟨t2, st.trans a1, b1⟩
/-- caught by the row x of this method's table; the rows ahead don't take it -/
theorem vx_catch {own name : String} {E : String} {ce : Cell} {q : Addr} (hown : s.vm.findClass own = some m.cls) (pre : List ExceptionTableEntry) (x : ExceptionTableEntry) (suf : List ExceptionTableEntry) (hsplit : c.exceptionTable.toList = pre ++ x :: suf)
    (hpass : ∀ z ∈ pre, covers z pc = false ∨ (z.catchType ≠ 0 ∧ ∃ nm : String, (Cond.classLink own z.catchType nm).before args s = true ∧ va_Nc E nm s)) (hx : covers x pc = true) (h0 : x.catchType ≠ 0)
    (hlink : (Cond.classLink own x.catchType name).before args s = true) (hcast : (Cond.castable E name).before args s = true) (hcell : H[q]? = some ce) (hv : ce.vm = .none) (hcl : s.vm.findClass E = some ce.cls)
    (kk : W p l e R s m args below meth c H locs cells slots Q (F0 m x.handlerPc ls [.ref q])) : vx_W p l e R s m args below meth c H locs cells slots Q (F0 m pc ls rest) q := by
  intro T hT X
  have hpl : e.platform.magicAccessors = ({} : Platform).magicAccessors := by rw [X.admits.platform]
  obtain ⟨c3, c4, hc3, hc4, hasg⟩ := Cond.castable_spec hcast
  cases Option.some.inj (hc3.symm.trans hcl)
  obtain ⟨c5, hc5, hcl5⟩ := Cond.classLink_spec hown hlink e.platform hpl
  cases Option.some.inj (hc4.symm.trans hc5)
  obtain ⟨vm', X', st⟩ := X.thenCaughtThrough q (g := F0 m pc ls rest) rfl (Steps.refl _) (by rw [hT]; exact hcell) (by rw [hv]; rfl) (by obtain ⟨k9, h9, -⟩ := Vm.findClass_spec hcl; exact ⟨k9, h9⟩) pre x suf hsplit
    (fun z hz => by
      rcases hpass z hz with h | ⟨hz0, nm, hl1, hn1⟩
      · exact Or.inl h
      · obtain ⟨c6, hc6, hcl6⟩ := Cond.classLink_spec hown hl1 e.platform hpl
        obtain ⟨a8, b8, h1, h2, h3⟩ := hn1
        cases Option.some.inj (h1.symm.trans hcl)
        cases Option.some.inj (h2.symm.trans hc6)
        exact Or.inr ⟨hz0, _, hcl6, h3⟩) hx (Or.inr ⟨h0, c4, hcl5, hasg⟩)
  obtain ⟨t, a1, b1⟩ := kk (T.setVm vm') hT X'
  exact ⟨t, st.trans a1, b1⟩
end Rows
section Ends
variable {p : Program} {l : Launch} {e : Env} {R : Room} {s : State} {m : MethodId} {args : Array Value} {below : List Frame} {meth : Method} {c : Code} {H : Heap} {locs : List Loc} {cells slots : Nat} {Q : State → Prop}
variable {mc ms : Nat} {free : Addr → Prop} {A0 A1 : Nat → Prop} {H0 : Heap} {a : Array Value} {ls : Array Slot} {st0 rest : List Value}
variable {Qc : Array Value → State → Outcome → State → Prop} {XC : String → State → State → Prop}
/-- what a body that may throw owes at its end -/
def vx_MQ (below : List Frame) (Qc : Array Value → State → Outcome → State → Prop) (XC : String → State → State → Prop) (a : Array Value) (s : State) (mc ms : Nat) (free : Addr → Prop) : State → Prop := fun t =>
  ∃ o, t.status = .running ∧ Ended t below o ∧ vx_Q Qc XC mc ms free a s o t
theorem vx_ret {g : JFrame} {mc ms : Nat} (k : W p l e R s m args below meth c H locs cells slots (MQ below Qc args s mc ms free) g) : W p l e R s m args below meth c H locs cells slots (vx_MQ below Qc XC args s mc ms free) g := by
  intro T hT X
  obtain ⟨t, a1, o, b1, b2, b3, b4⟩ := k T hT X
  exact ⟨t, a1, o, b1, b2, Or.inl ⟨b3, b4⟩⟩
/-- not caught here: it goes on to the caller -/
theorem vx_widen {g : JFrame} {q : Addr} {k n : Nat} (h1 : cells ≤ k) (h2 : slots ≤ n) (kk : vx_W p l e R s m args below meth c H locs k n Q g q) : vx_W p l e R s m args below meth c H locs cells slots Q g q := fun T hT X => kk T hT (stand_widen X h1 h2)
theorem vx_out {pc : Nat} {E : String} {ce : Cell} {q : Addr} {mc ms : Nat} (hout : ∀ x ∈ c.exceptionTable.toList, covers x pc = false) (hlocks : meth.locks = false) (hcell : H[q]? = some ce) (hv : ce.vm = .none) (hcl : s.vm.findClass E = some ce.cls)
    (hx : ∀ t : State, t.heap = H → s.vm.Alike t.vm → XC E s t) (hf : ∀ z ∈ locs, free z.base) (hc : cells ≤ mc) (hs : slots ≤ ms) :
    vx_W p l e R s m args below meth c H locs cells slots (vx_MQ below Qc XC args s mc ms free) (F0 m pc ls rest) q := by
  intro T hT X
  obtain ⟨st1, hrun, hend, hW, hsm⟩ := X.leaveThrown q (g := F0 m pc ls rest) rfl rfl rfl hout hlocks
  have hcell9 : (T.setFrames (.throwing q :: below)).heap[q]? = some ce := by
    show T.heap[q]? = some ce
    rw [hT]; exact hcell
  exact ⟨_, st1, .threw q, hrun, hend, Or.inr ⟨q, rfl, E, ce, locs, hx _ hT hW.alike, hcell9, hv, hcl, hW, hsm.mono hc hs, hf⟩⟩
theorem vx_frame {U : State} {k n : Nat} (h : s.sameButNew ({ U with vm := s.vm } : State) locs k n) : s.heap.size ≤ U.heap.size ∧ ∀ q : Nat, q < s.heap.size → (∀ z ∈ locs, z.base ≠ q) → U.heap[q]? = s.heap[q]? := by
  obtain ⟨-, h2, -, -, -, h6⟩ := h
  refine ⟨h2, fun q hq hz => ?_⟩
  obtain ⟨c9, e1, e2, e3, e4⟩ := h6 q _ (Array.getElem?_eq_getElem hq)
  have hs : c9.slots = (s.heap[q]).slots := Array.ext_getElem? fun i => e4 i fun hm => hz _ hm rfl
  have h9 : c9 = s.heap[q] := by
    rw [hs] at e2
    exact e2
  have e5 : U.heap[q]? = some c9 := e1
  rw [e5, h9, Array.getElem?_eq_getElem hq]
/-- the words of a throw but the four that speak of the heap -/
def vx_no (w : Cond) : Bool := decide (w ≠ .isRef (.static Bundle.tN "UNASSIGNED_STACK" Bundle.steD)) && decide (w ≠ .isRef (.static Bundle.tN "SUPPRESSED_SENTINEL" Bundle.listD)) && decide (w ≠ .laysStatic Bundle.tN "UNASSIGNED_STACK" Bundle.steD) && decide (w ≠ .laysStatic Bundle.tN "SUPPRESSED_SENTINEL" Bundle.listD)
def vx_at0 (own : String) (ic : Nat) (X : String) (names : List String) : List Cond := (Bundle.ownAtoms0 own ic X names).filter vx_no
def vx_atS (own : String) (ic : Nat) (X : String) (names : List String) : List Cond := (Bundle.ownAtoms own ic X names).filter vx_no
/-- a word that the tables alone decide, or a good one -/
def vx_ot (w : Cond) : Bool := w.onTables || goodWord w
theorem vx_ot_at {args a' : Array Value} {s U : State} {w : Cond} (hW : s.WarmedH U.vm) (hvm : s.vm = U.vm) (hg : vx_ot w = true) (h : w.before args s = true) : w.before a' U = true := by
  simp only [vx_ot, Bool.or_eq_true] at hg
  rcases hg with hg | hg
  · exact va_tabs hg hvm h
  · exact word_at hW (good_of_word hg) h
/-- a list's words: the good ones out of the method's own list, the others by premises of their own -/
theorem vx_hat {args : Array Value} {s : State} {L B : List Cond} (h1 : ∀ w ∈ L.filter goodWord, w.before args s = true) (h2 : ∀ w ∈ L.filter (fun w => !goodWord w), w ∈ B) (h3 : ∀ w ∈ B, w.before args s = true) : ∀ w ∈ L, w.before args s = true := by
  intro w hw
  by_cases g : goodWord w = true
  · exact h1 w (List.mem_filter.mpr ⟨hw, g⟩)
  · refine h3 w (h2 w (List.mem_filter.mpr ⟨hw, ?_⟩))
    show (!goodWord w) = true
    cases hgw : goodWord w
    · rfl
    · exact absurd hgw g
theorem vx_c {args : Array Value} {s : State} {w : Cond} {B : List Cond} (h : w.before args s = true) (t : ∀ w ∈ B, w.before args s = true) : ∀ w' ∈ w :: B, w'.before args s = true := fun w' h' => (List.mem_cons.mp h').elim (fun e => by rw [e]; exact h) (t w')
theorem vx_n {args : Array Value} {s : State} : ∀ w ∈ ([] : List Cond), w.before args s = true := fun _ h => nomatch h
theorem vx_own {args : Array Value} {s : State} {L : List Cond} (h1 : ∀ w ∈ L.filter vx_no, w.before args s = true)
    (hU : (Cond.isRef (.static Bundle.tN "UNASSIGNED_STACK" Bundle.steD)).before args s = true) (hN : (Cond.isRef (.static Bundle.tN "SUPPRESSED_SENTINEL" Bundle.listD)).before args s = true)
    (lU : (Cond.laysStatic Bundle.tN "UNASSIGNED_STACK" Bundle.steD).before args s = true) (lN : (Cond.laysStatic Bundle.tN "SUPPRESSED_SENTINEL" Bundle.listD).before args s = true) : ∀ w ∈ L, w.before args s = true := by
  intro w hw
  by_cases e1 : w = .isRef (.static Bundle.tN "UNASSIGNED_STACK" Bundle.steD)
  · rw [e1]; exact hU
  · by_cases e2 : w = .isRef (.static Bundle.tN "SUPPRESSED_SENTINEL" Bundle.listD)
    · rw [e2]; exact hN
    · by_cases e3 : w = .laysStatic Bundle.tN "UNASSIGNED_STACK" Bundle.steD
      · rw [e3]; exact lU
      · by_cases e4 : w = .laysStatic Bundle.tN "SUPPRESSED_SENTINEL" Bundle.listD
        · rw [e4]; exact lN
        · exact h1 w (List.mem_filter.mpr ⟨hw, by unfold vx_no; rw [decide_eq_true e1, decide_eq_true e2, decide_eq_true e3, decide_eq_true e4]; rfl⟩)
/-- where a static field lies, its class's statics cell in H -/
def vx_L (C n d : String) (A : Nat → Prop) (U : State) (H : Heap) : Prop := ∃ (c : ClassId) (k : Class) (i : Nat) (f : Field) (a : Nat) (cell : Cell), U.vm.findClass C = some c ∧ U.fieldFound? C n d = some (c, k, i, f) ∧ f.isStatic = true ∧ k.statics = some a ∧ H[a]? = some cell ∧ cell.vm.isStatics = true ∧ cell.cls = c ∧ f.slot < cell.slots.size ∧ k.staticTypes[f.slot]? = some f.type ∧ ¬ A a
theorem vx_L.moved {C n d : String} {A : Nat → Prop} {u U : State} {H : Heap} (hvm : u.vm.Alike U.vm) (h : vx_L C n d A u H) : vx_L C n d A U H := by
  obtain ⟨c, k, i, f, a, cell, h1, h2, h3, h4, h5, h6, h7, h8, h9, h10⟩ := h
  obtain ⟨k', hi', he⟩ := State.fieldFound?_setVm hvm h2
  exact ⟨c, k', i, f, a, cell, by rw [hvm.findClass]; exact h1, hi', h3, by rw [he]; exact h4, h5, h6, h7, h8, by rw [he]; exact h9, h10⟩
theorem vx_L.kept {C n d : String} {A : Nat → Prop} {U : State} {H H1 : Heap} (h : vx_L C n d A U H) (hq : ∀ a : Nat, a < H.size → ¬ A a → H1[a]? = H[a]?) : vx_L C n d A U H1 := by
  obtain ⟨c, k, i, f, a, cell, h1, h2, h3, h4, h5, h6, h7, h8, h9, h10⟩ := h
  exact ⟨c, k, i, f, a, cell, h1, h2, h3, h4, by rw [hq a (Array.getElem?_eq_some_iff.mp h5).1 h10]; exact h5, h6, h7, h8, h9, h10⟩
theorem vx_L.narrow {C n d : String} {A B : Nat → Prop} {U : State} {H : Heap} (h : vx_L C n d A U H) (hAB : ∀ q, B q → A q) : vx_L C n d B U H := by
  obtain ⟨c, k, i, f, a, cell, h1, h2, h3, h4, h5, h6, h7, h8, h9, h10⟩ := h
  exact ⟨c, k, i, f, a, cell, h1, h2, h3, h4, h5, h6, h7, h8, h9, fun z => h10 (hAB _ z)⟩
theorem vx_L.word {C n d : String} {A : Nat → Prop} {s : State} {args : Array Value} (h : vx_L C n d A s s.heap) : (Cond.laysStatic C n d).before args s = true := by
  obtain ⟨c, k, i, f, a, cell, h1, h2, h3, h4, h5, h6, h7, h8, h9, -⟩ := h
  show (Cond.laysStatic C n d).holds args s none s [] = true
  exact Cond.laysStatic_of h1 h2 h3 h4 h5 h6 h7 h8 h9
/-- .. and what it holds: null or some reference -/
def vx_Zq (C n d : String) (A : Nat → Prop) (U : State) (H : Heap) : Prop := va_Zq C n d A U H ∧ vx_L C n d A U H
theorem vx_Zq.moved {C n d : String} {A : Nat → Prop} {u U : State} {H : Heap} (hvm : u.vm.Alike U.vm) (h : vx_Zq C n d A u H) : vx_Zq C n d A U H := ⟨va_Zq.moved hvm h.1, vx_L.moved hvm h.2⟩
theorem vx_Zq.kept {C n d : String} {A : Nat → Prop} {U : State} {H H1 : Heap} (h : vx_Zq C n d A U H) (hq : ∀ a : Nat, a < H.size → ¬ A a → H1[a]? = H[a]?) : vx_Zq C n d A U H1 := ⟨va_Zq.kept h.1 hq, vx_L.kept h.2 hq⟩
theorem vx_Zq.narrow {C n d : String} {A B : Nat → Prop} {U : State} {H : Heap} (h : vx_Zq C n d A U H) (hAB : ∀ q, B q → A q) : vx_Zq C n d B U H := ⟨va_Zq.narrow h.1 hAB, vx_L.narrow h.2 hAB⟩
theorem vx_Zqof {args : Array Value} {s : State} {C n d : String} {A : Nat → Prop} (hl : (Cond.laysStatic C n d).before args s = true) (hini : (Cond.initialized C).before args s = true) (h : (Cond.isRef (.static C n d)).before args s = true) (hA : ∀ a : Nat, a < s.heap.size → ¬ A a) : vx_Zq C n d A s s.heap := by
  refine ⟨va_Zqof hl hini h hA, ?_⟩
  obtain ⟨c, k, i, f, a, cell, h1, h2, h3, h4, h5, h6, h7, h8, h9⟩ := Cond.laysStatic_spec hl
  exact ⟨c, k, i, f, a, cell, h1, h2, h3, h4, h5, h6, h7, h8, h9, hA a (Array.getElem?_eq_some_iff.mp h5).1⟩
theorem vx_isRef {C n d : String} {v : Value} {A : Nat → Prop} {s : State} {args : Array Value} (h : va_Z C n d v A s s.heap) (hv : v.isRef = true) : (Cond.isRef (.static C n d)).before args s = true := by
  obtain ⟨cf, kf, fi, f, a, cell, h1, h2, h3, h4, h5, h6, h7, -⟩ := h
  have he : (Term.static C n d).eval args s none [] s = some v := by
    simp [Term.eval, State.fieldNamed?, h1, h2, h4, h5, h6, h7]
  simp only [Cond.before, Cond.holds, Cond.value, he]
  cases v <;> simp_all [Value.isRef]
theorem vx_isRefq {C n d : String} {A : Nat → Prop} {s : State} {args : Array Value} (h : va_Zq C n d A s s.heap) : (Cond.isRef (.static C n d)).before args s = true := by
  rcases h with h | ⟨t, h⟩
  · exact vx_isRef h rfl
  · exact vx_isRef h rfl
/-- the same frame, seen from here: as if the method were called anew in this heap -/
theorem vx_rebase {T : State} (X : Stand p l e R s m args below meth c T locs cells slots) {R' : Room} (hf : R'.frames ≤ R.frames) (hl : R'.locals ≤ R.locals) (hc : cells + R'.cells ≤ R.cells) (hs : slots + R'.slots ≤ R.slots) :
    Stand p l e R' ((T.setVm s.vm).setFrames (.invoking m args :: below)) m args below meth c T [] 0 0 := by
  have htop : (T.setVm s.vm).topJava?.isSome := X.here.top
  have hF : ((T.setVm s.vm).setFrames (.invoking m args :: below)).frames = .invoking m args :: below := State.frames_setFrames _ (State.cur_lt_of_top htop)
  obtain ⟨g₀, hg0⟩ := Option.isSome_iff_exists.mp htop
  obtain ⟨r, hr⟩ := State.topJava?_eq_some.mp hg0
  have hl9 : e.platform.stackLimits (T.setVm s.vm).me = e.platform.stackLimits s.me := X.limits
  have hb9 : (T.setVm s.vm).me.stackBytes = s.me.stackBytes := X.bytes
  refine ⟨X.admits, X.cas, X.clock, hF, ?_, X.hears, X.method, X.code, X.here, X.tail, X.warmed, ?_, ?_, ?_⟩
  · have h := X.room
    have hU : ((T.setVm s.vm).setFrames (.invoking m args :: below)).localsInUse = s.localsInUse := by
      rw [State.localsInUse_invoking hF (meth := meth) (c := c) X.method X.code, State.localsInUse_invoking X.frames X.method X.code]
    simp only [State.hasRoom, Bool.and_eq_true, decide_eq_true_eq] at h ⊢
    obtain ⟨⟨⟨⟨h1, h2, h3, h4, h5, h6⟩, h7⟩, h8⟩, h9⟩ := h
    rw [X.frames, List.length_cons] at h2 h3
    have q1 := X.heapSize
    have q2 := X.used
    simp only [hF, hU, List.length_cons, State.stackLimits_setFrames, State.stackBytes_setFrames, hl9, hb9]
    refine ⟨⟨⟨⟨by omega, by omega, by omega, by omega, by omega, h6⟩, ?_⟩, ?_⟩, X.book⟩
    · show T.heap.size + R'.cells ≤ e.platform.maxCells
      omega
    · show T.slotsUsed + R'.slots ≤ e.platform.maxSlots
      omega
  · rw [State.stackLimits_setFrames]; rfl
  · rw [State.stackBytes_setFrames]; rfl
  · refine ⟨?_, Nat.le_refl _, Nat.le_refl _, ?_, ?_, fun a c9 h9 => ⟨c9, h9, rfl, rfl, fun _ _ => rfl⟩⟩
    · obtain ⟨t, ht, -⟩ := State.frames_cons hr
      show T.setVm s.vm = { ((T.setVm s.vm).setFrames (.invoking m args :: below)).setFrames (T.setVm s.vm).frames with heap := T.heap, slotsUsed := T.slotsUsed }
      rw [State.setFrames_setFrames, State.setFrames_self ht]
      rfl
    · show T.slotsUsed = T.slotsUsed + ((T.heap.toList.drop T.heap.size).map (·.slots.size)).sum
      rw [List.drop_eq_nil_of_le (Nat.le_of_eq Array.length_toList)]
      rfl
    · show ((T.heap.toList.drop T.heap.size).map (·.slots.size)).sum ≤ 0
      rw [List.drop_eq_nil_of_le (Nat.le_of_eq Array.length_toList)]
      exact Nat.le_refl _
/-- 'throw new E()': new; dup; invokespecial; athrow -/
theorem vx_throw0 {cc : ByteArray} {pc : Nat} (hexec : p.tables.exec = Jvm.exec) (hb : c.code = cc) (hl : l.stackTraces = false) {own cls : String} {names : List String} {ik ic mc ms : Nat} {A : Nat → Prop}
    (hown : s.vm.findClass own = some m.cls) (hcls : Bundle.fit cls = true) (hnames : ∀ n ∈ names, Bundle.fit n = true)
    (hk : (Cond.classLink own ik cls).before args s = true) (hini : (Cond.initialized cls).before args s = true) (hat : ∀ w ∈ vx_at0 own ic cls names, w.before args s = true)
    (hgood : ∀ w ∈ Cond.classLink own ik cls :: Cond.initialized cls :: vx_at0 own ic cls names, vx_ot w = true)
    (hU : vx_Zq Bundle.tN "UNASSIGNED_STACK" Bundle.steD A s s.heap) (hN : vx_Zq Bundle.tN "SUPPRESSED_SENTINEL" Bundle.listD A s s.heap) (hS : va_S A s.heap H locs) (hsize : ls.size = c.maxLocals)
    (d0 : decode cc pc = .ok (.new ik, 3)) (d3 : decode cc (pc + 3) = .ok (.dup, 1)) (d4 : decode cc (pc + 4) = .ok (.invokespecial ic, 3)) (d7 : decode cc (pc + 7) = .ok (.athrow, 1))
    (hout : ∀ x ∈ c.exceptionTable.toList, covers x (pc + 7) = false)
    (hRframes : names.length + 3 < R.frames) (hRlocals : (rest.map fun v => v.category).sum + (13 * (names.length + 1) + 42) ≤ R.locals) (hRcells : cells + 1 ≤ R.cells) (hRslots : slots + 6 ≤ R.slots) (hlocks : meth.locks = false)
    (hx : ∀ t : State, s.vm.Alike t.vm → H.size ≤ t.heap.size → (∀ q : Nat, q < H.size → t.heap[q]? = H[q]?) → XC cls s t)
    (hf : ∀ z ∈ locs, free z.base) (hc : cells + 1 ≤ mc) (hs : slots + 6 ≤ ms) :
    W p l e R s m args below meth c H locs cells slots (vx_MQ below Qc XC args s mc ms free) (F0 m pc ls rest) := by
  intro T hT X
  have htr : e.platform.stackTraces = false := (show e.platform.stackTraces = l.stackTraces by rw [X.admits.platform]).trans hl
  have Y := vx_rebase X (R' := { frames := R.frames, locals := R.locals, cells := 1, slots := 6 }) (Nat.le_refl _) (Nat.le_refl _) hRcells hRslots
  obtain ⟨s', hA⟩ : ∃ z, z = (T.setVm s.vm).setFrames (.invoking m args :: below) := ⟨_, rfl⟩
  rw [← hA] at Y
  have hvm : s'.vm = s.vm := by rw [hA]; rfl
  have hhp : s'.heap = H := by rw [hA]; exact hT
  have hW0 : s.WarmedH s'.vm := by rw [hvm]; exact State.WarmedH.refl s
  have hat' : ∀ w ∈ vx_at0 own ic cls names, w.before args s' = true := fun w hw => vx_ot_at hW0 hvm.symm (hgood w (List.mem_cons_of_mem _ (List.mem_cons_of_mem _ hw))) (hat w hw)
  have hk' : (Cond.classLink own ik cls).before args s' = true := vx_ot_at hW0 hvm.symm (hgood _ List.mem_cons_self) hk
  have hini' : (Cond.initialized cls).before args s' = true := vx_ot_at hW0 hvm.symm (hgood _ (List.mem_cons_of_mem _ List.mem_cons_self)) hini
  have hU' : vx_Zq Bundle.tN "UNASSIGNED_STACK" Bundle.steD A s' s'.heap := by rw [hhp]; exact vx_Zq.moved hW0.alike (hU.kept hS.2.1)
  have hN' : vx_Zq Bundle.tN "SUPPRESSED_SENTINEL" Bundle.listD A s' s'.heap := by rw [hhp]; exact vx_Zq.moved hW0.alike (hN.kept hS.2.1)
  have h : ∀ w ∈ Bundle.ownAtoms0 own ic cls names, w.before args s' = true := vx_own hat' (vx_isRefq hU'.1) (vx_isRefq hN'.1) hU'.2.word hN'.2.word
  have hown' : s'.vm.findClass own = some m.cls := by rw [hvm]; exact hown
  have hins : (Cond.instantiable cls 6).before args s' = true := h _ (by simp [Bundle.ownAtoms0])
  obtain ⟨vm₁, cX, kX, hfX, hkX, -, -, X₁, st1⟩ := Y.newCold hexec (own := own) (C := cls) (index := ik) (n := 6) hown' hk' hins hini'
    (g := F0 m pc ls rest) rfl (by rw [hb]; exact d0) (Nat.le_refl _) (Nat.le_refl _)
  generalize hT1 : (T.setVm vm₁).pushCell { cls := cX, slots := kX.instanceTypes.map defaultValue, vm := .none } = T1 at X₁ st1
  have hcat : (Value.ref T.heap.size).category = 1 := rfl
  have hcellA : T1.heap[T.heap.size]? = some (freshCell cX kX) := by rw [← hT1]; exact State.heap_pushCell_size _ _
  have d3' : decode c.code (pc + 3) = .ok (.dup, 1) := by rw [hb]; exact d3
  obtain ⟨U, hsteps, hrun, hend, hW, hsame, ce, hce, hO⟩ := X₁.ctorThrow0 hexec htr (own := own) (cls := cls) (names := names) (ic := ic) hown' hcls hnames h (fun x hx => nomatch hx) hfX hkX hcellA (by rw [hhp, hT]; exact Nat.le_refl _)
    (g := { method := m, pc := pc + 4, locals := ls, stack := .ref T.heap.size :: .ref T.heap.size :: rest, locked := none }) rfl hsize rfl rfl (rest := rest) rfl
    (by rw [hb]; exact d4) (by rw [hb]; exact d7) hout hRframes (by simp only [List.map_cons, List.sum_cons, hcat]; omega) hlocks
  obtain ⟨f1, f2⟩ := vx_frame hsame
  rw [hhp] at f1 f2
  have hWs : s.WarmedH U.vm := State.WarmedH.trans hW0 hW
  have hcl : s.vm.findClass cls = some ce.cls := by
    have h9 := hO.cls
    rw [hvm] at h9
    exact h9
  have hall : s.sameButNew ({ U with vm := s.vm } : State) locs mc ms := by
    subst hA
    obtain ⟨e1, e2⟩ := hsame
    rw [State.setFrames_setFrames] at e1
    have h2 : (T.setVm s.vm).sameButNew ({ U with vm := s.vm } : State) [] (0 + 1) (0 + 6) := ⟨e1, e2⟩
    have h3 := X.same.trans h2
    rw [List.append_nil] at h3
    exact h3.mono hc hs
  refine ⟨U, ?_, .threw T.heap.size, hrun, hend, Or.inr ⟨T.heap.size, rfl, cls, ce, locs, hx U hWs.alike f1 (fun q hq => f2 q hq (fun z hz => nomatch hz)), hce, hO.vm, hcl, hWs, hall, hf⟩⟩
  refine st1 _ ?_
  show Steps p.tables e below (T1.setTop { method := m, pc := pc + 3, locals := ls, stack := .ref T.heap.size :: rest, locked := none }) _
  jvm_step X₁.here [X₁.here.top, hexec, d3', Value.category]
  exact hsteps
/-- 'throw new E("text")': new; dup; ldc; invokespecial; athrow -/
theorem vx_throwS {cc : ByteArray} {pc : Nat} (hexec : p.tables.exec = Jvm.exec) (hb : c.code = cc) (hl : l.stackTraces = false) {own cls text : String} {names : List String} {ik is ic mc ms sa : Nat} {A : Nat → Prop}
    (hown : s.vm.findClass own = some m.cls) (hcls : Bundle.fit cls = true) (hnames : ∀ n ∈ names, Bundle.fit n = true)
    (hk : (Cond.classLink own ik cls).before args s = true) (hini : (Cond.initialized cls).before args s = true) (hstr : vk_R own is text sa s) (hat : ∀ w ∈ vx_atS own ic cls names, w.before args s = true)
    (hgood : ∀ w ∈ Cond.classLink own ik cls :: Cond.initialized cls :: vx_atS own ic cls names, vx_ot w = true)
    (hU : vx_Zq Bundle.tN "UNASSIGNED_STACK" Bundle.steD A s s.heap) (hN : vx_Zq Bundle.tN "SUPPRESSED_SENTINEL" Bundle.listD A s s.heap) (hS : va_S A s.heap H locs) (hsize : ls.size = c.maxLocals)
    (d0 : decode cc pc = .ok (.new ik, 3)) (d3 : decode cc (pc + 3) = .ok (.dup, 1)) (d4 : decode cc (pc + 4) = .ok (.ldc is, 2)) (d6 : decode cc (pc + 6) = .ok (.invokespecial ic, 3)) (d9 : decode cc (pc + 9) = .ok (.athrow, 1))
    (hout : ∀ x ∈ c.exceptionTable.toList, covers x (pc + 9) = false)
    (hRframes : names.length + 3 < R.frames) (hRlocals : (rest.map fun v => v.category).sum + (13 * (names.length + 1) + 43) ≤ R.locals) (hRcells : cells + 1 ≤ R.cells) (hRslots : slots + 6 ≤ R.slots) (hlocks : meth.locks = false)
    (hx : ∀ t : State, s.vm.Alike t.vm → H.size ≤ t.heap.size → (∀ q : Nat, q < H.size → t.heap[q]? = H[q]?) → XC cls s t)
    (hf : ∀ z ∈ locs, free z.base) (hc : cells + 1 ≤ mc) (hs : slots + 6 ≤ ms) :
    W p l e R s m args below meth c H locs cells slots (vx_MQ below Qc XC args s mc ms free) (F0 m pc ls rest) := by
  intro T hT X
  have htr : e.platform.stackTraces = false := (show e.platform.stackTraces = l.stackTraces by rw [X.admits.platform]).trans hl
  have Y := vx_rebase X (R' := { frames := R.frames, locals := R.locals, cells := 1, slots := 6 }) (Nat.le_refl _) (Nat.le_refl _) hRcells hRslots
  obtain ⟨s', hA⟩ : ∃ z, z = (T.setVm s.vm).setFrames (.invoking m args :: below) := ⟨_, rfl⟩
  rw [← hA] at Y
  have hvm : s'.vm = s.vm := by rw [hA]; rfl
  have hhp : s'.heap = H := by rw [hA]; exact hT
  have hW0 : s.WarmedH s'.vm := by rw [hvm]; exact State.WarmedH.refl s
  have hat' : ∀ w ∈ vx_atS own ic cls names, w.before args s' = true := fun w hw => vx_ot_at hW0 hvm.symm (hgood w (List.mem_cons_of_mem _ (List.mem_cons_of_mem _ hw))) (hat w hw)
  have hk' : (Cond.classLink own ik cls).before args s' = true := vx_ot_at hW0 hvm.symm (hgood _ List.mem_cons_self) hk
  have hini' : (Cond.initialized cls).before args s' = true := vx_ot_at hW0 hvm.symm (hgood _ (List.mem_cons_of_mem _ List.mem_cons_self)) hini
  have hU' : vx_Zq Bundle.tN "UNASSIGNED_STACK" Bundle.steD A s' s'.heap := by rw [hhp]; exact vx_Zq.moved hW0.alike (hU.kept hS.2.1)
  have hN' : vx_Zq Bundle.tN "SUPPRESSED_SENTINEL" Bundle.listD A s' s'.heap := by rw [hhp]; exact vx_Zq.moved hW0.alike (hN.kept hS.2.1)
  have h : ∀ w ∈ Bundle.ownAtoms own ic cls names, w.before args s' = true := vx_own hat' (vx_isRefq hU'.1) (vx_isRefq hN'.1) hU'.2.word hN'.2.word
  have hown' : s'.vm.findClass own = some m.cls := by rw [hvm]; exact hown
  have hins : (Cond.instantiable cls 6).before args s' = true := h _ (by simp [Bundle.ownAtoms])
  obtain ⟨vm₁, cX, kX, hfX, hkX, -, -, X₁, st1⟩ := Y.newCold hexec (own := own) (C := cls) (index := ik) (n := 6) hown' hk' hins hini'
    (g := F0 m pc ls rest) rfl (by rw [hb]; exact d0) (Nat.le_refl _) (Nat.le_refl _)
  generalize hT1 : (T.setVm vm₁).pushCell { cls := cX, slots := kX.instanceTypes.map defaultValue, vm := .none } = T1 at X₁ st1
  have hcat : (Value.ref T.heap.size).category = 1 := rfl
  have hcellA : T1.heap[T.heap.size]? = some (freshCell cX kX) := by rw [← hT1]; exact State.heap_pushCell_size _ _
  have d3' : decode c.code (pc + 3) = .ok (.dup, 1) := by rw [hb]; exact d3
  have d4' : decode c.code (pc + 4) = .ok (.ldc is, 2) := by rw [hb]; exact d4
  have hstr' : vk_R own is text sa s' := vk_R.warm hW0 hstr
  obtain ⟨U, hsteps, hrun, hend, hW, hsame, ce, hce, hO⟩ := X₁.ctorThrowS hexec htr (own := own) (cls := cls) (names := names) (ic := ic) hown' hcls hnames h (fun x hx => nomatch hx) hfX hkX hcellA (by rw [hhp, hT]; exact Nat.le_refl _) (msg := .ref sa) rfl
    (g := { method := m, pc := pc + 6, locals := ls, stack := .ref sa :: .ref T.heap.size :: .ref T.heap.size :: rest, locked := none }) rfl hsize rfl rfl (rest := rest) rfl
    (by rw [hb]; exact d6) (by rw [hb]; exact d9) hout hRframes (by simp only [List.map_cons, List.sum_cons, hcat]; omega) hlocks
  obtain ⟨f1, f2⟩ := vx_frame hsame
  rw [hhp] at f1 f2
  have hWs : s.WarmedH U.vm := State.WarmedH.trans hW0 hW
  have hcl : s.vm.findClass cls = some ce.cls := by
    have h9 := hO.cls
    rw [hvm] at h9
    exact h9
  have hall : s.sameButNew ({ U with vm := s.vm } : State) locs mc ms := by
    subst hA
    obtain ⟨e1, e2⟩ := hsame
    rw [State.setFrames_setFrames] at e1
    have h2 : (T.setVm s.vm).sameButNew ({ U with vm := s.vm } : State) [] (0 + 1) (0 + 6) := ⟨e1, e2⟩
    have h3 := X.same.trans h2
    rw [List.append_nil] at h3
    exact h3.mono hc hs
  refine ⟨U, ?_, .threw T.heap.size, hrun, hend, Or.inr ⟨T.heap.size, rfl, cls, ce, locs, hx U hWs.alike f1 (fun q hq => f2 q hq (fun z hz => nomatch hz)), hce, hO.vm, hcl, hWs, hall, hf⟩⟩
  refine st1 _ ?_
  show Steps p.tables e below (T1.setTop { method := m, pc := pc + 3, locals := ls, stack := .ref T.heap.size :: rest, locked := none }) _
  jvm_step X₁.here [X₁.here.top, hexec, d3', Value.category]
  exact X₁.ldcString hexec (own := own) (text := text) (index := is) (a := sa) hown' hstr'.1 hstr'.2
    (g := { method := m, pc := pc + 4, locals := ls, stack := .ref T.heap.size :: .ref T.heap.size :: rest, locked := none }) rfl d4' _ hsteps
/-- 'throw new E("text")', the text by a wide index -/
theorem vx_throwSW {cc : ByteArray} {pc : Nat} (hexec : p.tables.exec = Jvm.exec) (hb : c.code = cc) (hl : l.stackTraces = false) {own cls text : String} {names : List String} {ik is ic mc ms sa : Nat} {A : Nat → Prop}
    (hown : s.vm.findClass own = some m.cls) (hcls : Bundle.fit cls = true) (hnames : ∀ n ∈ names, Bundle.fit n = true)
    (hk : (Cond.classLink own ik cls).before args s = true) (hini : (Cond.initialized cls).before args s = true) (hstr : vk_R own is text sa s) (hat : ∀ w ∈ vx_atS own ic cls names, w.before args s = true)
    (hgood : ∀ w ∈ Cond.classLink own ik cls :: Cond.initialized cls :: vx_atS own ic cls names, vx_ot w = true)
    (hU : vx_Zq Bundle.tN "UNASSIGNED_STACK" Bundle.steD A s s.heap) (hN : vx_Zq Bundle.tN "SUPPRESSED_SENTINEL" Bundle.listD A s s.heap) (hS : va_S A s.heap H locs) (hsize : ls.size = c.maxLocals)
    (d0 : decode cc pc = .ok (.new ik, 3)) (d3 : decode cc (pc + 3) = .ok (.dup, 1)) (d4 : decode cc (pc + 4) = .ok (.ldc_w is, 3)) (d7 : decode cc (pc + 7) = .ok (.invokespecial ic, 3)) (d10 : decode cc (pc + 10) = .ok (.athrow, 1))
    (hout : ∀ x ∈ c.exceptionTable.toList, covers x (pc + 10) = false)
    (hRframes : names.length + 3 < R.frames) (hRlocals : (rest.map fun v => v.category).sum + (13 * (names.length + 1) + 43) ≤ R.locals) (hRcells : cells + 1 ≤ R.cells) (hRslots : slots + 6 ≤ R.slots) (hlocks : meth.locks = false)
    (hx : ∀ t : State, s.vm.Alike t.vm → H.size ≤ t.heap.size → (∀ q : Nat, q < H.size → t.heap[q]? = H[q]?) → XC cls s t)
    (hf : ∀ z ∈ locs, free z.base) (hc : cells + 1 ≤ mc) (hs : slots + 6 ≤ ms) :
    W p l e R s m args below meth c H locs cells slots (vx_MQ below Qc XC args s mc ms free) (F0 m pc ls rest) := by
  intro T hT X
  have htr : e.platform.stackTraces = false := (show e.platform.stackTraces = l.stackTraces by rw [X.admits.platform]).trans hl
  have Y := vx_rebase X (R' := { frames := R.frames, locals := R.locals, cells := 1, slots := 6 }) (Nat.le_refl _) (Nat.le_refl _) hRcells hRslots
  obtain ⟨s', hA⟩ : ∃ z, z = (T.setVm s.vm).setFrames (.invoking m args :: below) := ⟨_, rfl⟩
  rw [← hA] at Y
  have hvm : s'.vm = s.vm := by rw [hA]; rfl
  have hhp : s'.heap = H := by rw [hA]; exact hT
  have hW0 : s.WarmedH s'.vm := by rw [hvm]; exact State.WarmedH.refl s
  have hat' : ∀ w ∈ vx_atS own ic cls names, w.before args s' = true := fun w hw => vx_ot_at hW0 hvm.symm (hgood w (List.mem_cons_of_mem _ (List.mem_cons_of_mem _ hw))) (hat w hw)
  have hk' : (Cond.classLink own ik cls).before args s' = true := vx_ot_at hW0 hvm.symm (hgood _ List.mem_cons_self) hk
  have hini' : (Cond.initialized cls).before args s' = true := vx_ot_at hW0 hvm.symm (hgood _ (List.mem_cons_of_mem _ List.mem_cons_self)) hini
  have hU' : vx_Zq Bundle.tN "UNASSIGNED_STACK" Bundle.steD A s' s'.heap := by rw [hhp]; exact vx_Zq.moved hW0.alike (hU.kept hS.2.1)
  have hN' : vx_Zq Bundle.tN "SUPPRESSED_SENTINEL" Bundle.listD A s' s'.heap := by rw [hhp]; exact vx_Zq.moved hW0.alike (hN.kept hS.2.1)
  have h : ∀ w ∈ Bundle.ownAtoms own ic cls names, w.before args s' = true := vx_own hat' (vx_isRefq hU'.1) (vx_isRefq hN'.1) hU'.2.word hN'.2.word
  have hown' : s'.vm.findClass own = some m.cls := by rw [hvm]; exact hown
  have hins : (Cond.instantiable cls 6).before args s' = true := h _ (by simp [Bundle.ownAtoms])
  obtain ⟨vm₁, cX, kX, hfX, hkX, -, -, X₁, st1⟩ := Y.newCold hexec (own := own) (C := cls) (index := ik) (n := 6) hown' hk' hins hini'
    (g := F0 m pc ls rest) rfl (by rw [hb]; exact d0) (Nat.le_refl _) (Nat.le_refl _)
  generalize hT1 : (T.setVm vm₁).pushCell { cls := cX, slots := kX.instanceTypes.map defaultValue, vm := .none } = T1 at X₁ st1
  have hcat : (Value.ref T.heap.size).category = 1 := rfl
  have hcellA : T1.heap[T.heap.size]? = some (freshCell cX kX) := by rw [← hT1]; exact State.heap_pushCell_size _ _
  have d3' : decode c.code (pc + 3) = .ok (.dup, 1) := by rw [hb]; exact d3
  have d4' : decode c.code (pc + 4) = .ok (.ldc_w is, 3) := by rw [hb]; exact d4
  have hstr' : vk_R own is text sa s' := vk_R.warm hW0 hstr
  obtain ⟨U, hsteps, hrun, hend, hW, hsame, ce, hce, hO⟩ := X₁.ctorThrowS hexec htr (own := own) (cls := cls) (names := names) (ic := ic) hown' hcls hnames h (fun x hx => nomatch hx) hfX hkX hcellA (by rw [hhp, hT]; exact Nat.le_refl _) (msg := .ref sa) rfl
    (g := { method := m, pc := pc + 7, locals := ls, stack := .ref sa :: .ref T.heap.size :: .ref T.heap.size :: rest, locked := none }) rfl hsize rfl rfl (rest := rest) rfl
    (by rw [hb]; exact d7) (by rw [hb]; exact d10) hout hRframes (by simp only [List.map_cons, List.sum_cons, hcat]; omega) hlocks
  obtain ⟨f1, f2⟩ := vx_frame hsame
  rw [hhp] at f1 f2
  have hWs : s.WarmedH U.vm := State.WarmedH.trans hW0 hW
  have hcl : s.vm.findClass cls = some ce.cls := by
    have h9 := hO.cls
    rw [hvm] at h9
    exact h9
  have hall : s.sameButNew ({ U with vm := s.vm } : State) locs mc ms := by
    subst hA
    obtain ⟨e1, e2⟩ := hsame
    rw [State.setFrames_setFrames] at e1
    have h2 : (T.setVm s.vm).sameButNew ({ U with vm := s.vm } : State) [] (0 + 1) (0 + 6) := ⟨e1, e2⟩
    have h3 := X.same.trans h2
    rw [List.append_nil] at h3
    exact h3.mono hc hs
  refine ⟨U, ?_, .threw T.heap.size, hrun, hend, Or.inr ⟨T.heap.size, rfl, cls, ce, locs, hx U hWs.alike f1 (fun q hq => f2 q hq (fun z hz => nomatch hz)), hce, hO.vm, hcl, hWs, hall, hf⟩⟩
  refine st1 _ ?_
  show Steps p.tables e below (T1.setTop { method := m, pc := pc + 3, locals := ls, stack := .ref T.heap.size :: rest, locked := none }) _
  jvm_step X₁.here [X₁.here.top, hexec, d3', Value.category]
  exact X₁.ldcStringW hexec (own := own) (text := text) (index := is) (a := sa) hown' hstr'.1 hstr'.2
    (g := { method := m, pc := pc + 4, locals := ls, stack := .ref T.heap.size :: .ref T.heap.size :: rest, locked := none }) rfl d4' _ hsteps
end Ends
section Bodies
variable {l : Launch}
theorem vx_ofW {y : MethodName} {ws ws' : List Cond} {rm : Room} {Pc : Array Value → State → Prop} {Qc : Array Value → State → Outcome → State → Prop} {XC : String → State → State → Prop} {mc ms : Nat} {free : Addr → Prop} {cc : ByteArray} {maxL : Nat} {ret : Option FieldType}
    (hy : plainName y.cls = true) (hw : ws = Cond.code y cc maxL ret :: ws')
    (body : ∀ p e s m args below meth c s₁, BodyLoose p l y (headSpec ws rm) cc maxL ret e s m args below meth c s₁ → c.maxLocals = maxL → (∀ x ∈ c.exceptionTable.toList, False) → Pc args s →
      W p l e (headSpec ws rm).room s m args below meth c s.heap [] 0 0 (vx_MQ below Qc XC args s mc ms free) (entryFrame m args maxL)) : vx_Met l y ws rm Pc Qc XC mc ms free := by
  refine MetFree.of_bodyS (code := cc) (maxLocals := maxL) (ret := ret) hy ?_ ?_
  · intro args s m h hn
    obtain ⟨meth, c, h1, h2, h3, h4, h5, h6, -, -⟩ := Cond.code_spec hn (atoms_spec (ws := ws) h _ (by rw [hw]; exact List.mem_cons_self))
    exact ⟨meth, c, h1, h2, h3, h4, h5, h6⟩
  · intro p e s m args below meth c s₁ B hml hP _
    have hh0 : s₁.heap = s.heap := by rw [B.state]; rfl
    have ht : ∀ x ∈ c.exceptionTable.toList, False := by
      obtain ⟨meth9, c9, h1, h2, -, -, -, -, h7, -⟩ := Cond.code_spec B.named (atoms_spec (ws := ws) B.pre _ (by rw [hw]; exact List.mem_cons_self))
      cases Option.some.inj (h1.symm.trans B.method)
      cases Option.some.inj (h2.symm.trans (Stand.of_body B).code)
      intro x hx
      rw [Array.isEmpty_iff.mp h7] at hx
      cases hx
    obtain ⟨t, a1, o, b1, b2, b3⟩ := body p e s m args below meth c s₁ B hml ht hP s₁ hh0 (Stand.of_body B)
    exact ⟨t, o, a1, b1, b2, b3⟩
/-- the table of a body with handlers -/
theorem vx_table {p : Program} {x y : MethodName} {S : Spec} {cc bytes : ByteArray} {maxL maxL' : Nat} {ret ret' : Option FieldType} {e : Env} {s s₁ : State} {m : MethodId} {args : Array Value} {below : List Frame} {meth : Method} {c : Code} {hh : List (Nat × Nat × Nat × Nat)}
    (B : BodyLoose p l y S cc maxL ret e s m args below meth c s₁) (h : (Cond.codeWith y bytes maxL' ret' hh).before args s = true) : c.exceptionTable.toList = tableOf hh := by
  obtain ⟨m9, meth9, c9, hn9, h1, h2, -, -, h6, -⟩ := Cond.codeWith_spec h
  cases Option.some.inj (hn9.symm.trans B.named)
  cases Option.some.inj (h1.symm.trans B.method)
  cases Option.some.inj (h2.symm.trans (Stand.of_body B).code)
  rw [← h6, table_eq]
end Bodies
end VXA
/-! ===== END ===== -/
/-! ===== BEGIN a static call of a method with an exception table ===== -/
section VXS
variable {p : Program} {l : Launch} {e : Env} {R : Room} {s : State} {m : MethodId} {args : Array Value} {below : List Frame} {meth : Method} {c : Code} {T : State} {H : Heap} {locs : List Loc} {cells slots : Nat}
abbrev vx_CSW (R : Room) (s : State) (args : Array Value) (own : String) (index : Nat) (y : MethodName) (bytes : ByteArray) (maxL : Nat) (ret : Option FieldType) (hh : List (Nat × Nat × Nat × Nat)) (ws : List Cond) (rm : Room) (mc ms n : Nat) : Prop :=
  (rm.cells = mc ∧ rm.slots = ms ∧ rm.frames + 1 ≤ R.frames ∧ 8 + (maxL + 11) + rm.locals ≤ R.locals ∧ (∀ w ∈ ws, ∀ (a' : Array Value) (U : State), s.WarmedH U.vm → w.before a' U = true) ∧ Cond.codeWith y bytes maxL ret hh ∈ ws) ∧
  (Cond.codeWith y bytes maxL ret hh).before args s = true ∧ (Cond.initialized y.cls).before args s = true ∧ (y.cls ≠ "java/lang/invoke/MethodHandle" ∧ y.cls ≠ "java/lang/invoke/VarHandle") ∧
  (∀ sig, parseMethodDescriptor y.desc = some sig → n = sig.parameters.length) ∧ (Cond.methodLink own index y).before args s = true ∧ (Cond.static y).before args s = true
theorem vx_cwSW {own : String} {index maxL mc ms : Nat} {y : MethodName} {bytes : ByteArray} {ret : Option FieldType} {hh : List (Nat × Nat × Nat × Nat)} {Ts ws ws' : List Cond} {rm : Room} (n : Nat) (ht : ∀ w ∈ Ts, w.before args s = true) (hT : GoodIn Ts (va_wsS own index y ws)) (hw : ws = Cond.codeWith y bytes maxL ret hh :: ws') (hrc : rm.cells = mc) (hrs : rm.slots = ms)
    (hd : y.cls ≠ "java/lang/invoke/MethodHandle" ∧ y.cls ≠ "java/lang/invoke/VarHandle" ∧ (parseMethodDescriptor y.desc).map (fun d => d.parameters.length) = some n) (hR : rm.frames + 1 ≤ R.frames ∧ 8 + (maxL + 11) + rm.locals ≤ R.locals) :
    vx_CSW R s args own index y bytes maxL ret hh ws rm mc ms n := by
  have ok : ∀ w ∈ va_wsS own index y ws, w.before args s = true := fun w h => ht w (hT w h).1
  have hG : GoodIn Ts ws := fun w h => hT w (by unfold va_wsS; exact List.mem_append_right _ h)
  have hc : Cond.codeWith y bytes maxL ret hh ∈ ws := by rw [hw]; exact List.mem_cons_self
  refine ⟨⟨hrc, hrs, hR.1, hR.2, pay_in ht hG, hc⟩, ht _ (hG _ hc).1, ok _ (by simp [va_wsS]), ⟨hd.1, hd.2.1⟩, fun sig h => ?_, ok _ (by simp [va_wsS]), ok _ (by simp [va_wsS])⟩
  have h2 := hd.2.2
  rw [h] at h2
  exact (Option.some.inj h2).symm
theorem vx_callSW (X : Stand p l e R s m args below meth c T locs cells slots) (hexec : p.tables.exec = Jvm.exec) {own : String} {index : Nat} {y : MethodName} {bytes : ByteArray} {maxL : Nat} {ret : Option FieldType} {hh : List (Nat × Nat × Nat × Nat)}
    (hown : s.vm.findClass own = some m.cls) (hlink : (Cond.methodLink own index y).before args s = true) (hstat : (Cond.static y).before args s = true) (hinit : (Cond.initialized y.cls).before args s = true)
    (hcode : (Cond.codeWith y bytes maxL ret hh).before args s = true) (hy : y.cls ≠ "java/lang/invoke/MethodHandle" ∧ y.cls ≠ "java/lang/invoke/VarHandle")
    {W9 : Nat} {Pre : Pt → Array Value → Prop} {Post : Pt → Array Value → Option Value → Pt → Prop} (hK : Back l R p e below s args y 3 W9 Pre Post)
    {g : JFrame} (hg : g.method = m) (hsize : g.locals.size = c.maxLocals) {argsL rest : List Value} (hlen : ∀ sig, parseMethodDescriptor y.desc = some sig → argsL.length = sig.parameters.length)
    (hstack : g.stack = argsL.reverse ++ rest) (hW : 2 * g.monitorRoom + (rest.map fun v => v.category).sum ≤ W9) (hdg : decode c.code g.pc = .ok (.invokestatic index, 3))
    (hpre : ∀ vm₁, s.WarmedH vm₁ → Pre ⟨T.setVm vm₁, locs, cells, slots⟩ argsL.toArray) :
    ∃ (v : Option Value) (vm₁ : Vm) (B : Pt), s.WarmedH vm₁ ∧ Stand p l e R s m args below meth c B.U B.locs B.cells B.slots ∧ Post ⟨T.setVm vm₁, locs, cells, slots⟩ argsL.toArray v B ∧
      ∀ target, Steps p.tables e below (B.U.setTop { g with pc := g.pc + 3, stack := v.toList ++ rest }) target → Steps p.tables e below (T.setTop g) target := by
  obtain ⟨mk, methM, cM, hnamed, hmethM, -, -, -, -, -, -, hsigM⟩ := Cond.codeWith_spec hcode
  have hstatic : methM.isStatic = true := Cond.static_spec hnamed hmethM hstat
  obtain ⟨kP, hkP, -⟩ := className_of_methodNamed hnamed
  have hinitP : kP.init = .initialized := Cond.initialized_spec (findClass_of_methodNamed hnamed) hkP hinit
  obtain ⟨vm₁, X₁, hstep₁⟩ := X.invokestatic hexec hown hlink hnamed hmethM hstatic hkP hinitP hy (g := g) hg (argsL := argsL) (rest := rest) (hlen _ hsigM) hstack hdg
  obtain ⟨v, B, X', hpost, hsteps⟩ := hK m meth c ⟨T.setVm vm₁, locs, cells, slots⟩ { g with stack := rest } (.invokestatic index) mk argsL.toArray X₁ hg hsize hdg hW (X₁.named hnamed) (hpre vm₁ X₁.warmed)
  exact ⟨v, vm₁, B, X₁.warmed, X', hpost, fun target h => hstep₁ _ fun acts => by rw [doInvoke_state]; exact hsteps.trans h⟩
theorem vx_runSW {y : MethodName} {bytes cc : ByteArray} {maxL nL mc ms n index : Nat} {ret : Option FieldType} {hh : List (Nat × Nat × Nat × Nat)} {ws : List Cond} {rm : Room} {Pc : Array Value → State → Prop} {Qc : Array Value → State → Outcome → State → Prop} {free : Addr → Prop} {Ts : List Cond} {own : String} {As rest : List Value} {g : JFrame}
    (S : CallFix p m c cc nL s args Ts own) (hM : Met l y ws rm Pc Qc mc ms free) (cw : vx_CSW R s args own index y bytes maxL ret hh ws rm mc ms n) (hp : PreS s H Pc As)
    (hg : g.method = m) (hn : As.length = n) (hsize : g.locals.size = nL) (hstack : g.stack = As.reverse ++ rest) (hW : 2 * g.monitorRoom + (rest.map fun v => v.category).sum ≤ 8) (hdg : decode cc g.pc = .ok (.invokestatic index, 3)) (hf : cells + mc ≤ R.cells ∧ slots + ms ≤ R.slots) :
    va_Run p l e R s m args below meth c H locs cells slots mc ms g rest (Qc As.toArray) (free) := by
  obtain ⟨⟨hrc, hrs, hfr, hlo, hws, hcw⟩, hcode, hini, hy, hlen, hl, hstt⟩ := cw
  have hK : Back l R p e below s args y 3 8 (PreOf R mc ms Pc) (PostOf Qc mc ms free) := va_backW (hh := hh) (bytes := bytes) (maxL := maxL) (ret := ret) hM hp.1 hrc hrs hfr hlo hws hcw (fun a' U hW => word_at hW (Or.inl (by first | rfl | simp [Cond.onTables, Cond.keeps, Cond.steady])) hini)
  obtain ⟨hx, hb, hml, ho, -⟩ := S
  intro T hT X
  obtain ⟨v, vm₁, ⟨U', l2, c2, s2⟩, hW₁, X', ⟨g', mk, t, L, e1, e2, hq, h1, hL, h2, h3⟩, st⟩ := vx_callSW X hx (hh := hh) (bytes := bytes) (maxL := maxL) (ret := ret) ho hl hstt hini hcode hy hK hg (hsize.trans hml.symm) (argsL := As) (rest := rest) (fun sig h => hn.trans (hlen sig h)) hstack hW (by rw [hb]; exact hdg)
    (fun vm₁ hW₁ => ⟨hf.1, hf.2, hp.2 (T.setVm vm₁) hT hW₁⟩)
  dsimp only [Pt.U, Pt.locs, Pt.cells, Pt.slots] at X' e1 e2 h1 h2 h3 st
  subst h1; subst h2; subst h3
  exact ⟨v, (T.setVm vm₁).calling g' mk As.toArray, t, U', L, hT, X', hL, e1, e2, hq, st⟩
/-- not caught here, past rows that name other classes: it goes on to the caller -/
theorem vx_outP {p : Program} {l : Launch} {e : Env} {R : Room} {s : State} {m : MethodId} {args : Array Value} {below : List Frame} {meth : Method} {c : Code} {H : Heap} {locs : List Loc} {cells slots : Nat} {free : Addr → Prop} {ls : Array Slot} {rest : List Value} {Qc : Array Value → State → Outcome → State → Prop} {XC : String → State → State → Prop}
    {pc : Nat} {own E : String} {ce : Cell} {q : Addr} {mc ms : Nat} (hown : s.vm.findClass own = some m.cls) (hlocks : meth.locks = false)
    (hpass : ∀ z ∈ c.exceptionTable.toList, covers z pc = false ∨ (z.catchType ≠ 0 ∧ ∃ nm : String, (Cond.classLink own z.catchType nm).before args s = true ∧ va_Nc E nm s)) (hcell : H[q]? = some ce) (hv : ce.vm = .none) (hcl : s.vm.findClass E = some ce.cls)
    (hx : ∀ t : State, t.heap = H → s.vm.Alike t.vm → XC E s t) (hf : ∀ z ∈ locs, free z.base) (hc : cells ≤ mc) (hs : slots ≤ ms) :
    vx_W p l e R s m args below meth c H locs cells slots (vx_MQ below Qc XC args s mc ms free) (F0 m pc ls rest) q := by
  intro T hT X
  have hpl : e.platform.magicAccessors = ({} : Platform).magicAccessors := by rw [X.admits.platform]
  obtain ⟨vm', hW', X', st⟩ := X.outThrough hlocks q (g := F0 m pc ls rest) rfl rfl rfl (cell := ce) (by rw [hT]; exact hcell) (by rw [hv]; rfl)
    (by obtain ⟨k9, h9, -⟩ := Vm.findClass_spec hcl; exact ⟨k9, h9⟩) (fun z hz => by
      rcases hpass z hz with h | ⟨hz0, nm, hl1, hn1⟩
      · exact Or.inl h
      · obtain ⟨c6, hc6, hcl6⟩ := Cond.classLink_spec hown hl1 e.platform hpl
        obtain ⟨a8, b8, h1, h2, h3⟩ := hn1
        cases Option.some.inj (h1.symm.trans hcl)
        cases Option.some.inj (h2.symm.trans hc6)
        exact Or.inr ⟨hz0, _, hcl6, h3⟩)
  obtain ⟨g₀, hfr⟩ := X'.frames_eq
  have hcell9 : ((T.setVm vm').setFrames (.throwing q :: below)).heap[q]? = some ce := by
    show T.heap[q]? = some ce
    rw [hT]; exact hcell
  have hend : Ended ((T.setVm vm').setFrames (.throwing q :: below)) below (.threw q) := State.frames_setFrames _ (State.cur_lt_of_frames hfr)
  refine ⟨(T.setVm vm').setFrames (.throwing q :: below), ?_, .threw q, X'.here.running, hend, Or.inr ⟨q, rfl, E, ce, locs, hx _ hT (X'.ends _).1.alike, hcell9, hv, hcl, (X'.ends _).1, (X'.ends _).2.mono hc hs, hf⟩⟩
  rw [X.pushThrowing_eq]
  exact st
/-- a thing of a world lies in the heap -/
theorem vx_lt {D : va_G} {cl : List vw_C} {ws : va_W} {H1 : Heap} (h : va_P D cl ws H1) {k : Nat} {q : Nat × va_E} (hk : ws[k]? = some q) : q.1 < H1.size := (h k q hk).lt
end VXS
/-! ===== END ===== -/
/-! ===== BEGIN methods with a table of their own: called by a name, returning or throwing ===== -/
section VXH
/-! vx_backW, vx_callVX, vx_callSX, vx_callVW, vx_runVW, vx_runVX, vx_runSX, vx_ofWH follow the same proofs as their sisters above (Free/Laws.lean, Shelf42/LK1.lean); vx_outP calls Shelf42/NT130.lean (outThrough). -/
section
variable {l : Launch} {R : Room} {p : Program} {e : Env} {below : List Frame} {s : State} {sargs : Array Value} {y : MethodName} {len W9 : Nat}
theorem vx_backW {ws : List Cond} {rm : Room} {Pc : Array Value → State → Prop} {Qc : Array Value → State → Outcome → State → Prop} {XC : String → State → State → Prop} {mc ms : Nat} {free : Addr → Prop} {bytes : ByteArray} {maxL : Nat} {ret : Option FieldType} {hh : List (Nat × Nat × Nat × Nat)}
    (hM : vx_Met l y ws rm Pc Qc XC mc ms free) (hblind : FrameBlind Pc) (hrc : rm.cells = mc) (hrs : rm.slots = ms)
    (hframes : rm.frames + 1 ≤ R.frames) (hlocals : W9 + (maxL + 11) + rm.locals ≤ R.locals)
    (hws : ∀ w ∈ ws, ∀ a' U, s.WarmedH U.vm → w.before a' U = true) (hcode : Cond.codeWith y bytes maxL ret hh ∈ ws) (hinit : ∀ a' U, s.WarmedH U.vm → (Cond.initialized y.cls).before a' U = true) :
    vx_Back l R p e below s sargs y len W9 (PreOf R mc ms Pc) (PostOf Qc mc ms free) (vx_Post XC mc ms free) := by
  intro m meth c A g ig mk a X hg hsize hdg hW hn hp
  have h1 : (headSpec ws rm).pre.before a A.U = true := atoms_intro fun w hw => hws w hw _ _ X.warmed
  have h2 : (Cond.codeWith y bytes maxL ret hh).before a A.U = true := hws _ hcode _ _ X.warmed
  have h3 : (Cond.initialized y.cls).before a A.U = true := hinit _ _ X.warmed
  have h4 : A.cells + (headSpec ws rm).room.cells ≤ R.cells := by rw [show (headSpec ws rm).room.cells = mc from hrc]; exact hp.1
  have h5 : A.slots + (headSpec ws rm).room.slots ≤ R.slots := by rw [show (headSpec ws rm).room.slots = ms from hrs]; exact hp.2.1
  have hPc : Pc a (A.U.calling g mk a) := hblind _ _ _ _ hp.2.2
  obtain ⟨U, Ls, c0, s0⟩ := A
  dsimp only [Pt.U, Pt.locs, Pt.cells, Pt.slots] at h1 h2 h3 h4 h5 X hn hPc ⊢
  obtain ⟨m9, methY, cY, hn9, hmY, hcY, -, hlY, -⟩ := Cond.codeWith_spec h2
  cases Option.some.inj (hn9.symm.trans hn)
  obtain ⟨kY, hkY, -⟩ := className_of_methodNamed hn
  have hinitY : kY.init = .initialized := Cond.initialized_spec (findClass_of_methodNamed hn) hkY h3
  have h : At U g.method c below := by rw [hg]; exact X.here
  have hlocals9 : W9 + (maxL + 11) + (headSpec ws rm).room.locals ≤ R.locals := hlocals
  have happ : (headSpec ws rm).appliesLoose y e.platform (U.calling g mk a) = true :=
    Spec.appliesLoose_calling (g := g) h hdg hn hkY hinitY
      (X.room_calling (g := g) (R' := (headSpec ws rm).room) hsize hmY hcY hframes (by rw [hlY]; omega) h4 h5) h1
  obtain ⟨mid, hmid⟩ := h.above
  have hfr : (U.setTop g).frames = (.java g :: mid) ++ below := by rw [State.frames_setTop' g h.top, hmid]; rfl
  obtain ⟨o, s₂, hsteps, -, hend, hq⟩ := Steps.callFree hM p X.admits X.cas X.clock (acts := []) hfr happ hPc trivial
  have hq' : vx_Q Qc XC mc ms free a (U.calling g mk a) o s₂ := hq
  rw [State.frames_setTop' g h.top] at hend
  obtain ⟨g₀, hg0⟩ := Option.isSome_iff_exists.mp h.top
  obtain ⟨r, hr⟩ := State.topJava?_eq_some.mp hg0
  have hr' : (({ U with heap := s₂.heap, slotsUsed := s₂.slotsUsed } : State).setVm s₂.vm).frames = .java g₀ :: r := hr
  rcases hq' with ⟨hqc, L, hfe, hL⟩ | ⟨q, rfl, E, ce, L, hx, hce, hcv, hcl, hW₂, hsm, hL⟩
  · obtain ⟨⟨v, rfl⟩, hW₂, e2, q2, q3, q4, q5, q6⟩ := id hfe
    have e3 : s₂ = ({ (U.calling g mk a).setFrames s₂.frames with heap := s₂.heap, slotsUsed := s₂.slotsUsed } : State).setVm s₂.vm := by
      have : s₂ = ({ s₂ with vm := (U.calling g mk a).vm } : State).setVm s₂.vm := rfl
      rw [e2] at this
      exact this
    obtain ⟨c₂, i₂, len₂, hc₂, hd₂, hf₂⟩ := hend
    have hW' : U.WarmedH s₂.vm := hW₂
    have hcc : c₂ = c := by
      have h1 : s₂.code? g.method = U.code? g.method := by
        rw [State.code?_eq, State.code?_eq, hW'.alike.method?]
      exact Option.some.inj (hc₂.symm.trans (h1.trans h.code))
    subst hcc
    have hlen : len₂ = len := by rw [hdg] at hd₂; cases hd₂; rfl
    subst hlen
    have hs₂ : s₂ = (({ U with heap := s₂.heap, slotsUsed := s₂.slotsUsed } : State).setVm s₂.vm).setTop { g with pc := g.pc + len₂, stack := v.toList ++ g.stack } := by
      refine e3.trans ?_
      rw [hf₂, State.calling_eq h.top, State.setFrames_setFrames, State.setTop_of_frames _ hr', hr]
      rfl
    have hsame : U.sameButNew ({ U with heap := s₂.heap, slotsUsed := s₂.slotsUsed } : State) L mc ms := by
      refine ⟨?_, q2, q3, q4, q5, q6⟩
      obtain ⟨t, ht, -⟩ := State.frames_cons hr
      show ({ U with heap := s₂.heap, slotsUsed := s₂.slotsUsed } : State) = { U.setFrames U.frames with heap := s₂.heap, slotsUsed := s₂.slotsUsed }
      rw [State.setFrames_self ht]
    subst hg
    refine Or.inl ⟨v, ⟨(({ U with heap := s₂.heap, slotsUsed := s₂.slotsUsed } : State).setVm s₂.vm), Ls ++ L, c0 + mc, s0 + ms⟩,
      ⟨X.admits, X.cas, X.clock, X.frames, X.room, X.hears, X.method, X.code, (X.here.setHeapUsed s₂.heap s₂.slotsUsed).setVm hW'.alike, X.tail, State.WarmedH.trans X.warmed hW', X.limits, X.bytes, X.same.trans (hsame.setVm s.vm)⟩,
      ⟨g, mk, s₂, L, rfl, rfl, hqc, rfl, hL, rfl, rfl⟩, ?_⟩
    show Steps p.tables e below _ ((({ U with heap := s₂.heap, slotsUsed := s₂.slotsUsed } : State).setVm s₂.vm).setTop { g with pc := g.pc + len₂, stack := v.toList ++ g.stack })
    rw [← hs₂]
    exact hsteps
  · obtain ⟨e2, q2, q3, q4, q5, q6⟩ := id hsm
    have e3 : s₂ = ({ (U.calling g mk a).setFrames s₂.frames with heap := s₂.heap, slotsUsed := s₂.slotsUsed } : State).setVm s₂.vm := by
      have : s₂ = ({ s₂ with vm := (U.calling g mk a).vm } : State).setVm s₂.vm := rfl
      rw [e2] at this
      exact this
    have hf₂ : s₂.frames = .throwing q :: .java g :: U.frames.tail := hend
    have hW' : U.WarmedH s₂.vm := hW₂
    have hs₂ : s₂ = ((({ U with heap := s₂.heap, slotsUsed := s₂.slotsUsed } : State).setVm s₂.vm).setTop g).pushFrame (.throwing q) := by
      refine e3.trans ?_
      rw [hf₂, State.calling_eq h.top, State.setFrames_setFrames, State.pushFrame, State.frames_setTop _ hr', State.setTop_of_frames _ hr', State.setFrames_setFrames, hr]
      rfl
    have hsame : U.sameButNew ({ U with heap := s₂.heap, slotsUsed := s₂.slotsUsed } : State) L mc ms := by
      refine ⟨?_, q2, q3, q4, q5, q6⟩
      obtain ⟨t, ht, -⟩ := State.frames_cons hr
      show ({ U with heap := s₂.heap, slotsUsed := s₂.slotsUsed } : State) = { U.setFrames U.frames with heap := s₂.heap, slotsUsed := s₂.slotsUsed }
      rw [State.setFrames_self ht]
    subst hg
    refine Or.inr ⟨q, ⟨(({ U with heap := s₂.heap, slotsUsed := s₂.slotsUsed } : State).setVm s₂.vm), Ls ++ L, c0 + mc, s0 + ms⟩,
      ⟨X.admits, X.cas, X.clock, X.frames, X.room, X.hears, X.method, X.code, (X.here.setHeapUsed s₂.heap s₂.slotsUsed).setVm hW'.alike, X.tail, State.WarmedH.trans X.warmed hW', X.limits, X.bytes, X.same.trans (hsame.setVm s.vm)⟩,
      ⟨g, mk, s₂, L, E, ce, rfl, rfl, hx, hce, hcv, hcl, rfl, hL, rfl, rfl⟩, ?_⟩
    show Steps p.tables e below _ (((({ U with heap := s₂.heap, slotsUsed := s₂.slotsUsed } : State).setVm s₂.vm).setTop g).pushFrame (.throwing q))
    rw [← hs₂]
    exact hsteps
end
variable {p : Program} {l : Launch} {e : Env} {R : Room} {s : State} {m : MethodId} {args : Array Value} {below : List Frame} {meth : Method} {c : Code} {T : State} {H : Heap} {locs : List Loc} {cells slots : Nat}
theorem vx_callVX (X : Stand p l e R s m args below meth c T locs cells slots) (hexec : p.tables.exec = Jvm.exec) {own C : String} {index : Nat} {y : MethodName} {bytes : ByteArray} {maxL : Nat} {ret : Option FieldType} {hh : List (Nat × Nat × Nat × Nat)}
    (hown : s.vm.findClass own = some m.cls) (hlink : (Cond.methodLink own index y).before args s = true) (hinst : (Cond.instanceMethod y).before args s = true) (hsel : (Cond.selects C y y).before args s = true)
    (hcode : (Cond.codeWith y bytes maxL ret hh).before args s = true) (hy : y.cls ≠ "java/lang/invoke/MethodHandle" ∧ y.cls ≠ "java/lang/invoke/VarHandle")
    {W9 : Nat} {Pre : Pt → Array Value → Prop} {Post : Pt → Array Value → Option Value → Pt → Prop} {PostX : Pt → Array Value → Addr → Pt → Prop} (hK : vx_Back l R p e below s args y 3 W9 Pre Post PostX)
    {b : Addr} {cellB : Cell} (hcell : T.heap[b]? = some cellB) (hobj : cellB.vm.isStatics = false) (hcls : s.vm.findClass C = some cellB.cls)
    {g : JFrame} (hg : g.method = m) (hsize : g.locals.size = c.maxLocals) {argsL rest : List Value} (hlen : ∀ sig, parseMethodDescriptor y.desc = some sig → argsL.length = sig.parameters.length)
    (hstack : g.stack = argsL.reverse ++ .ref b :: rest) (hW : 2 * g.monitorRoom + (rest.map fun v => v.category).sum ≤ W9) (hdg : decode c.code g.pc = .ok (.invokevirtual index, 3))
    (hpre : ∀ vm₁, s.WarmedH vm₁ → Pre ⟨T.setVm vm₁, locs, cells, slots⟩ (Value.ref b :: argsL).toArray) :
    (∃ (v : Option Value) (vm₁ : Vm) (B : Pt), s.WarmedH vm₁ ∧ Stand p l e R s m args below meth c B.U B.locs B.cells B.slots ∧ Post ⟨T.setVm vm₁, locs, cells, slots⟩ (Value.ref b :: argsL).toArray v B ∧
      ∀ target, Steps p.tables e below (B.U.setTop { g with pc := g.pc + 3, stack := v.toList ++ rest }) target → Steps p.tables e below (T.setTop g) target) ∨
    (∃ (q : Addr) (vm₁ : Vm) (B : Pt), s.WarmedH vm₁ ∧ Stand p l e R s m args below meth c B.U B.locs B.cells B.slots ∧ PostX ⟨T.setVm vm₁, locs, cells, slots⟩ (Value.ref b :: argsL).toArray q B ∧
      Steps p.tables e below (T.setTop g) ((B.U.setTop { g with stack := rest }).pushFrame (.throwing q))) := by
  obtain ⟨mk, methM, hnamed, hmethM, hstM, habM⟩ := Cond.instanceMethod_spec hinst
  obtain ⟨m8, methM', cM, hn8, hmethM', -, -, -, -, -, -, hsigM⟩ := Cond.codeWith_spec hcode
  cases Option.some.inj (hn8.symm.trans hnamed)
  cases hmethM.symm.trans hmethM'
  obtain ⟨c2, r2, m2, q1, q2, q3, q4, kP, hkP, hkPi⟩ := Cond.selects_spec hsel
  cases hcls.symm.trans q1
  cases (State.methodFound?_of_named hnamed hy).symm.trans q2
  cases hnamed.symm.trans q3
  have hselP : selectMethod e.platform s.vm cellB.cls mk = .method mk := by rw [Launch.admits_selectMethod X.admits]; exact q4
  obtain ⟨vm₁, X₁, hstep₁⟩ := X.invokevirtual hexec hown hlink hnamed hmethM hstM hkP hkPi hy (a := b) (cell := cellB) hcell
    (fun z h => by rw [h] at hobj; cases hobj) hselP hmethM habM hkP hkPi (g := g) hg (argsL := argsL) (rest := rest) (hlen _ hsigM) hstack hdg
  rcases hK m meth c ⟨T.setVm vm₁, locs, cells, slots⟩ { g with stack := rest } (.invokevirtual index) mk (Value.ref b :: argsL).toArray X₁ hg hsize hdg hW (X₁.named hnamed) (hpre vm₁ X₁.warmed) with ⟨v, B, X', hpost, hsteps⟩ | ⟨q, B, X', hpost, hsteps⟩
  · exact Or.inl ⟨v, vm₁, B, X₁.warmed, X', hpost, fun target h => hstep₁ _ fun acts => by rw [doInvoke_state]; exact hsteps.trans h⟩
  · exact Or.inr ⟨q, vm₁, B, X₁.warmed, X', hpost, hstep₁ _ fun acts => by rw [doInvoke_state]; exact hsteps⟩
theorem vx_callSX (X : Stand p l e R s m args below meth c T locs cells slots) (hexec : p.tables.exec = Jvm.exec) {own : String} {index : Nat} {y : MethodName} {bytes : ByteArray} {maxL : Nat} {ret : Option FieldType} {hh : List (Nat × Nat × Nat × Nat)}
    (hown : s.vm.findClass own = some m.cls) (hlink : (Cond.methodLink own index y).before args s = true) (hstat : (Cond.static y).before args s = true) (hinit : (Cond.initialized y.cls).before args s = true)
    (hcode : (Cond.codeWith y bytes maxL ret hh).before args s = true) (hy : y.cls ≠ "java/lang/invoke/MethodHandle" ∧ y.cls ≠ "java/lang/invoke/VarHandle")
    {W9 : Nat} {Pre : Pt → Array Value → Prop} {Post : Pt → Array Value → Option Value → Pt → Prop} {PostX : Pt → Array Value → Addr → Pt → Prop} (hK : vx_Back l R p e below s args y 3 W9 Pre Post PostX)
    {g : JFrame} (hg : g.method = m) (hsize : g.locals.size = c.maxLocals) {argsL rest : List Value} (hlen : ∀ sig, parseMethodDescriptor y.desc = some sig → argsL.length = sig.parameters.length)
    (hstack : g.stack = argsL.reverse ++ rest) (hW : 2 * g.monitorRoom + (rest.map fun v => v.category).sum ≤ W9) (hdg : decode c.code g.pc = .ok (.invokestatic index, 3))
    (hpre : ∀ vm₁, s.WarmedH vm₁ → Pre ⟨T.setVm vm₁, locs, cells, slots⟩ argsL.toArray) :
    (∃ (v : Option Value) (vm₁ : Vm) (B : Pt), s.WarmedH vm₁ ∧ Stand p l e R s m args below meth c B.U B.locs B.cells B.slots ∧ Post ⟨T.setVm vm₁, locs, cells, slots⟩ argsL.toArray v B ∧
      ∀ target, Steps p.tables e below (B.U.setTop { g with pc := g.pc + 3, stack := v.toList ++ rest }) target → Steps p.tables e below (T.setTop g) target) ∨
    (∃ (q : Addr) (vm₁ : Vm) (B : Pt), s.WarmedH vm₁ ∧ Stand p l e R s m args below meth c B.U B.locs B.cells B.slots ∧ PostX ⟨T.setVm vm₁, locs, cells, slots⟩ argsL.toArray q B ∧
      Steps p.tables e below (T.setTop g) ((B.U.setTop { g with stack := rest }).pushFrame (.throwing q))) := by
  obtain ⟨mk, methM, cM, hnamed, hmethM, -, -, -, -, -, -, hsigM⟩ := Cond.codeWith_spec hcode
  have hstatic : methM.isStatic = true := Cond.static_spec hnamed hmethM hstat
  obtain ⟨kP, hkP, -⟩ := className_of_methodNamed hnamed
  have hinitP : kP.init = .initialized := Cond.initialized_spec (findClass_of_methodNamed hnamed) hkP hinit
  obtain ⟨vm₁, X₁, hstep₁⟩ := X.invokestatic hexec hown hlink hnamed hmethM hstatic hkP hinitP hy (g := g) hg (argsL := argsL) (rest := rest) (hlen _ hsigM) hstack hdg
  rcases hK m meth c ⟨T.setVm vm₁, locs, cells, slots⟩ { g with stack := rest } (.invokestatic index) mk argsL.toArray X₁ hg hsize hdg hW (X₁.named hnamed) (hpre vm₁ X₁.warmed) with ⟨v, B, X', hpost, hsteps⟩ | ⟨q, B, X', hpost, hsteps⟩
  · exact Or.inl ⟨v, vm₁, B, X₁.warmed, X', hpost, fun target h => hstep₁ _ fun acts => by rw [doInvoke_state]; exact hsteps.trans h⟩
  · exact Or.inr ⟨q, vm₁, B, X₁.warmed, X', hpost, hstep₁ _ fun acts => by rw [doInvoke_state]; exact hsteps⟩
theorem vx_callVW (X : Stand p l e R s m args below meth c T locs cells slots) (hexec : p.tables.exec = Jvm.exec) {own C : String} {index : Nat} {y : MethodName} {bytes : ByteArray} {maxL : Nat} {ret : Option FieldType} {hh : List (Nat × Nat × Nat × Nat)}
    (hown : s.vm.findClass own = some m.cls) (hlink : (Cond.methodLink own index y).before args s = true) (hinst : (Cond.instanceMethod y).before args s = true) (hsel : (Cond.selects C y y).before args s = true)
    (hcode : (Cond.codeWith y bytes maxL ret hh).before args s = true) (hy : y.cls ≠ "java/lang/invoke/MethodHandle" ∧ y.cls ≠ "java/lang/invoke/VarHandle")
    {W9 : Nat} {Pre : Pt → Array Value → Prop} {Post : Pt → Array Value → Option Value → Pt → Prop} (hK : Back l R p e below s args y 3 W9 Pre Post)
    {b : Addr} {cellB : Cell} (hcell : T.heap[b]? = some cellB) (hobj : cellB.vm.isStatics = false) (hcls : s.vm.findClass C = some cellB.cls)
    {g : JFrame} (hg : g.method = m) (hsize : g.locals.size = c.maxLocals) {argsL rest : List Value} (hlen : ∀ sig, parseMethodDescriptor y.desc = some sig → argsL.length = sig.parameters.length)
    (hstack : g.stack = argsL.reverse ++ .ref b :: rest) (hW : 2 * g.monitorRoom + (rest.map fun v => v.category).sum ≤ W9) (hdg : decode c.code g.pc = .ok (.invokevirtual index, 3))
    (hpre : ∀ vm₁, s.WarmedH vm₁ → Pre ⟨T.setVm vm₁, locs, cells, slots⟩ (Value.ref b :: argsL).toArray) :
    ∃ (v : Option Value) (vm₁ : Vm) (B : Pt), s.WarmedH vm₁ ∧ Stand p l e R s m args below meth c B.U B.locs B.cells B.slots ∧ Post ⟨T.setVm vm₁, locs, cells, slots⟩ (Value.ref b :: argsL).toArray v B ∧
      ∀ target, Steps p.tables e below (B.U.setTop { g with pc := g.pc + 3, stack := v.toList ++ rest }) target → Steps p.tables e below (T.setTop g) target := by
  obtain ⟨mk, methM, hnamed, hmethM, hstM, habM⟩ := Cond.instanceMethod_spec hinst
  obtain ⟨m8, methM', cM, hn8, hmethM', -, -, -, -, -, -, hsigM⟩ := Cond.codeWith_spec hcode
  cases Option.some.inj (hn8.symm.trans hnamed)
  cases hmethM.symm.trans hmethM'
  obtain ⟨c2, r2, m2, q1, q2, q3, q4, kP, hkP, hkPi⟩ := Cond.selects_spec hsel
  cases hcls.symm.trans q1
  cases (State.methodFound?_of_named hnamed hy).symm.trans q2
  cases hnamed.symm.trans q3
  have hselP : selectMethod e.platform s.vm cellB.cls mk = .method mk := by rw [Launch.admits_selectMethod X.admits]; exact q4
  obtain ⟨vm₁, X₁, hstep₁⟩ := X.invokevirtual hexec hown hlink hnamed hmethM hstM hkP hkPi hy (a := b) (cell := cellB) hcell
    (fun z h => by rw [h] at hobj; cases hobj) hselP hmethM habM hkP hkPi (g := g) hg (argsL := argsL) (rest := rest) (hlen _ hsigM) hstack hdg
  obtain ⟨v, B, X', hpost, hsteps⟩ := hK m meth c ⟨T.setVm vm₁, locs, cells, slots⟩ { g with stack := rest } (.invokevirtual index) mk (Value.ref b :: argsL).toArray X₁ hg hsize hdg hW (X₁.named hnamed) (hpre vm₁ X₁.warmed)
  exact ⟨v, vm₁, B, X₁.warmed, X', hpost, fun target h => hstep₁ _ fun acts => by rw [doInvoke_state]; exact hsteps.trans h⟩
abbrev vx_CVW (R : Room) (s : State) (args : Array Value) (own C : String) (index : Nat) (y : MethodName) (bytes : ByteArray) (maxL : Nat) (ret : Option FieldType) (hh : List (Nat × Nat × Nat × Nat)) (ws : List Cond) (rm : Room) (mc ms n : Nat) : Prop :=
  (rm.cells = mc ∧ rm.slots = ms ∧ rm.frames + 1 ≤ R.frames ∧ 8 + (maxL + 11) + rm.locals ≤ R.locals ∧ (∀ w ∈ ws, ∀ (a' : Array Value) (U : State), s.WarmedH U.vm → w.before a' U = true) ∧ Cond.codeWith y bytes maxL ret hh ∈ ws) ∧
  (Cond.codeWith y bytes maxL ret hh).before args s = true ∧ (Cond.initialized y.cls).before args s = true ∧ (y.cls ≠ "java/lang/invoke/MethodHandle" ∧ y.cls ≠ "java/lang/invoke/VarHandle") ∧
  (∀ sig, parseMethodDescriptor y.desc = some sig → n = sig.parameters.length) ∧ (Cond.methodLink own index y).before args s = true ∧ (Cond.instanceMethod y).before args s = true ∧ (Cond.selects C y y).before args s = true
theorem vx_cwVW {own C : String} {index maxL mc ms : Nat} {y : MethodName} {bytes : ByteArray} {ret : Option FieldType} {hh : List (Nat × Nat × Nat × Nat)} {Ts ws ws' : List Cond} {rm : Room} (n : Nat) (ht : ∀ w ∈ Ts, w.before args s = true) (hT : GoodIn Ts (wsV own index C y ws)) (hw : ws = Cond.codeWith y bytes maxL ret hh :: ws') (hrc : rm.cells = mc) (hrs : rm.slots = ms)
    (hd : y.cls = C ∧ y.cls ≠ "java/lang/invoke/MethodHandle" ∧ y.cls ≠ "java/lang/invoke/VarHandle" ∧ (parseMethodDescriptor y.desc).map (fun d => d.parameters.length) = some n) (hR : rm.frames + 1 ≤ R.frames ∧ 8 + (maxL + 11) + rm.locals ≤ R.locals) :
    vx_CVW R s args own C index y bytes maxL ret hh ws rm mc ms n := by
  obtain ⟨hC, hd⟩ := hd
  subst hC
  have ok : ∀ w ∈ wsV own index y.cls y ws, w.before args s = true := fun w h => ht w (hT w h).1
  have hG : GoodIn Ts ws := fun w h => hT w (by unfold wsV; exact List.mem_append_right _ h)
  have hc : Cond.codeWith y bytes maxL ret hh ∈ ws := by rw [hw]; exact List.mem_cons_self
  refine ⟨⟨hrc, hrs, hR.1, hR.2, pay_in ht hG, hc⟩, ht _ (hG _ hc).1, ok _ (by simp [wsV]), ⟨hd.1, hd.2.1⟩, fun sig h => ?_, ok _ (by simp [wsV]), ok _ (by simp [wsV]), ok _ (by simp [wsV])⟩
  have h2 := hd.2.2
  rw [h] at h2
  exact (Option.some.inj h2).symm
theorem vx_runVW {y : MethodName} {bytes cc : ByteArray} {maxL nL mc ms n index : Nat} {ret : Option FieldType} {hh : List (Nat × Nat × Nat × Nat)} {ws : List Cond} {rm : Room} {Pc : Array Value → State → Prop} {Qc : Array Value → State → Outcome → State → Prop} {free : Addr → Prop} {Ts : List Cond} {own C : String} {b : Addr} {As rest : List Value} {g : JFrame}
    (S : CallFix p m c cc nL s args Ts own) (hM : Met l y ws rm Pc Qc mc ms free) (cw : vx_CVW R s args own C index y bytes maxL ret hh ws rm mc ms n) (hp : PreV s H C b Pc As)
    (hg : g.method = m) (hn : As.length = n) (hsize : g.locals.size = nL) (hstack : g.stack = As.reverse ++ .ref b :: rest) (hW : 2 * g.monitorRoom + (rest.map fun v => v.category).sum ≤ 8) (hdg : decode cc g.pc = .ok (.invokevirtual index, 3)) (hf : cells + mc ≤ R.cells ∧ slots + ms ≤ R.slots) :
    va_Run p l e R s m args below meth c H locs cells slots mc ms g rest (Qc (Value.ref b :: As).toArray) free := by
  obtain ⟨⟨hrc, hrs, hfr, hlo, hws, hcw⟩, hcode, hini, hy, hlen, hl, hin, hse⟩ := cw
  have hK : Back l R p e below s args y 3 8 (PreOf R mc ms Pc) (PostOf Qc mc ms free) := va_backW (hh := hh) (bytes := bytes) (maxL := maxL) (ret := ret) hM hp.1 hrc hrs hfr hlo hws hcw (fun a' U hW => word_at hW (Or.inl (by first | rfl | simp [Cond.onTables, Cond.keeps, Cond.steady])) hini)
  obtain ⟨hx, hb, hml, ho, -⟩ := S
  obtain ⟨-, ⟨cellB, hcB, hoB, hclB⟩, hPc⟩ := hp
  intro T hT X
  obtain ⟨v, vm₁, ⟨U', l2, c2, s2⟩, hW₁, X', ⟨g', mk, t, L, e1, e2, hq, h1, hL, h2, h3⟩, st⟩ := vx_callVW X hx (C := C) (hh := hh) (bytes := bytes) (maxL := maxL) (ret := ret) ho hl hin hse hcode hy hK (by rw [hT]; exact hcB) hoB hclB hg (hsize.trans hml.symm) (argsL := As) (rest := rest) (fun sig h => hn.trans (hlen sig h)) hstack hW (by rw [hb]; exact hdg)
    (fun vm₁ hW₁ => ⟨hf.1, hf.2, hPc (T.setVm vm₁) hT hW₁⟩)
  dsimp only [Pt.U, Pt.locs, Pt.cells, Pt.slots] at X' e1 e2 h1 h2 h3 st
  subst h1; subst h2; subst h3
  exact ⟨v, (T.setVm vm₁).calling g' mk (Value.ref b :: As).toArray, t, U', L, hT, X', hL, e1, e2, hq, st⟩
section
variable {y : MethodName} {bytes cc : ByteArray} {maxL nL mc ms n index : Nat} {ret : Option FieldType} {ws : List Cond} {rm : Room} {Pc : Array Value → State → Prop} {Qc : Array Value → State → Outcome → State → Prop} {XC : String → State → State → Prop} {free : Addr → Prop} {Ts : List Cond} {own C : String} {b : Addr} {As rest : List Value} {g : JFrame}
theorem vx_runVX {hh : List (Nat × Nat × Nat × Nat)} (S : CallFix p m c cc nL s args Ts own) (hM : vx_Met l y ws rm Pc Qc XC mc ms free) (cw : vx_CVW R s args own C index y bytes maxL ret hh ws rm mc ms n) (hp : PreV s H C b Pc As)
    (hg : g.method = m) (hn : As.length = n) (hsize : g.locals.size = nL) (hstack : g.stack = As.reverse ++ .ref b :: rest) (hW : 2 * g.monitorRoom + (rest.map fun v => v.category).sum ≤ 8) (hdg : decode cc g.pc = .ok (.invokevirtual index, 3)) (hf : cells + mc ≤ R.cells ∧ slots + ms ≤ R.slots) :
    vx_Run p l e R s m args below meth c H locs cells slots mc ms g rest (Qc (Value.ref b :: As).toArray) XC free := by
  obtain ⟨⟨hrc, hrs, hfr, hlo, hws, hcw⟩, hcode, hini, hy, hlen, hl, hin, hse⟩ := cw
  have hK : vx_Back l R p e below s args y 3 8 (PreOf R mc ms Pc) (PostOf Qc mc ms free) (vx_Post XC mc ms free) := vx_backW (hh := hh) (bytes := bytes) (maxL := maxL) (ret := ret) hM hp.1 hrc hrs hfr hlo hws hcw (fun a' U hW => word_at hW (Or.inl (by first | rfl | simp [Cond.onTables, Cond.keeps, Cond.steady])) hini)
  obtain ⟨hx, hb, hml, ho, -⟩ := S
  obtain ⟨-, ⟨cellB, hcB, hoB, hclB⟩, hPc⟩ := hp
  intro T hT X
  rcases vx_callVX X hx (C := C) (hh := hh) (bytes := bytes) (maxL := maxL) (ret := ret) ho hl hin hse hcode hy hK (by rw [hT]; exact hcB) hoB hclB hg (hsize.trans hml.symm) (argsL := As) (rest := rest) (fun sig h => hn.trans (hlen sig h)) hstack hW (by rw [hb]; exact hdg)
    (fun vm₁ hW₁ => ⟨hf.1, hf.2, hPc (T.setVm vm₁) hT hW₁⟩) with ⟨v, vm₁, ⟨U', l2, c2, s2⟩, hW₁, X', ⟨g', mk, t, L, e1, e2, hq, h1, hL, h2, h3⟩, st⟩ | ⟨q, vm₁, ⟨U', l2, c2, s2⟩, hW₁, X', ⟨g', mk, t, L, E, ce, e1, e2, hq, hce, hcv, hcl, h1, hL, h2, h3⟩, st⟩
  · dsimp only [Pt.U, Pt.locs, Pt.cells, Pt.slots] at X' e1 e2 h1 h2 h3 st
    subst h1; subst h2; subst h3
    exact Or.inl ⟨v, (T.setVm vm₁).calling g' mk (Value.ref b :: As).toArray, t, U', L, hT, X', hL, e1, e2, hq, st⟩
  · dsimp only [Pt.U, Pt.locs, Pt.cells, Pt.slots] at X' e1 e2 h1 h2 h3 st hcl
    subst h1; subst h2; subst h3
    exact Or.inr ⟨q, (T.setVm vm₁).calling g' mk (Value.ref b :: As).toArray, t, U', L, E, ce, hT, X', hL, e1, e2, hq, hce, hcv, vx_cls hW₁ hcl, st⟩
theorem vx_runSX {hh : List (Nat × Nat × Nat × Nat)} (S : CallFix p m c cc nL s args Ts own) (hM : vx_Met l y ws rm Pc Qc XC mc ms free) (cw : vx_CSW R s args own index y bytes maxL ret hh ws rm mc ms n) (hp : PreS s H Pc As)
    (hg : g.method = m) (hn : As.length = n) (hsize : g.locals.size = nL) (hstack : g.stack = As.reverse ++ rest) (hW : 2 * g.monitorRoom + (rest.map fun v => v.category).sum ≤ 8) (hdg : decode cc g.pc = .ok (.invokestatic index, 3)) (hf : cells + mc ≤ R.cells ∧ slots + ms ≤ R.slots) :
    vx_Run p l e R s m args below meth c H locs cells slots mc ms g rest (Qc As.toArray) XC free := by
  obtain ⟨⟨hrc, hrs, hfr, hlo, hws, hcw⟩, hcode, hini, hy, hlen, hl, hstt⟩ := cw
  have hK : vx_Back l R p e below s args y 3 8 (PreOf R mc ms Pc) (PostOf Qc mc ms free) (vx_Post XC mc ms free) := vx_backW (hh := hh) (bytes := bytes) (maxL := maxL) (ret := ret) hM hp.1 hrc hrs hfr hlo hws hcw (fun a' U hW => word_at hW (Or.inl (by first | rfl | simp [Cond.onTables, Cond.keeps, Cond.steady])) hini)
  obtain ⟨hx, hb, hml, ho, -⟩ := S
  intro T hT X
  rcases vx_callSX X hx (hh := hh) (bytes := bytes) (maxL := maxL) (ret := ret) ho hl hstt hini hcode hy hK hg (hsize.trans hml.symm) (argsL := As) (rest := rest) (fun sig h => hn.trans (hlen sig h)) hstack hW (by rw [hb]; exact hdg)
    (fun vm₁ hW₁ => ⟨hf.1, hf.2, hp.2 (T.setVm vm₁) hT hW₁⟩) with ⟨v, vm₁, ⟨U', l2, c2, s2⟩, hW₁, X', ⟨g', mk, t, L, e1, e2, hq, h1, hL, h2, h3⟩, st⟩ | ⟨q, vm₁, ⟨U', l2, c2, s2⟩, hW₁, X', ⟨g', mk, t, L, E, ce, e1, e2, hq, hce, hcv, hcl, h1, hL, h2, h3⟩, st⟩
  · dsimp only [Pt.U, Pt.locs, Pt.cells, Pt.slots] at X' e1 e2 h1 h2 h3 st
    subst h1; subst h2; subst h3
    exact Or.inl ⟨v, (T.setVm vm₁).calling g' mk As.toArray, t, U', L, hT, X', hL, e1, e2, hq, st⟩
  · dsimp only [Pt.U, Pt.locs, Pt.cells, Pt.slots] at X' e1 e2 h1 h2 h3 st hcl
    subst h1; subst h2; subst h3
    exact Or.inr ⟨q, (T.setVm vm₁).calling g' mk As.toArray, t, U', L, E, ce, hT, X', hL, e1, e2, hq, hce, hcv, vx_cls hW₁ hcl, st⟩
end
end VXH
theorem vx_ofWH {l : Launch} {y : MethodName} {ws ws' : List Cond} {rm : Room} {Pc : Array Value → State → Prop} {Qc : Array Value → State → Outcome → State → Prop} {XC : String → State → State → Prop} {mc ms : Nat} {free : Addr → Prop} {cc : ByteArray} {maxL : Nat} {ret : Option FieldType} {hh : List (Nat × Nat × Nat × Nat)}
    (hy : plainName y.cls = true) (hw : ws = Cond.codeWith y cc maxL ret hh :: ws')
    (body : ∀ p e s m args below meth c s₁, BodyLoose p l y (headSpec ws rm) cc maxL ret e s m args below meth c s₁ → c.maxLocals = maxL → Pc args s →
      W p l e (headSpec ws rm).room s m args below meth c s.heap [] 0 0 (vx_MQ below Qc XC args s mc ms free) (entryFrame m args maxL)) : vx_Met l y ws rm Pc Qc XC mc ms free := by
  refine MetFree.of_bodyS (code := cc) (maxLocals := maxL) (ret := ret) hy ?_ ?_
  · intro args s m h hn
    obtain ⟨m9, meth, c, hn9, h1, h2, h3, h4, -, h5, h6, -⟩ := Cond.codeWith_spec (atoms_spec (ws := ws) h _ (by rw [hw]; exact List.mem_cons_self))
    cases hn.symm.trans hn9
    exact ⟨meth, c, h1, h2, h3, h4, h5, h6⟩
  · intro p e s m args below meth c s₁ B hml hP _
    have hh0 : s₁.heap = s.heap := by rw [B.state]; rfl
    obtain ⟨t, a1, o, b1, b2, b3⟩ := body p e s m args below meth c s₁ B hml hP s₁ hh0 (Stand.of_body B)
    exact ⟨t, o, a1, b1, b2, b3⟩
/-! ===== END ===== -/

/-! ===== BEGIN what the machine throws by itself, no traces kept ===== -/
section VXM
set_option maxHeartbeats 1000000 in
/-- the machine throws cls with the message text, no traces kept: from its note over the frame g to 'throwing' over the same frame (follows the proofs of Stand.vmThrowsMessage, Shelf/KitTracedVmS.lean, and Stand.throwsMessageColdBareV, StandMessageColdV.lean, without the step out of the frame) -/
theorem vx_vmAt {p : Program} {l : Launch} {e : Env} {R : Room} {s : State} {m₀ : MethodId} {args : Array Value} {below : List Frame} {meth : Method} {c : Code} {W : State} {locs : List Loc} {cells slots : Nat}
    (X : Stand p l e R s m₀ args below meth c W locs cells slots) (hexec : p.tables.exec = Jvm.exec) (htr : e.platform.stackTraces = false) {cls : String} {names : List String} {text : String}
    (hcls : Bundle.fit cls = true) (hnames : ∀ n ∈ names, Bundle.fit n = true) (hsoe : (cls == "java/lang/StackOverflowError") = false) (hoom : (cls == "java/lang/OutOfMemoryError") = false)
    (h : ∀ a ∈ Bundle.messageArmAtoms cls names, a.before args s = true)
    (hlocs : ∀ x ∈ locs, ∀ cell, s.heap[x.base]? = some cell → cell.vm.isStatics = false)
    (htext : (text == notModelled) = false) (hlimit : ¬ (stringBytes (stringToUtf16 text)).size > e.platform.arrayLengthLimit) (hheap : ¬ (stringBytes (stringToUtf16 text)).size * componentBytes .byte > e.platform.maxHeapBytes)
    {g : JFrame} (hg : g.method = m₀) (hsize : g.locals.size = c.maxLocals)
    (hRframes : names.length + 4 < R.frames) (hRlocals : 2 * g.monitorRoom + (g.stack.map fun v => v.category).sum + 10240 ≤ R.locals) (hshort : 13 * names.length + 55 ≤ 10240)
    (hRcells : cells + 3 ≤ R.cells) (hRslots : slots + ((stringBytes (stringToUtf16 text)).size + 4 + 6) ≤ R.slots) (hlocks : meth.locks = false) :
    ∃ (S : State) (q : Addr) (ce : Cell), (∀ target, Steps p.tables e below ((S.setTop g).pushFrame (.throwing q)) target → Steps p.tables e below ((W.setTop g).pushFrame (.throwNew cls (some text) none)) target) ∧
      Stand p l e R s m₀ args below meth c S locs (cells + 3) (slots + ((stringBytes (stringToUtf16 text)).size + 4 + 6)) ∧ S.heap[q]? = some ce ∧ s.vm.findClass cls = some ce.cls ∧ ce.vm = .none := by
  have howns : e.platform.frameOwnsMonitors = true := by rw [X.admits.platform]
  have hfin : e.platform.finalization = false := by rw [X.admits.platform]
  have hpl : e.platform.magicAccessors = ({} : Platform).magicAccessors := by rw [X.admits.platform]
  have a : ∀ x, x ∈ Bundle.messageArmAtoms cls names → x.holds args s none s [] = true := fun x hx => h x hx
  obtain ⟨T, Z0, L, -, Y⟩ := ThrowableC.of_atoms (args := args) howns hfin hpl (fun x hx => h x (by simp [Bundle.messageArmAtoms, hx]))
  obtain ⟨Z, M, LZ, LM, hnZ⟩ := Init0T.ofS_atoms (args := args) hpl L Y (fun x hx => h x (by simp [Bundle.messageArmAtoms, hx]))
  obtain ⟨P1, Ps, hlen, L1, hL, hP1m, hlink1, hlink⟩ := Bundle.chainS (args := args) hpl hnZ names cls hcls hnames (fun x hx => h x (by simp [Bundle.messageArmAtoms, hx]))
  obtain ⟨Zs, LZs, hn4, hfitv, hfitc⟩ := StringT.of_atoms (args := args) (fun x hx => h x (by simp [Bundle.messageArmAtoms, hx]))
  have hfound : s.vm.findClass cls = some P1.m.cls := findClass_of_methodNamed hP1m
  obtain ⟨c1, kX, hc1, hk, hord, -, -, hn6⟩ := Cond.instantiable_spec (a (.instantiable cls 6) (by simp [Bundle.messageArmAtoms]))
  cases Option.some.inj (hc1.symm.trans hfound)
  have hinit := Cond.initialized_spec hfound hk (a (.initialized cls) (by simp [Bundle.messageArmAtoms]))
  have hctor : kX.findMethod "<init>" "(Ljava/lang/String;)V" = some P1.m.idx := findMethod_of_methodNamed hP1m hk
  have hsel0 : selectMethod e.platform s.vm P1.m.cls T.fill0 = .method T.fill0 := by
    obtain ⟨c2, r2, m2, q1, q2, q3, q4, -⟩ := Cond.selects_spec (a (.selects cls Bundle.tFill0 Bundle.tFill0) (by simp [Bundle.messageArmAtoms]))
    cases Option.some.inj (q1.symm.trans hfound)
    cases Option.some.inj (q2.symm.trans (State.methodFound?_of_named Y.fill0 (by decide)))
    cases Option.some.inj (q3.symm.trans Y.fill0)
    rw [Launch.admits_selectMethod X.admits]; exact q4
  have hselF : selectMethod e.platform s.vm P1.m.cls T.fill = .method T.fill := by
    obtain ⟨c2, r2, m2, q1, q2, q3, q4, -⟩ := Cond.selects_spec (a (.selects cls Bundle.tFill Bundle.tFill) (by simp [Bundle.messageArmAtoms]))
    cases Option.some.inj (q1.symm.trans hfound)
    cases Option.some.inj (q2.symm.trans (State.methodFound?_of_named Y.fill (by decide)))
    cases Option.some.inj (q3.symm.trans Y.fill)
    rw [Launch.admits_selectMethod X.admits]; exact q4
  obtain ⟨cellS0, hcS0, hiss⟩ := Y.statics
  obtain ⟨u0, hu0⟩ := Cond.staticRefV Y.unassigned L.unassignedStatic L.statics hcS0 hiss (a (.isRef (.static Bundle.tN "UNASSIGNED_STACK" Bundle.steD)) (by simp [Bundle.messageArmAtoms]))
  obtain ⟨sen, hsen⟩ := Cond.staticRefV Y.sentinel L.sentinelStatic L.statics hcS0 hiss (a (.isRef (.static Bundle.tN "SUPPRESSED_SENTINEL" Bundle.listD)) (by simp [Bundle.messageArmAtoms]))
  obtain ⟨ci198, i198, fB, hk198, hg198, ha198, hsB, -, hnB, htB, hffB⟩ := Cond.ownField (t := .object "java/lang/Object") Y.found L.cls (by decide +kernel) (a (.fieldLink Bundle.tN 198 Bundle.tN "backtrace" "Ljava/lang/Object;") (by simp [Bundle.messageArmAtoms])) (a (.lays Bundle.tN Bundle.tN "backtrace" "Ljava/lang/Object;") (by simp [Bundle.messageArmAtoms])) e.platform hpl
  obtain ⟨cellS, hcS', heS, -, hkeep⟩ := X.same.2.2.2.2.2 T.aS cellS0 hcS0
  have hcellS : W.heap[T.aS]? = some cellS := hcS'
  have hout' : ∀ i, (⟨T.aS, i⟩ : Loc) ∉ locs := fun i hmem => by
    have := hlocs _ hmem cellS0 hcS0
    rw [hiss] at this; cases this
  have hknownS : cellS.vm ≠ .unknown := by
    rw [heS]; intro hu
    rw [show cellS0.vm = .unknown from hu] at hiss
    cases hiss
  have hvU : cellS.slots[T.fUnassigned.slot]? = some u0.v := by rw [hkeep _ (hout' _)]; exact hu0
  have hvSen : cellS.slots[T.fSentinel.slot]? = some sen.v := by rw [hkeep _ (hout' _)]; exact hsen
  obtain ⟨iM, hffM⟩ := Y.msg
  obtain ⟨tyC, dC, hdC, hdnC⟩ := Cond.laysAt hfound hk Y.cause (a (.lays cls Bundle.tN "cause" "Ljava/lang/Throwable;") (by simp [Bundle.messageArmAtoms]))
  obtain ⟨tyS, dS, hdS, hdnS⟩ := Cond.laysAt hfound hk Y.stack (a (.lays cls Bundle.tN "stackTrace" Bundle.steD) (by simp [Bundle.messageArmAtoms]))
  obtain ⟨tyP, dP, hdP, hdnP⟩ := Cond.laysAt hfound hk Y.supp (a (.lays cls Bundle.tN "suppressedExceptions" Bundle.listD) (by simp [Bundle.messageArmAtoms]))
  obtain ⟨tyM, dM, hdM, hdnM⟩ := Cond.laysAt hfound hk hffM (a (.lays cls Bundle.tN "detailMessage" "Ljava/lang/String;") (by simp [Bundle.messageArmAtoms]))
  obtain ⟨tyB, dB, hdB, hdnB⟩ := Cond.laysAt hfound hk hffB (a (.lays cls Bundle.tN "backtrace" "Ljava/lang/Object;") (by simp [Bundle.messageArmAtoms]))
  have bC := Cond.laysApart hdB hdC hdnB hdnC (by rw [hnB, Y.causeName]; decide)
  have bS := Cond.laysApart hdB hdS hdnB hdnS (by rw [hnB, Y.stackName]; decide)
  have bP := Cond.laysApart hdB hdP hdnB hdnP (by rw [hnB, Y.suppName]; decide)
  have hbk : ((preparedCellV T.toThrowableT (freshCell P1.m.cls kX) (W.heap.size + 2) u0 sen).withEntry W.cur).slots[fB.slot]? = some .null := by
    have := fresh_default (c := P1.m.cls) tyB
    rw [htB] at this
    simpa [preparedCellV, Cell.setSlot, Cell.withEntry, Array.getElem?_setIfInBounds, bC, bS, bP, bC.symm, bS.symm, bP.symm, defaultValue] using this
  have tkC := Takes.of_laid (v := .ref (W.heap.size + 2)) hk hord tyC (by rw [Y.causeType]; rfl)
  have tkS := Takes.of_laid (v := u0.v) hk hord tyS (by rw [Y.stackType]; exact fits_refV_array _ u0)
  have tkP := Takes.of_laid (v := sen.v) hk hord tyP (by rw [Y.suppType]; exact fits_refV_object _ sen)
  have tkM := Takes.of_laid (v := .ref (W.heap.size + 1)) hk hord tyM (by rw [Y.msgType]; rfl)
  have hskip : SkipFacts T e.platform s (fun u => u) u0 ((preparedCellV T.toThrowableT (freshCell P1.m.cls kX) (W.heap.size + 2) u0 sen).withEntry W.cur) := ⟨{ ci198 := ci198, i198 := i198, fBack := fB }, ⟨hk198, hg198, ha198, hsB⟩, hbk, fun _ _ => rfl⟩
  have h0 : At W g.method c below := by rw [hg]; exact X.here
  obtain ⟨hbeyond, hfreeW⟩ := X.vmMayThrow hsize (.throwNew cls (some text) none) (fun f hf => by cases hf) rfl hRlocals
  have hfr' : W.frames.length + Ps.length + 4 < (e.platform.stackLimits W.me).1 := by have := X.framesAbove hRframes; omega
  have hwd' : (stackUse (.java g :: W.frames.tail)).2 + 13 * Ps.length + 55 ≤ (e.platform.stackLimits W.me).2 := by have := X.stackAbove hsize (K := 13 * Ps.length + 55) (by omega); omega
  have hslots : W.slotsUsed + (stringBytes (stringToUtf16 text)).size + Zs.kS.instanceTypes.size + kX.instanceTypes.size ≤ e.platform.maxSlots := by
    have := X.slotsAbove hRslots
    rw [hn4, hn6]
    omega
  obtain ⟨vm', hW', st⟩ := Steps.vmThrowsMessageColdByV p (s₀ := s) (S := W) (g := g) h0 hexec T L Z LZ M LM X.warmed (t := W.cur) rfl Zs LZs P1 L1 Ps hL hlink1 hlink hsoe hoom hfound hk hinit hord hctor
    (Launch.admits_hotImplicitExceptions X.admits) hbeyond hfreeW htext hlimit hheap (X.cellsAbove hRcells) hslots (hfitv _) (hfitc _)
    (Nn := fun u => u) heapOnly_id (fun _ _ => rfl) (fun _ => rfl) (fun u x y => setCell_twice _ _ _ _) (fun _ => Nat.le_refl _) (cN := ((preparedCellV T.toThrowableT (freshCell P1.m.cls kX) (W.heap.size + 2) u0 sen).withEntry W.cur))
    hsel0 hcellS hknownS hvU tkS (fun _ hu => hu) (fun _ hu => hu) rfl rfl rfl (by simp [preparedCellV, Cell.setSlot, Cell.withEntry]) hskip (fun _ _ hA hW _ hroom _ hrest => L.nativeOff p htr hA hW hroom hrest) hselF hvSen tkC tkP tkM Y.objLocals rfl hfr' hwd'
  rw [plainBareV_eq T.toThrowableT (W.heap.size + 2) u0 sen (.ref (W.heap.size + 1)) W.cur rfl rfl] at st
  obtain ⟨-, -, w3, w4, -, -, -⟩ := withThrown_facts e.platform W Zs text P1.m.cls kX
  have X3 := ((X.pushed (bytesOf Zs.cB (stringToUtf16 text))).pushed (stringAt Zs.cS Zs.kS Zs.fv Zs.fc (stringToUtf16 text) W.heap.size)).pushed (freshCell P1.m.cls kX)
  rw [← withString_eq] at X3
  have X4 := X3.noted hW'
  have ha : (W.heap.size + 2) < ((withThrown W Zs text P1.m.cls kX).setVm vm').heap.size := by show _ < (withThrown W Zs text P1.m.cls kX).heap.size; rw [w3]; omega
  have hcell : ((withThrown W Zs text P1.m.cls kX).setVm vm').heap[(W.heap.size + 2)]? = some (freshCell P1.m.cls kX) := w4
  have X5 := ((((X4.stored hcell T.fCause.slot (.ref (W.heap.size + 2))).storedAgain ha T.fStack.slot u0.v).storedAgain ha T.fSupp.slot sen.v).storedAgain ha T.fStack.slot u0.v).storedAgain ha T.fMsg.slot (.ref (W.heap.size + 1))
  obtain ⟨g₁, hfrM⟩ := X5.frames_eq
  have hU : ((((withThrown W Zs text P1.m.cls kX).setVm vm').setCell (W.heap.size + 2) (plainBareV T.toThrowableT (freshCell P1.m.cls kX) (W.heap.size + 2) u0 sen (.ref (W.heap.size + 1)))).setTop g).pushFrame (.throwing (W.heap.size + 2)) = (((withThrown W Zs text P1.m.cls kX).setVm vm').setCell (W.heap.size + 2) (plainBareV T.toThrowableT (freshCell P1.m.cls kX) (W.heap.size + 2) u0 sen (.ref (W.heap.size + 1)))).setFrames (.throwing (W.heap.size + 2) :: .java g :: below) := by
    rw [State.pushFrame, State.frames_setTop _ hfrM, State.setTop_of_frames _ hfrM, State.setFrames_setFrames]
  have b1 : (bytesOf Zs.cB (stringToUtf16 text)).slots.size = (stringBytes (stringToUtf16 text)).size := by
    rw [(Cell.writeAll_facts _ _).2.2]; simp [bytes0]
  have b2 : (stringAt Zs.cS Zs.kS Zs.fv Zs.fc (stringToUtf16 text) W.heap.size).slots.size = 4 := by simp [string0, Cell.setSlot, hn4]
  have b3 : (freshCell P1.m.cls kX).slots.size = 6 := by simp [hn6]
  rw [b1, b2, b3] at X5
  have e9 : slots + (stringBytes (stringToUtf16 text)).size + 4 + 6 = slots + ((stringBytes (stringToUtf16 text)).size + 4 + 6) := by omega
  rw [e9] at X5
  simp only [List.append_assoc, List.cons_append, List.nil_append] at X5
  refine ⟨((withThrown W Zs text P1.m.cls kX).setVm vm').setCell (W.heap.size + 2) (plainBareV T.toThrowableT (freshCell P1.m.cls kX) (W.heap.size + 2) u0 sen (.ref (W.heap.size + 1))), W.heap.size + 2, _, fun target ht => st _ (by rw [X.tail, ← hU]; exact ht),
    X5.forget (fun y hy => ?_), heapAt_setCell_self _ ha, hfound, rfl⟩
  simp only [List.mem_cons, List.not_mem_nil, or_false] at hy
  have hge : s.heap.size ≤ W.heap.size := X.same.2.1
  rcases hy with rfl | rfl | rfl | rfl | rfl <;> exact Nat.le_trans hge (Nat.le_add_right _ 2)
set_option maxHeartbeats 1000000 in
/-- the machine throws NullPointerException, no traces kept: from its note over the frame g to 'throwing' over the same frame (follows the proof of Stand.vmThrowsNpe, Shelf42/KT2.lean; throwsNpeColdBareVAt, Shelf42/NT91.lean, called) -/
theorem vx_npeAt {p : Program} {l : Launch} {e : Env} {R : Room} {s : State} {m₀ : MethodId} {args : Array Value} {below : List Frame} {meth : Method} {c : Code} {W : State} {locs : List Loc} {cells slots : Nat}
    (X : Stand p l e R s m₀ args below meth c W locs cells slots) (hexec : p.tables.exec = Jvm.exec) (htr : e.platform.stackTraces = false) {n : Nat}
    (h : ∀ a ∈ Bundle.npeArmAtoms n, a.before args s = true)
    (hlocs : ∀ x ∈ locs, ∀ cell, s.heap[x.base]? = some cell → cell.vm.isStatics = false)
    {g : JFrame} (hg : g.method = m₀) (hsize : g.locals.size = c.maxLocals)
    (hRframes : 7 < R.frames) (hRlocals : 2 * g.monitorRoom + (g.stack.map fun v => v.category).sum + 10240 ≤ R.locals)
    (hRcells : cells + 1 ≤ R.cells) (hRslots : slots + n ≤ R.slots) (hlocks : meth.locks = false) :
    ∃ (S : State) (q : Addr) (ce : Cell), (∀ target, Steps p.tables e below ((S.setTop g).pushFrame (.throwing q)) target → Steps p.tables e below ((W.setTop g).pushFrame (.throwNew "java/lang/NullPointerException" none none)) target) ∧
      Stand p l e R s m₀ args below meth c S locs (cells + 1) (slots + n) ∧ S.heap[q]? = some ce ∧ s.vm.findClass "java/lang/NullPointerException" = some ce.cls ∧ ce.vm = .none := by
  have howns : e.platform.frameOwnsMonitors = true := by rw [X.admits.platform]
  have hfin : e.platform.finalization = false := by rw [X.admits.platform]
  have hpl : e.platform.magicAccessors = ({} : Platform).magicAccessors := by rw [X.admits.platform]
  have hpl2 : e.platform.arrayCloneIsPublic = true := by rw [X.admits.platform]
  have a' : ∀ x, x ∈ Bundle.npeArmAtoms n → x.holds args s none s [] = true := fun x hx => h x hx
  obtain ⟨T, Z, L, LZ, Y⟩ := ThrowableC.of_atoms (args := args) howns hfin hpl (fun x hx => h x (by simp [Bundle.npeArmAtoms, hx]))
  obtain ⟨N, LN, hcN, hnNF, hordN, hffS⟩ := NpeC.of_atoms (args := args) hpl hpl2 L Y (fun x hx => h x (by simp [Bundle.npeArmAtoms, hx]))
  obtain ⟨P1, L1, hP1m, hP1s⟩ := PassC.of_atoms (args := args) (s := s) hpl (X := Bundle.nN) (Y := Bundle.rN) (by decide) (by decide) LibCode.NullPointerException.Init0.at_0 LibCode.NullPointerException.Init0.at_1 LibCode.NullPointerException.Init0.at_4 (fun x hx => h x (by simp [Bundle.npeArmAtoms, hx]))
  obtain ⟨PR, LR, hPRm, hPRs⟩ := PassC.of_atoms (args := args) (s := s) hpl (X := Bundle.rN) (Y := Bundle.eN) (by decide) (by decide) LibCode.RuntimeException.Init0.at_0 LibCode.RuntimeException.Init0.at_1 LibCode.RuntimeException.Init0.at_4 (fun x hx => h x (by simp [Bundle.npeArmAtoms, hx]))
  obtain ⟨PE, LEx, hPEm, hPEs⟩ := PassC.of_atoms (args := args) (s := s) hpl (X := Bundle.eN) (Y := Bundle.tN) (by decide) (by decide) LibCode.Exception.Init0.at_0 LibCode.Exception.Init0.at_1 LibCode.Exception.Init0.at_4 (fun x hx => h x (by simp [Bundle.npeArmAtoms, hx]))
  have hfound : s.vm.findClass Bundle.nN = some P1.m.cls := findClass_of_methodNamed hP1m
  have ecls : N.cN = P1.m.cls := Option.some.inj (hcN.symm.trans hfound)
  have hk : s.vm.classes[P1.m.cls]? = some N.kN := by rw [← ecls]; exact LN.cls
  have hinit := Cond.initialized_spec hfound hk (a' (.initialized Bundle.nN) (by simp [Bundle.npeArmAtoms]))
  have hctor : N.kN.findMethod "<init>" "()V" = some P1.m.idx := findMethod_of_methodNamed hP1m hk
  obtain ⟨c1, k1, hc1, hk1, -, -, -, hn⟩ := Cond.instantiable_spec (a' (.instantiable Bundle.nN n) (by simp [Bundle.npeArmAtoms]))
  cases Option.some.inj (hc1.symm.trans hfound)
  cases Option.some.inj (hk1.symm.trans hk)
  have hfsz : (freshCell P1.m.cls N.kN).slots.size = n := by simp [hn]
  have hlink1 : P1.sup = PR.m := Option.some.inj (hP1s.symm.trans hPRm)
  have hlinkR : PR.sup = PE.m := Option.some.inj (hPRs.symm.trans hPEm)
  have hlinkE : PE.sup = Z.m T.toThrowableT := Option.some.inj (hPEs.symm.trans Y.init0)
  have hLs : ∀ P, P ∈ [PR, PE] → P.Links0 e.platform s := fun P hP => by
    simp only [List.mem_cons, List.not_mem_nil, or_false] at hP
    rcases hP with rfl | rfl
    · exact LR
    · exact LEx
  have hsel0 : selectMethod e.platform s.vm P1.m.cls T.fill0 = .method T.fill0 := by
    obtain ⟨c2, r2, m2, q1, q2, q3, q4, -⟩ := Cond.selects_spec (a' (.selects Bundle.nN Bundle.tFill0 Bundle.tFill0) (by simp [Bundle.npeArmAtoms]))
    cases Option.some.inj (q1.symm.trans hfound)
    cases Option.some.inj (q2.symm.trans (State.methodFound?_of_named Y.fill0 (by decide)))
    cases Option.some.inj (q3.symm.trans Y.fill0)
    rw [Launch.admits_selectMethod X.admits]; exact q4
  have hselF : selectMethod e.platform s.vm P1.m.cls T.fill = .method N.fill := by
    obtain ⟨c2, r2, m2, q1, q2, q3, q4, -⟩ := Cond.selects_spec (a' (.selects Bundle.nN Bundle.tFill Bundle.nFill) (by simp [Bundle.npeArmAtoms]))
    cases Option.some.inj (q1.symm.trans hfound)
    cases Option.some.inj (q2.symm.trans (State.methodFound?_of_named Y.fill (by decide)))
    cases Option.some.inj (q3.symm.trans hnNF)
    rw [Launch.admits_selectMethod X.admits]; exact q4
  obtain ⟨cellS0, hcS0, hiss⟩ := Y.statics
  obtain ⟨u0, hu0⟩ := Cond.staticRefV Y.unassigned L.unassignedStatic L.statics hcS0 hiss (a' (.isRef (.static Bundle.tN "UNASSIGNED_STACK" Bundle.steD)) (by simp [Bundle.npeArmAtoms]))
  obtain ⟨sen, hsen⟩ := Cond.staticRefV Y.sentinel L.sentinelStatic L.statics hcS0 hiss (a' (.isRef (.static Bundle.tN "SUPPRESSED_SENTINEL" Bundle.listD)) (by simp [Bundle.npeArmAtoms]))
  obtain ⟨ci198, i198, fB, hk198, hg198, ha198, hsB, -, hnB, htB, hffB⟩ := Cond.ownField (t := .object "java/lang/Object") Y.found L.cls (by decide +kernel) (a' (.fieldLink Bundle.tN 198 Bundle.tN "backtrace" Bundle.objD) (by simp [Bundle.npeArmAtoms])) (a' (.lays Bundle.tN Bundle.tN "backtrace" Bundle.objD) (by simp [Bundle.npeArmAtoms])) e.platform hpl
  obtain ⟨cellS, hcS', heS, -, hkeep⟩ := X.same.2.2.2.2.2 T.aS cellS0 hcS0
  have hcellS : W.heap[T.aS]? = some cellS := hcS'
  have hout' : ∀ i, (⟨T.aS, i⟩ : Loc) ∉ locs := fun i hmem => by
    have := hlocs _ hmem cellS0 hcS0
    rw [hiss] at this; cases this
  have hknownS : cellS.vm ≠ .unknown := by
    rw [heS]; intro hu
    rw [show cellS0.vm = .unknown from hu] at hiss
    cases hiss
  have hvU : cellS.slots[T.fUnassigned.slot]? = some u0.v := by rw [hkeep _ (hout' _)]; exact hu0
  have hvSen : cellS.slots[T.fSentinel.slot]? = some sen.v := by rw [hkeep _ (hout' _)]; exact hsen
  obtain ⟨tyC, dC, hdC, hdnC⟩ := Cond.laysAt hfound hk Y.cause (a' (.lays Bundle.nN Bundle.tN "cause" "Ljava/lang/Throwable;") (by simp [Bundle.npeArmAtoms]))
  obtain ⟨tyS, dS, hdS, hdnS⟩ := Cond.laysAt hfound hk Y.stack (a' (.lays Bundle.nN Bundle.tN "stackTrace" Bundle.steD) (by simp [Bundle.npeArmAtoms]))
  obtain ⟨tyP, dP, hdP, hdnP⟩ := Cond.laysAt hfound hk Y.supp (a' (.lays Bundle.nN Bundle.tN "suppressedExceptions" Bundle.listD) (by simp [Bundle.npeArmAtoms]))
  obtain ⟨tyX, dX, hdX, hdnX⟩ := Cond.laysAt hfound hk hffS (a' (.lays Bundle.nN Bundle.nN "extendedMessageState" "I") (by simp [Bundle.npeArmAtoms, Bundle.npeAtoms]))
  obtain ⟨hnX, htX⟩ := State.fieldFound?_type hffS (t := .int) (by decide +kernel)
  have xC := Cond.laysApart hdC hdX hdnC hdnX (by rw [hnX, Y.causeName]; decide)
  have xS := Cond.laysApart hdS hdX hdnS hdnX (by rw [hnX, Y.stackName]; decide)
  have xP := Cond.laysApart hdP hdX hdnP hdnX (by rw [hnX, Y.suppName]; decide)
  have hv0 : (freshCell P1.m.cls N.kN).slots[N.fState.slot]? = some (.int 0) := by
    have := fresh_default (c := P1.m.cls) tyX
    rw [htX] at this; exact this
  obtain ⟨tyB, dB, hdB, hdnB⟩ := Cond.laysAt hfound hk hffB (a' (.lays Bundle.nN Bundle.tN "backtrace" Bundle.objD) (by simp [Bundle.npeArmAtoms]))
  have bC := Cond.laysApart hdB hdC hdnB hdnC (by rw [hnB, Y.causeName]; decide)
  have bS := Cond.laysApart hdB hdS hdnB hdnS (by rw [hnB, Y.stackName]; decide)
  have bP := Cond.laysApart hdB hdP hdnB hdnP (by rw [hnB, Y.suppName]; decide)
  have bX := Cond.laysApart hdB hdX hdnB hdnX (by rw [hnB, hnX]; decide)
  have hbk : ((npeCell N.toNpeT (preparedCellV T.toThrowableT (freshCell P1.m.cls N.kN) W.heap.size u0 sen) W.cur).withEntry W.cur).slots[fB.slot]? = some .null := by
    have := fresh_default (c := P1.m.cls) tyB
    rw [htB] at this
    simpa [npeCell, preparedCellV, Cell.setSlot, Cell.withEntry, Array.getElem?_setIfInBounds, bC, bS, bP, bX, bC.symm, bS.symm, bP.symm, bX.symm, defaultValue] using this
  have tkC := Takes.of_laid (v := .ref W.heap.size) hk hordN tyC (by rw [Y.causeType]; rfl)
  have tkS := Takes.of_laid (v := u0.v) hk hordN tyS (by rw [Y.stackType]; exact fits_refV_array _ u0)
  have tkP := Takes.of_laid (v := sen.v) hk hordN tyP (by rw [Y.suppType]; exact fits_refV_object _ sen)
  have tkX := Takes.of_laid (v := .int 1) hk hordN tyX (by rw [htX]; rfl)
  have hskip : SkipFacts T e.platform s (fun u => u) u0 ((npeCell N.toNpeT (preparedCellV T.toThrowableT (freshCell P1.m.cls N.kN) W.heap.size u0 sen) W.cur).withEntry W.cur) := ⟨{ ci198 := ci198, i198 := i198, fBack := fB }, ⟨hk198, hg198, ha198, hsB⟩, hbk, fun _ _ => rfl⟩
  obtain ⟨vm', X3, st, -⟩ := X.throwsNpeColdBareVAt hexec hg hsize T L Z LZ N LN P1 L1 [PR, PE] hLs hlink1 ⟨hlinkR, hlinkE, trivial⟩ hfound hk hinit hordN hctor hsel0 hselF hcellS hknownS hvU hvSen
    hv0 xC xS xP tkC tkS tkP tkX Y.objLocals hskip (fun _ _ hA hW _ hroom _ hrest => L.nativeOff p htr hA hW hroom hrest) (by simpa using hRframes) hRlocals (by simp) hRcells (by rw [hn]; exact hRslots)
  have hlt : W.heap.size < ((W.pushCell (freshCell P1.m.cls N.kN)).setVm vm').heap.size := by
    show W.heap.size < (W.pushCell (freshCell P1.m.cls N.kN)).heap.size
    rw [State.heap_size_pushCell]; omega
  rw [hfsz] at X3
  obtain ⟨g₁, hfrM⟩ := X3.frames_eq
  have hU : ((((W.pushCell (freshCell P1.m.cls N.kN)).setVm vm').setCell W.heap.size (npeBareV T.toThrowableT N.toNpeT (freshCell P1.m.cls N.kN) W.heap.size u0 sen)).setTop g).pushFrame (.throwing W.heap.size) = (((W.pushCell (freshCell P1.m.cls N.kN)).setVm vm').setCell W.heap.size (npeBareV T.toThrowableT N.toNpeT (freshCell P1.m.cls N.kN) W.heap.size u0 sen)).setFrames (.throwing W.heap.size :: .java g :: below) := by
    rw [State.pushFrame, State.frames_setTop _ hfrM, State.setTop_of_frames _ hfrM, State.setFrames_setFrames]
  refine ⟨_, W.heap.size, _, fun target ht => st.trans (by rw [← hU]; exact ht), X3.forget (fun y hy => ?_), heapAt_setCell_self _ hlt, hfound, rfl⟩
  simp only [List.mem_cons, List.not_mem_nil, or_false] at hy
  have hge : s.heap.size ≤ W.heap.size := X.same.2.1
  rcases hy with rfl | rfl | rfl | rfl | rfl <;> exact hge
/-- the words of a machine's NullPointerException, but the four that speak of the heap -/
def vx_atN (n : Nat) : List Cond := (Bundle.npeArmAtoms n).filter vx_no
/-- the words of a machine's throw with a message, but the four that speak of the heap -/
def vx_atM (X : String) (names : List String) : List Cond := (Bundle.messageArmAtoms X names).filter vx_no
section
variable {p : Program} {l : Launch} {e : Env} {R : Room} {s : State} {m : MethodId} {args : Array Value} {below : List Frame} {meth : Method} {c : Code} {H : Heap} {locs : List Loc} {cells slots : Nat}
/-- a frame seen from a rebased start, seen from the first start again -/
theorem vx_back9 {T S : State} {R' : Room} {k n : Nat} (X : Stand p l e R s m args below meth c T locs cells slots) (Y : Stand p l e R' ((T.setVm s.vm).setFrames (.invoking m args :: below)) m args below meth c T [] 0 0) (Z : Stand p l e R' ((T.setVm s.vm).setFrames (.invoking m args :: below)) m args below meth c S [] k n) :
    Stand p l e R s m args below meth c S locs (cells + k) (slots + n) := by
  have hW0 : s.WarmedH ((T.setVm s.vm).setFrames (.invoking m args :: below)).vm := State.WarmedH.refl s
  refine { admits := X.admits, cas := X.cas, clock := X.clock, frames := X.frames, room := X.room, hears := X.hears, method := X.method, code := X.code, here := Z.here, tail := Z.tail, warmed := State.WarmedH.trans hW0 Z.warmed, limits := Z.limits.trans (Y.limits.symm.trans X.limits), bytes := Z.bytes.trans (Y.bytes.symm.trans X.bytes), same := ?_ }
  obtain ⟨e1, e2⟩ := Z.same
  rw [State.setFrames_setFrames] at e1
  have h2 : (T.setVm s.vm).sameButNew (S.setVm s.vm) [] k n := ⟨e1, e2⟩
  have h3 := X.same.trans h2
  rw [List.append_nil] at h3
  exact h3
/-- from the machine's note that E is thrown here with this text -/
def vx_Note (p : Program) (l : Launch) (e : Env) (R : Room) (s : State) (m : MethodId) (args : Array Value) (below : List Frame) (meth : Method) (c : Code) (H : Heap) (locs : List Loc) (cells slots : Nat) (Q : State → Prop) (g : JFrame) (E text : String) : Prop :=
  ∀ T : State, T.heap = H → Stand p l e R s m args below meth c T locs cells slots → ∃ t, Steps p.tables e below ((T.setTop g).pushFrame (.throwNew E (some text) none)) t ∧ Q t
theorem vx_vm {pc : Nat} {ls : Array Slot} {rest : List Value} {Q : State → Prop} (hexec : p.tables.exec = Jvm.exec) (hl : l.stackTraces = false) {cls text : String} {names : List String} {nb : Nat} {A : Nat → Prop}
    (hcls : Bundle.fit cls = true) (hnames : ∀ n ∈ names, Bundle.fit n = true) (hsoe : (cls == "java/lang/StackOverflowError") = false) (hoom : (cls == "java/lang/OutOfMemoryError") = false)
    (hat : ∀ w ∈ vx_atM cls names, w.before args s = true) (hgood : ∀ w ∈ vx_atM cls names, vx_ot w = true)
    (hU : vx_Zq Bundle.tN "UNASSIGNED_STACK" Bundle.steD A s s.heap) (hN : vx_Zq Bundle.tN "SUPPRESSED_SENTINEL" Bundle.listD A s s.heap) (hS : va_S A s.heap H locs) (hsize : ls.size = c.maxLocals)
    (htext : (text == notModelled) = false) (hnb : (stringBytes (stringToUtf16 text)).size ≤ nb) (hnb1 : nb ≤ 1000)
    (hRframes : names.length + 4 < R.frames) (hRlocals : (rest.map fun v => v.category).sum + 10240 ≤ R.locals) (hshort : 13 * names.length + 55 ≤ 10240) (hRcells : cells + 3 ≤ R.cells) (hRslots : slots + (nb + 10) ≤ R.slots) (hlocks : meth.locks = false)
    (k : ∀ (H1 : Heap) (q9 : Addr) (ce : Cell), H.size ≤ H1.size → (∀ q : Nat, q < H.size → H1[q]? = H[q]?) → va_S A s.heap H1 locs → H1[q9]? = some ce → ce.vm = .none → s.vm.findClass cls = some ce.cls → vx_W p l e R s m args below meth c H1 locs (cells + 3) (slots + (nb + 10)) Q (F0 m pc ls rest) q9) :
    vx_Note p l e R s m args below meth c H locs cells slots Q (F0 m pc ls rest) cls text := by
  intro T hT X
  have htr : e.platform.stackTraces = false := (show e.platform.stackTraces = l.stackTraces by rw [X.admits.platform]).trans hl
  have Y := vx_rebase X (R' := { frames := R.frames, locals := R.locals, cells := 3, slots := nb + 10 }) (Nat.le_refl _) (Nat.le_refl _) hRcells hRslots
  have hhp : ((T.setVm s.vm).setFrames (.invoking m args :: below)).heap = H := hT
  have hW0 : s.WarmedH ((T.setVm s.vm).setFrames (.invoking m args :: below)).vm := State.WarmedH.refl s
  have hat' : ∀ w ∈ vx_atM cls names, w.before args ((T.setVm s.vm).setFrames (.invoking m args :: below)) = true := fun w hw => vx_ot_at hW0 rfl (hgood w hw) (hat w hw)
  have hU' : vx_Zq Bundle.tN "UNASSIGNED_STACK" Bundle.steD A ((T.setVm s.vm).setFrames (.invoking m args :: below)) ((T.setVm s.vm).setFrames (.invoking m args :: below)).heap := by rw [hhp]; exact vx_Zq.moved hW0.alike (hU.kept hS.2.1)
  have hN' : vx_Zq Bundle.tN "SUPPRESSED_SENTINEL" Bundle.listD A ((T.setVm s.vm).setFrames (.invoking m args :: below)) ((T.setVm s.vm).setFrames (.invoking m args :: below)).heap := by rw [hhp]; exact vx_Zq.moved hW0.alike (hN.kept hS.2.1)
  obtain ⟨S, q, ce, st, Z, hce, hcl', hv⟩ := vx_vmAt Y hexec htr (cls := cls) (names := names) (text := text) hcls hnames hsoe hoom (vx_own hat' (vx_isRefq hU'.1) (vx_isRefq hN'.1) hU'.2.word hN'.2.word) (fun x hx => nomatch hx) htext
    (by rw [Launch.admits_arrayLengthLimit X.admits]; omega) (by rw [Launch.admits_maxHeapBytes X.admits]; simp only [componentBytes]; omega)
    (g := F0 m pc ls rest) rfl hsize hRframes (by show 2 * 0 + (rest.map fun v => v.category).sum + 10240 ≤ R.locals; omega) hshort (by show 0 + 3 ≤ 3; omega) (by show 0 + (_ + 4 + 6) ≤ nb + 10; omega) hlocks
  obtain ⟨f1, f2⟩ := vx_frame Z.same
  have f1' : H.size ≤ S.heap.size := by rw [← hT]; exact f1
  have f2' : ∀ q : Nat, q < H.size → S.heap[q]? = H[q]? := fun q hq => by
    rw [← hT]
    exact f2 q (by rw [← hT] at hq; exact hq) (fun z hz => nomatch hz)
  have X5 := vx_back9 X Y Z
  have X6 : Stand p l e R s m args below meth c S locs (cells + 3) (slots + (nb + 10)) := { X5 with same := X5.same.mono (by omega) (by omega) }
  obtain ⟨t, a1, b1⟩ := k S.heap q ce f1' f2' ⟨Nat.le_trans hS.1 f1', fun q h1 h2 => (f2' q (Nat.lt_of_lt_of_le h1 hS.1)).trans (hS.2.1 q h1 h2), hS.2.2⟩ hce hv hcl' S rfl X6
  exact ⟨t, st t a1, b1⟩
/-- from the machine's note that NullPointerException is thrown here -/
def vx_NoteN (p : Program) (l : Launch) (e : Env) (R : Room) (s : State) (m : MethodId) (args : Array Value) (below : List Frame) (meth : Method) (c : Code) (H : Heap) (locs : List Loc) (cells slots : Nat) (Q : State → Prop) (g : JFrame) : Prop :=
  ∀ T : State, T.heap = H → Stand p l e R s m args below meth c T locs cells slots → ∃ t, Steps p.tables e below ((T.setTop g).pushFrame (.throwNew "java/lang/NullPointerException" none none)) t ∧ Q t
theorem vx_npe {pc : Nat} {ls : Array Slot} {rest : List Value} {Q : State → Prop} (hexec : p.tables.exec = Jvm.exec) (hl : l.stackTraces = false) {nb : Nat} {A : Nat → Prop}
    (hat : ∀ w ∈ vx_atN nb, w.before args s = true) (hgood : ∀ w ∈ vx_atN nb, vx_ot w = true)
    (hU : vx_Zq Bundle.tN "UNASSIGNED_STACK" Bundle.steD A s s.heap) (hN : vx_Zq Bundle.tN "SUPPRESSED_SENTINEL" Bundle.listD A s s.heap) (hS : va_S A s.heap H locs) (hsize : ls.size = c.maxLocals)
    (hRframes : 7 < R.frames) (hRlocals : (rest.map fun v => v.category).sum + 10240 ≤ R.locals) (hRcells : cells + 1 ≤ R.cells) (hRslots : slots + nb ≤ R.slots) (hlocks : meth.locks = false)
    (k : ∀ (H1 : Heap) (q9 : Addr) (ce : Cell), H.size ≤ H1.size → (∀ q : Nat, q < H.size → H1[q]? = H[q]?) → va_S A s.heap H1 locs → H1[q9]? = some ce → ce.vm = .none → s.vm.findClass "java/lang/NullPointerException" = some ce.cls → vx_W p l e R s m args below meth c H1 locs (cells + 1) (slots + nb) Q (F0 m pc ls rest) q9) :
    vx_NoteN p l e R s m args below meth c H locs cells slots Q (F0 m pc ls rest) := by
  intro T hT X
  have htr : e.platform.stackTraces = false := (show e.platform.stackTraces = l.stackTraces by rw [X.admits.platform]).trans hl
  have Y := vx_rebase X (R' := { frames := R.frames, locals := R.locals, cells := 1, slots := nb }) (Nat.le_refl _) (Nat.le_refl _) hRcells hRslots
  have hhp : ((T.setVm s.vm).setFrames (.invoking m args :: below)).heap = H := hT
  have hW0 : s.WarmedH ((T.setVm s.vm).setFrames (.invoking m args :: below)).vm := State.WarmedH.refl s
  have hat' : ∀ w ∈ vx_atN nb, w.before args ((T.setVm s.vm).setFrames (.invoking m args :: below)) = true := fun w hw => vx_ot_at hW0 rfl (hgood w hw) (hat w hw)
  have hU' : vx_Zq Bundle.tN "UNASSIGNED_STACK" Bundle.steD A ((T.setVm s.vm).setFrames (.invoking m args :: below)) ((T.setVm s.vm).setFrames (.invoking m args :: below)).heap := by rw [hhp]; exact vx_Zq.moved hW0.alike (hU.kept hS.2.1)
  have hN' : vx_Zq Bundle.tN "SUPPRESSED_SENTINEL" Bundle.listD A ((T.setVm s.vm).setFrames (.invoking m args :: below)) ((T.setVm s.vm).setFrames (.invoking m args :: below)).heap := by rw [hhp]; exact vx_Zq.moved hW0.alike (hN.kept hS.2.1)
  obtain ⟨S, q, ce, st, Z, hce, hcl', hv⟩ := vx_npeAt Y hexec htr (n := nb) (vx_own hat' (vx_isRefq hU'.1) (vx_isRefq hN'.1) hU'.2.word hN'.2.word) (fun x hx => nomatch hx)
    (g := F0 m pc ls rest) rfl hsize hRframes (by show 2 * 0 + (rest.map fun v => v.category).sum + 10240 ≤ R.locals; omega) (by show 0 + 1 ≤ 1; omega) (by show 0 + nb ≤ nb; omega) hlocks
  obtain ⟨f1, f2⟩ := vx_frame Z.same
  have f1' : H.size ≤ S.heap.size := by rw [← hT]; exact f1
  have f2' : ∀ q : Nat, q < H.size → S.heap[q]? = H[q]? := fun q hq => by
    rw [← hT]
    exact f2 q (by rw [← hT] at hq; exact hq) (fun z hz => nomatch hz)
  have X5 := vx_back9 X Y Z
  have X6 : Stand p l e R s m args below meth c S locs (cells + 1) (slots + nb) := { X5 with same := X5.same.mono (by omega) (by omega) }
  obtain ⟨t, a1, b1⟩ := k S.heap q ce f1' f2' ⟨Nat.le_trans hS.1 f1', fun q h1 h2 => (f2' q (Nat.lt_of_lt_of_le h1 hS.1)).trans (hS.2.1 q h1 h2), hS.2.2⟩ hce hv hcl' S rfl X6
  exact ⟨t, st t a1, b1⟩
variable {Q : State → Prop} {cc : ByteArray} {pc : Nat} {ls : Array Slot} {rest : List Value}
theorem vx_idivZ (hexec : p.tables.exec = Jvm.exec) (hb : c.code = cc) {a b : Int32} (h0 : b = 0) (d : decode cc pc = .ok (.idiv, 1)) (k : vx_Note p l e R s m args below meth c H locs cells slots Q (F0 m pc ls rest) "java/lang/ArithmeticException" "/ by zero") :
    W p l e R s m args below meth c H locs cells slots Q (F0 m pc ls (.int b :: .int a :: rest)) := by
  intro T hT X
  obtain ⟨t, st, q⟩ := k T hT X
  exact ⟨t, X.idivZero hexec (g := F0 m pc ls (.int b :: .int a :: rest)) rfl (a := a) (rest := rest) (by rw [h0]) (by rw [hb]; exact d) t st, q⟩
theorem vx_iremZ (hexec : p.tables.exec = Jvm.exec) (hb : c.code = cc) {a b : Int32} (h0 : b = 0) (d : decode cc pc = .ok (.irem, 1)) (k : vx_Note p l e R s m args below meth c H locs cells slots Q (F0 m pc ls rest) "java/lang/ArithmeticException" "/ by zero") :
    W p l e R s m args below meth c H locs cells slots Q (F0 m pc ls (.int b :: .int a :: rest)) := by
  intro T hT X
  obtain ⟨t, st, q⟩ := k T hT X
  exact ⟨t, X.iremZero hexec (g := F0 m pc ls (.int b :: .int a :: rest)) rfl (a := a) (rest := rest) (by rw [h0]) (by rw [hb]; exact d) t st, q⟩
theorem vx_ldivZ (hexec : p.tables.exec = Jvm.exec) (hb : c.code = cc) {a b : Int64} (h0 : b = 0) (d : decode cc pc = .ok (.ldiv, 1)) (k : vx_Note p l e R s m args below meth c H locs cells slots Q (F0 m pc ls rest) "java/lang/ArithmeticException" "/ by zero") :
    W p l e R s m args below meth c H locs cells slots Q (F0 m pc ls (.long b :: .long a :: rest)) := by
  intro T hT X
  obtain ⟨t, st, q⟩ := k T hT X
  exact ⟨t, X.ldivZero hexec (g := F0 m pc ls (.long b :: .long a :: rest)) rfl (a := a) (rest := rest) (by rw [h0]) (by rw [hb]; exact d) t st, q⟩
theorem vx_lremZ (hexec : p.tables.exec = Jvm.exec) (hb : c.code = cc) {a b : Int64} (h0 : b = 0) (d : decode cc pc = .ok (.lrem, 1)) (k : vx_Note p l e R s m args below meth c H locs cells slots Q (F0 m pc ls rest) "java/lang/ArithmeticException" "/ by zero") :
    W p l e R s m args below meth c H locs cells slots Q (F0 m pc ls (.long b :: .long a :: rest)) := by
  intro T hT X
  obtain ⟨t, st, q⟩ := k T hT X
  exact ⟨t, X.lremZero hexec (g := F0 m pc ls (.long b :: .long a :: rest)) rfl (a := a) (rest := rest) (by rw [h0]) (by rw [hb]; exact d) t st, q⟩
theorem vx_ialdZ {D : va_G} {cl : List vw_C} {ws : va_W} {tys : List (ClassId × FieldType)} {a : Nat} (hexec : p.tables.exec = Jvm.exec) (hb : c.code = cc) (hK : va_K D cl tys s) (hP : va_P D cl ws H) (q0 t0 : Nat) {cA : ClassId} {n : Nat} {f : Nat → Int32} (ha : ws[q0]? = some (a, .inl (cA, n, .inl f))) (ht : tys[t0]? = some (cA, .int)) {i : Int32} (hout : ¬ vp_in i n) (hdg : decode cc pc = .ok (.iaload, 1))
    (k : ∀ tx : String, tx = (toString "Index " ++ toString i ++ toString " out of bounds for length " ++ toString n : String) → vx_Note p l e R s m args below meth c H locs cells slots Q (F0 m pc ls rest) "java/lang/ArrayIndexOutOfBoundsException" tx) : W p l e R s m args below meth c H locs cells slots Q (F0 m pc ls (.int i :: .ref a :: rest)) := by
  intro T hT X
  obtain ⟨t, st, q⟩ := k _ rfl T hT X
  refine ⟨t, ?_, q⟩
  have h1 := X.ialoadOut hexec (by rw [hT]; exact hP q0 _ ha) ((hK.2 t0 _ ht).1 n (fun j => .int (f j))) (j := i) (by show (i < 0 ∨ (arrV _ _ _).slots.size ≤ _); rw [arrV_size]; exact Classical.byContradiction hout) (g := F0 m pc ls (.int i :: .ref a :: rest)) rfl (rest := rest) rfl (by rw [hb]; exact hdg) t
  simp only [arrV_size] at h1
  exact h1 st
theorem vx_iastZ {D : va_G} {cl : List vw_C} {ws : va_W} {tys : List (ClassId × FieldType)} {a : Nat} (hexec : p.tables.exec = Jvm.exec) (hb : c.code = cc) (hK : va_K D cl tys s) (hP : va_P D cl ws H) (q0 t0 : Nat) {cA : ClassId} {n : Nat} {f : Nat → Int32} (ha : ws[q0]? = some (a, .inl (cA, n, .inl f))) (ht : tys[t0]? = some (cA, .int)) {i : Int32} {x : Int32} (hout : ¬ vp_in i n) (hdg : decode cc pc = .ok (.iastore, 1))
    (k : ∀ tx : String, tx = (toString "Index " ++ toString i ++ toString " out of bounds for length " ++ toString n : String) → vx_Note p l e R s m args below meth c H locs cells slots Q (F0 m pc ls rest) "java/lang/ArrayIndexOutOfBoundsException" tx) : W p l e R s m args below meth c H locs cells slots Q (F0 m pc ls (.int x :: .int i :: .ref a :: rest)) := by
  intro T hT X
  obtain ⟨t, st, q⟩ := k _ rfl T hT X
  refine ⟨t, ?_, q⟩
  have h1 := X.iastoreOut hexec (by rw [hT]; exact hP q0 _ ha) ((hK.2 t0 _ ht).1 n (fun j => .int (f j))) (j := i) (by show (i < 0 ∨ (arrV _ _ _).slots.size ≤ _); rw [arrV_size]; exact Classical.byContradiction hout) (g := F0 m pc ls (.int x :: .int i :: .ref a :: rest)) rfl (rest := rest) rfl (by rw [hb]; exact hdg) t
  simp only [arrV_size] at h1
  exact h1 st
theorem vx_baldZ {D : va_G} {cl : List vw_C} {ws : va_W} {tys : List (ClassId × FieldType)} {a : Nat} (hexec : p.tables.exec = Jvm.exec) (hb : c.code = cc) (hK : va_K D cl tys s) (hP : va_P D cl ws H) (q0 t0 : Nat) {cA : ClassId} {n : Nat} {f : Nat → Int32} (ha : ws[q0]? = some (a, .inl (cA, n, .inl f))) (ht : tys[t0]? = some (cA, .byte)) {i : Int32} (hout : ¬ vp_in i n) (hdg : decode cc pc = .ok (.baload, 1))
    (k : ∀ tx : String, tx = (toString "Index " ++ toString i ++ toString " out of bounds for length " ++ toString n : String) → vx_Note p l e R s m args below meth c H locs cells slots Q (F0 m pc ls rest) "java/lang/ArrayIndexOutOfBoundsException" tx) : W p l e R s m args below meth c H locs cells slots Q (F0 m pc ls (.int i :: .ref a :: rest)) := by
  intro T hT X
  obtain ⟨t, st, q⟩ := k _ rfl T hT X
  refine ⟨t, ?_, q⟩
  have h1 := X.baloadOut hexec (by rw [hT]; exact hP q0 _ ha) ((hK.2 t0 _ ht).1 n (fun j => .int (f j))) (j := i) (by show (i < 0 ∨ (arrV _ _ _).slots.size ≤ _); rw [arrV_size]; exact Classical.byContradiction hout) (g := F0 m pc ls (.int i :: .ref a :: rest)) rfl (rest := rest) rfl (by rw [hb]; exact hdg) t
  simp only [arrV_size] at h1
  exact h1 st
theorem vx_bastZ {D : va_G} {cl : List vw_C} {ws : va_W} {tys : List (ClassId × FieldType)} {a : Nat} (hexec : p.tables.exec = Jvm.exec) (hb : c.code = cc) (hK : va_K D cl tys s) (hP : va_P D cl ws H) (q0 t0 : Nat) {cA : ClassId} {n : Nat} {f : Nat → Int32} (ha : ws[q0]? = some (a, .inl (cA, n, .inl f))) (ht : tys[t0]? = some (cA, .byte)) {i : Int32} {x : Int32} (hout : ¬ vp_in i n) (hdg : decode cc pc = .ok (.bastore, 1))
    (k : ∀ tx : String, tx = (toString "Index " ++ toString i ++ toString " out of bounds for length " ++ toString n : String) → vx_Note p l e R s m args below meth c H locs cells slots Q (F0 m pc ls rest) "java/lang/ArrayIndexOutOfBoundsException" tx) : W p l e R s m args below meth c H locs cells slots Q (F0 m pc ls (.int x :: .int i :: .ref a :: rest)) := by
  intro T hT X
  obtain ⟨t, st, q⟩ := k _ rfl T hT X
  refine ⟨t, ?_, q⟩
  have h1 := X.bastoreOut hexec (by rw [hT]; exact hP q0 _ ha) ((hK.2 t0 _ ht).1 n (fun j => .int (f j))) (j := i) (by show (i < 0 ∨ (arrV _ _ _).slots.size ≤ _); rw [arrV_size]; exact Classical.byContradiction hout) (g := F0 m pc ls (.int x :: .int i :: .ref a :: rest)) rfl (rest := rest) rfl (by rw [hb]; exact hdg) t
  simp only [arrV_size] at h1
  exact h1 st
theorem vx_zaldZ {D : va_G} {cl : List vw_C} {ws : va_W} {tys : List (ClassId × FieldType)} {a : Nat} (hexec : p.tables.exec = Jvm.exec) (hb : c.code = cc) (hK : va_K D cl tys s) (hP : va_P D cl ws H) (q0 t0 : Nat) {cA : ClassId} {n : Nat} {f : Nat → Int32} (ha : ws[q0]? = some (a, .inl (cA, n, .inl f))) (ht : tys[t0]? = some (cA, .boolean)) {i : Int32} (hout : ¬ vp_in i n) (hdg : decode cc pc = .ok (.baload, 1))
    (k : ∀ tx : String, tx = (toString "Index " ++ toString i ++ toString " out of bounds for length " ++ toString n : String) → vx_Note p l e R s m args below meth c H locs cells slots Q (F0 m pc ls rest) "java/lang/ArrayIndexOutOfBoundsException" tx) : W p l e R s m args below meth c H locs cells slots Q (F0 m pc ls (.int i :: .ref a :: rest)) := by
  intro T hT X
  obtain ⟨t, st, q⟩ := k _ rfl T hT X
  refine ⟨t, ?_, q⟩
  have h1 := X.baloadOut hexec (by rw [hT]; exact hP q0 _ ha) ((hK.2 t0 _ ht).1 n (fun j => .int (f j))) (j := i) (by show (i < 0 ∨ (arrV _ _ _).slots.size ≤ _); rw [arrV_size]; exact Classical.byContradiction hout) (g := F0 m pc ls (.int i :: .ref a :: rest)) rfl (rest := rest) rfl (by rw [hb]; exact hdg) t
  simp only [arrV_size] at h1
  exact h1 st
theorem vx_zastZ {D : va_G} {cl : List vw_C} {ws : va_W} {tys : List (ClassId × FieldType)} {a : Nat} (hexec : p.tables.exec = Jvm.exec) (hb : c.code = cc) (hK : va_K D cl tys s) (hP : va_P D cl ws H) (q0 t0 : Nat) {cA : ClassId} {n : Nat} {f : Nat → Int32} (ha : ws[q0]? = some (a, .inl (cA, n, .inl f))) (ht : tys[t0]? = some (cA, .boolean)) {i : Int32} {x : Int32} (hout : ¬ vp_in i n) (hdg : decode cc pc = .ok (.bastore, 1))
    (k : ∀ tx : String, tx = (toString "Index " ++ toString i ++ toString " out of bounds for length " ++ toString n : String) → vx_Note p l e R s m args below meth c H locs cells slots Q (F0 m pc ls rest) "java/lang/ArrayIndexOutOfBoundsException" tx) : W p l e R s m args below meth c H locs cells slots Q (F0 m pc ls (.int x :: .int i :: .ref a :: rest)) := by
  intro T hT X
  obtain ⟨t, st, q⟩ := k _ rfl T hT X
  refine ⟨t, ?_, q⟩
  have h1 := X.bastoreOut hexec (by rw [hT]; exact hP q0 _ ha) ((hK.2 t0 _ ht).1 n (fun j => .int (f j))) (j := i) (by show (i < 0 ∨ (arrV _ _ _).slots.size ≤ _); rw [arrV_size]; exact Classical.byContradiction hout) (g := F0 m pc ls (.int x :: .int i :: .ref a :: rest)) rfl (rest := rest) rfl (by rw [hb]; exact hdg) t
  simp only [arrV_size] at h1
  exact h1 st
theorem vx_caldZ {D : va_G} {cl : List vw_C} {ws : va_W} {tys : List (ClassId × FieldType)} {a : Nat} (hexec : p.tables.exec = Jvm.exec) (hb : c.code = cc) (hK : va_K D cl tys s) (hP : va_P D cl ws H) (q0 t0 : Nat) {cA : ClassId} {n : Nat} {f : Nat → Int32} (ha : ws[q0]? = some (a, .inl (cA, n, .inl f))) (ht : tys[t0]? = some (cA, .char)) {i : Int32} (hout : ¬ vp_in i n) (hdg : decode cc pc = .ok (.caload, 1))
    (k : ∀ tx : String, tx = (toString "Index " ++ toString i ++ toString " out of bounds for length " ++ toString n : String) → vx_Note p l e R s m args below meth c H locs cells slots Q (F0 m pc ls rest) "java/lang/ArrayIndexOutOfBoundsException" tx) : W p l e R s m args below meth c H locs cells slots Q (F0 m pc ls (.int i :: .ref a :: rest)) := by
  intro T hT X
  obtain ⟨t, st, q⟩ := k _ rfl T hT X
  refine ⟨t, ?_, q⟩
  have h1 := X.caloadOut hexec (by rw [hT]; exact hP q0 _ ha) ((hK.2 t0 _ ht).1 n (fun j => .int (f j))) (j := i) (by show (i < 0 ∨ (arrV _ _ _).slots.size ≤ _); rw [arrV_size]; exact Classical.byContradiction hout) (g := F0 m pc ls (.int i :: .ref a :: rest)) rfl (rest := rest) rfl (by rw [hb]; exact hdg) t
  simp only [arrV_size] at h1
  exact h1 st
theorem vx_castZ {D : va_G} {cl : List vw_C} {ws : va_W} {tys : List (ClassId × FieldType)} {a : Nat} (hexec : p.tables.exec = Jvm.exec) (hb : c.code = cc) (hK : va_K D cl tys s) (hP : va_P D cl ws H) (q0 t0 : Nat) {cA : ClassId} {n : Nat} {f : Nat → Int32} (ha : ws[q0]? = some (a, .inl (cA, n, .inl f))) (ht : tys[t0]? = some (cA, .char)) {i : Int32} {x : Int32} (hout : ¬ vp_in i n) (hdg : decode cc pc = .ok (.castore, 1))
    (k : ∀ tx : String, tx = (toString "Index " ++ toString i ++ toString " out of bounds for length " ++ toString n : String) → vx_Note p l e R s m args below meth c H locs cells slots Q (F0 m pc ls rest) "java/lang/ArrayIndexOutOfBoundsException" tx) : W p l e R s m args below meth c H locs cells slots Q (F0 m pc ls (.int x :: .int i :: .ref a :: rest)) := by
  intro T hT X
  obtain ⟨t, st, q⟩ := k _ rfl T hT X
  refine ⟨t, ?_, q⟩
  have h1 := X.castoreOut hexec (by rw [hT]; exact hP q0 _ ha) ((hK.2 t0 _ ht).1 n (fun j => .int (f j))) (j := i) (by show (i < 0 ∨ (arrV _ _ _).slots.size ≤ _); rw [arrV_size]; exact Classical.byContradiction hout) (g := F0 m pc ls (.int x :: .int i :: .ref a :: rest)) rfl (rest := rest) rfl (by rw [hb]; exact hdg) t
  simp only [arrV_size] at h1
  exact h1 st
theorem vx_saldZ {D : va_G} {cl : List vw_C} {ws : va_W} {tys : List (ClassId × FieldType)} {a : Nat} (hexec : p.tables.exec = Jvm.exec) (hb : c.code = cc) (hK : va_K D cl tys s) (hP : va_P D cl ws H) (q0 t0 : Nat) {cA : ClassId} {n : Nat} {f : Nat → Int32} (ha : ws[q0]? = some (a, .inl (cA, n, .inl f))) (ht : tys[t0]? = some (cA, .short)) {i : Int32} (hout : ¬ vp_in i n) (hdg : decode cc pc = .ok (.saload, 1))
    (k : ∀ tx : String, tx = (toString "Index " ++ toString i ++ toString " out of bounds for length " ++ toString n : String) → vx_Note p l e R s m args below meth c H locs cells slots Q (F0 m pc ls rest) "java/lang/ArrayIndexOutOfBoundsException" tx) : W p l e R s m args below meth c H locs cells slots Q (F0 m pc ls (.int i :: .ref a :: rest)) := by
  intro T hT X
  obtain ⟨t, st, q⟩ := k _ rfl T hT X
  refine ⟨t, ?_, q⟩
  have h1 := X.saloadOut hexec (by rw [hT]; exact hP q0 _ ha) ((hK.2 t0 _ ht).1 n (fun j => .int (f j))) (j := i) (by show (i < 0 ∨ (arrV _ _ _).slots.size ≤ _); rw [arrV_size]; exact Classical.byContradiction hout) (g := F0 m pc ls (.int i :: .ref a :: rest)) rfl (rest := rest) rfl (by rw [hb]; exact hdg) t
  simp only [arrV_size] at h1
  exact h1 st
theorem vx_sastZ {D : va_G} {cl : List vw_C} {ws : va_W} {tys : List (ClassId × FieldType)} {a : Nat} (hexec : p.tables.exec = Jvm.exec) (hb : c.code = cc) (hK : va_K D cl tys s) (hP : va_P D cl ws H) (q0 t0 : Nat) {cA : ClassId} {n : Nat} {f : Nat → Int32} (ha : ws[q0]? = some (a, .inl (cA, n, .inl f))) (ht : tys[t0]? = some (cA, .short)) {i : Int32} {x : Int32} (hout : ¬ vp_in i n) (hdg : decode cc pc = .ok (.sastore, 1))
    (k : ∀ tx : String, tx = (toString "Index " ++ toString i ++ toString " out of bounds for length " ++ toString n : String) → vx_Note p l e R s m args below meth c H locs cells slots Q (F0 m pc ls rest) "java/lang/ArrayIndexOutOfBoundsException" tx) : W p l e R s m args below meth c H locs cells slots Q (F0 m pc ls (.int x :: .int i :: .ref a :: rest)) := by
  intro T hT X
  obtain ⟨t, st, q⟩ := k _ rfl T hT X
  refine ⟨t, ?_, q⟩
  have h1 := X.sastoreOut hexec (by rw [hT]; exact hP q0 _ ha) ((hK.2 t0 _ ht).1 n (fun j => .int (f j))) (j := i) (by show (i < 0 ∨ (arrV _ _ _).slots.size ≤ _); rw [arrV_size]; exact Classical.byContradiction hout) (g := F0 m pc ls (.int x :: .int i :: .ref a :: rest)) rfl (rest := rest) rfl (by rw [hb]; exact hdg) t
  simp only [arrV_size] at h1
  exact h1 st
theorem vx_laldZ {D : va_G} {cl : List vw_C} {ws : va_W} {tys : List (ClassId × FieldType)} {a : Nat} (hexec : p.tables.exec = Jvm.exec) (hb : c.code = cc) (hK : va_K D cl tys s) (hP : va_P D cl ws H) (q0 t0 : Nat) {cA : ClassId} {n : Nat} {f : Nat → Int64} (ha : ws[q0]? = some (a, .inl (cA, n, .inr (.inl f)))) (ht : tys[t0]? = some (cA, .long)) {i : Int32} (hout : ¬ vp_in i n) (hdg : decode cc pc = .ok (.laload, 1))
    (k : ∀ tx : String, tx = (toString "Index " ++ toString i ++ toString " out of bounds for length " ++ toString n : String) → vx_Note p l e R s m args below meth c H locs cells slots Q (F0 m pc ls rest) "java/lang/ArrayIndexOutOfBoundsException" tx) : W p l e R s m args below meth c H locs cells slots Q (F0 m pc ls (.int i :: .ref a :: rest)) := by
  intro T hT X
  obtain ⟨t, st, q⟩ := k _ rfl T hT X
  refine ⟨t, ?_, q⟩
  have h1 := X.laloadOut hexec (by rw [hT]; exact hP q0 _ ha) ((hK.2 t0 _ ht).1 n (fun j => .long (f j))) (j := i) (by show (i < 0 ∨ (arrV _ _ _).slots.size ≤ _); rw [arrV_size]; exact Classical.byContradiction hout) (g := F0 m pc ls (.int i :: .ref a :: rest)) rfl (rest := rest) rfl (by rw [hb]; exact hdg) t
  simp only [arrV_size] at h1
  exact h1 st
theorem vx_lastZ {D : va_G} {cl : List vw_C} {ws : va_W} {tys : List (ClassId × FieldType)} {a : Nat} (hexec : p.tables.exec = Jvm.exec) (hb : c.code = cc) (hK : va_K D cl tys s) (hP : va_P D cl ws H) (q0 t0 : Nat) {cA : ClassId} {n : Nat} {f : Nat → Int64} (ha : ws[q0]? = some (a, .inl (cA, n, .inr (.inl f)))) (ht : tys[t0]? = some (cA, .long)) {i : Int32} {x : Int64} (hout : ¬ vp_in i n) (hdg : decode cc pc = .ok (.lastore, 1))
    (k : ∀ tx : String, tx = (toString "Index " ++ toString i ++ toString " out of bounds for length " ++ toString n : String) → vx_Note p l e R s m args below meth c H locs cells slots Q (F0 m pc ls rest) "java/lang/ArrayIndexOutOfBoundsException" tx) : W p l e R s m args below meth c H locs cells slots Q (F0 m pc ls (.long x :: .int i :: .ref a :: rest)) := by
  intro T hT X
  obtain ⟨t, st, q⟩ := k _ rfl T hT X
  refine ⟨t, ?_, q⟩
  have h1 := X.lastoreOut hexec (by rw [hT]; exact hP q0 _ ha) ((hK.2 t0 _ ht).1 n (fun j => .long (f j))) (j := i) (by show (i < 0 ∨ (arrV _ _ _).slots.size ≤ _); rw [arrV_size]; exact Classical.byContradiction hout) (g := F0 m pc ls (.long x :: .int i :: .ref a :: rest)) rfl (rest := rest) rfl (by rw [hb]; exact hdg) t
  simp only [arrV_size] at h1
  exact h1 st
theorem vx_faldZ {D : va_G} {cl : List vw_C} {ws : va_W} {tys : List (ClassId × FieldType)} {a : Nat} (hexec : p.tables.exec = Jvm.exec) (hb : c.code = cc) (hK : va_K D cl tys s) (hP : va_P D cl ws H) (q0 t0 : Nat) {cA : ClassId} {n : Nat} {f : Nat → UInt32} (ha : ws[q0]? = some (a, .inl (cA, n, .inr (.inr (.inl f))))) (ht : tys[t0]? = some (cA, .float)) {i : Int32} (hout : ¬ vp_in i n) (hdg : decode cc pc = .ok (.faload, 1))
    (k : ∀ tx : String, tx = (toString "Index " ++ toString i ++ toString " out of bounds for length " ++ toString n : String) → vx_Note p l e R s m args below meth c H locs cells slots Q (F0 m pc ls rest) "java/lang/ArrayIndexOutOfBoundsException" tx) : W p l e R s m args below meth c H locs cells slots Q (F0 m pc ls (.int i :: .ref a :: rest)) := by
  intro T hT X
  obtain ⟨t, st, q⟩ := k _ rfl T hT X
  refine ⟨t, ?_, q⟩
  have h1 := X.faloadOut hexec (by rw [hT]; exact hP q0 _ ha) ((hK.2 t0 _ ht).1 n (fun j => .float (f j))) (j := i) (by show (i < 0 ∨ (arrV _ _ _).slots.size ≤ _); rw [arrV_size]; exact Classical.byContradiction hout) (g := F0 m pc ls (.int i :: .ref a :: rest)) rfl (rest := rest) rfl (by rw [hb]; exact hdg) t
  simp only [arrV_size] at h1
  exact h1 st
theorem vx_fastZ {D : va_G} {cl : List vw_C} {ws : va_W} {tys : List (ClassId × FieldType)} {a : Nat} (hexec : p.tables.exec = Jvm.exec) (hb : c.code = cc) (hK : va_K D cl tys s) (hP : va_P D cl ws H) (q0 t0 : Nat) {cA : ClassId} {n : Nat} {f : Nat → UInt32} (ha : ws[q0]? = some (a, .inl (cA, n, .inr (.inr (.inl f))))) (ht : tys[t0]? = some (cA, .float)) {i : Int32} {x : UInt32} (hout : ¬ vp_in i n) (hdg : decode cc pc = .ok (.fastore, 1))
    (k : ∀ tx : String, tx = (toString "Index " ++ toString i ++ toString " out of bounds for length " ++ toString n : String) → vx_Note p l e R s m args below meth c H locs cells slots Q (F0 m pc ls rest) "java/lang/ArrayIndexOutOfBoundsException" tx) : W p l e R s m args below meth c H locs cells slots Q (F0 m pc ls (.float x :: .int i :: .ref a :: rest)) := by
  intro T hT X
  obtain ⟨t, st, q⟩ := k _ rfl T hT X
  refine ⟨t, ?_, q⟩
  have h1 := X.fastoreOut hexec (by rw [hT]; exact hP q0 _ ha) ((hK.2 t0 _ ht).1 n (fun j => .float (f j))) (j := i) (by show (i < 0 ∨ (arrV _ _ _).slots.size ≤ _); rw [arrV_size]; exact Classical.byContradiction hout) (g := F0 m pc ls (.float x :: .int i :: .ref a :: rest)) rfl (rest := rest) rfl (by rw [hb]; exact hdg) t
  simp only [arrV_size] at h1
  exact h1 st
theorem vx_daldZ {D : va_G} {cl : List vw_C} {ws : va_W} {tys : List (ClassId × FieldType)} {a : Nat} (hexec : p.tables.exec = Jvm.exec) (hb : c.code = cc) (hK : va_K D cl tys s) (hP : va_P D cl ws H) (q0 t0 : Nat) {cA : ClassId} {n : Nat} {f : Nat → UInt64} (ha : ws[q0]? = some (a, .inl (cA, n, .inr (.inr (.inr (.inl f)))))) (ht : tys[t0]? = some (cA, .double)) {i : Int32} (hout : ¬ vp_in i n) (hdg : decode cc pc = .ok (.daload, 1))
    (k : ∀ tx : String, tx = (toString "Index " ++ toString i ++ toString " out of bounds for length " ++ toString n : String) → vx_Note p l e R s m args below meth c H locs cells slots Q (F0 m pc ls rest) "java/lang/ArrayIndexOutOfBoundsException" tx) : W p l e R s m args below meth c H locs cells slots Q (F0 m pc ls (.int i :: .ref a :: rest)) := by
  intro T hT X
  obtain ⟨t, st, q⟩ := k _ rfl T hT X
  refine ⟨t, ?_, q⟩
  have h1 := X.daloadOut hexec (by rw [hT]; exact hP q0 _ ha) ((hK.2 t0 _ ht).1 n (fun j => .double (f j))) (j := i) (by show (i < 0 ∨ (arrV _ _ _).slots.size ≤ _); rw [arrV_size]; exact Classical.byContradiction hout) (g := F0 m pc ls (.int i :: .ref a :: rest)) rfl (rest := rest) rfl (by rw [hb]; exact hdg) t
  simp only [arrV_size] at h1
  exact h1 st
theorem vx_dastZ {D : va_G} {cl : List vw_C} {ws : va_W} {tys : List (ClassId × FieldType)} {a : Nat} (hexec : p.tables.exec = Jvm.exec) (hb : c.code = cc) (hK : va_K D cl tys s) (hP : va_P D cl ws H) (q0 t0 : Nat) {cA : ClassId} {n : Nat} {f : Nat → UInt64} (ha : ws[q0]? = some (a, .inl (cA, n, .inr (.inr (.inr (.inl f)))))) (ht : tys[t0]? = some (cA, .double)) {i : Int32} {x : UInt64} (hout : ¬ vp_in i n) (hdg : decode cc pc = .ok (.dastore, 1))
    (k : ∀ tx : String, tx = (toString "Index " ++ toString i ++ toString " out of bounds for length " ++ toString n : String) → vx_Note p l e R s m args below meth c H locs cells slots Q (F0 m pc ls rest) "java/lang/ArrayIndexOutOfBoundsException" tx) : W p l e R s m args below meth c H locs cells slots Q (F0 m pc ls (.double x :: .int i :: .ref a :: rest)) := by
  intro T hT X
  obtain ⟨t, st, q⟩ := k _ rfl T hT X
  refine ⟨t, ?_, q⟩
  have h1 := X.dastoreOut hexec (by rw [hT]; exact hP q0 _ ha) ((hK.2 t0 _ ht).1 n (fun j => .double (f j))) (j := i) (by show (i < 0 ∨ (arrV _ _ _).slots.size ≤ _); rw [arrV_size]; exact Classical.byContradiction hout) (g := F0 m pc ls (.double x :: .int i :: .ref a :: rest)) rfl (rest := rest) rfl (by rw [hb]; exact hdg) t
  simp only [arrV_size] at h1
  exact h1 st
theorem vx_arraylengthN (hexec : p.tables.exec = Jvm.exec) (hb : c.code = cc) (hdg : decode cc pc = .ok (.arraylength, 1)) (k : vx_NoteN p l e R s m args below meth c H locs cells slots Q (F0 m pc ls rest)) : W p l e R s m args below meth c H locs cells slots Q (F0 m pc ls (.null :: rest)) := by
  intro T hT X
  obtain ⟨t, st, q⟩ := k T hT X
  exact ⟨t, X.arraylengthNull hexec (g := F0 m pc ls (.null :: rest)) rfl (rest := rest) rfl (by rw [hb]; exact hdg) t st, q⟩
theorem vx_ialoadN (hexec : p.tables.exec = Jvm.exec) (hb : c.code = cc) {i : Int32} (hdg : decode cc pc = .ok (.iaload, 1)) (k : vx_NoteN p l e R s m args below meth c H locs cells slots Q (F0 m pc ls rest)) : W p l e R s m args below meth c H locs cells slots Q (F0 m pc ls (.int i :: .null :: rest)) := by
  intro T hT X
  obtain ⟨t, st, q⟩ := k T hT X
  exact ⟨t, X.ialoadNull hexec (g := F0 m pc ls (.int i :: .null :: rest)) rfl (rest := rest) rfl (by rw [hb]; exact hdg) t st, q⟩
theorem vx_laloadN (hexec : p.tables.exec = Jvm.exec) (hb : c.code = cc) {i : Int32} (hdg : decode cc pc = .ok (.laload, 1)) (k : vx_NoteN p l e R s m args below meth c H locs cells slots Q (F0 m pc ls rest)) : W p l e R s m args below meth c H locs cells slots Q (F0 m pc ls (.int i :: .null :: rest)) := by
  intro T hT X
  obtain ⟨t, st, q⟩ := k T hT X
  exact ⟨t, X.laloadNull hexec (g := F0 m pc ls (.int i :: .null :: rest)) rfl (rest := rest) rfl (by rw [hb]; exact hdg) t st, q⟩
theorem vx_faloadN (hexec : p.tables.exec = Jvm.exec) (hb : c.code = cc) {i : Int32} (hdg : decode cc pc = .ok (.faload, 1)) (k : vx_NoteN p l e R s m args below meth c H locs cells slots Q (F0 m pc ls rest)) : W p l e R s m args below meth c H locs cells slots Q (F0 m pc ls (.int i :: .null :: rest)) := by
  intro T hT X
  obtain ⟨t, st, q⟩ := k T hT X
  exact ⟨t, X.faloadNull hexec (g := F0 m pc ls (.int i :: .null :: rest)) rfl (rest := rest) rfl (by rw [hb]; exact hdg) t st, q⟩
theorem vx_daloadN (hexec : p.tables.exec = Jvm.exec) (hb : c.code = cc) {i : Int32} (hdg : decode cc pc = .ok (.daload, 1)) (k : vx_NoteN p l e R s m args below meth c H locs cells slots Q (F0 m pc ls rest)) : W p l e R s m args below meth c H locs cells slots Q (F0 m pc ls (.int i :: .null :: rest)) := by
  intro T hT X
  obtain ⟨t, st, q⟩ := k T hT X
  exact ⟨t, X.daloadNull hexec (g := F0 m pc ls (.int i :: .null :: rest)) rfl (rest := rest) rfl (by rw [hb]; exact hdg) t st, q⟩
theorem vx_aaloadN (hexec : p.tables.exec = Jvm.exec) (hb : c.code = cc) {i : Int32} (hdg : decode cc pc = .ok (.aaload, 1)) (k : vx_NoteN p l e R s m args below meth c H locs cells slots Q (F0 m pc ls rest)) : W p l e R s m args below meth c H locs cells slots Q (F0 m pc ls (.int i :: .null :: rest)) := by
  intro T hT X
  obtain ⟨t, st, q⟩ := k T hT X
  exact ⟨t, X.aaloadNull hexec (g := F0 m pc ls (.int i :: .null :: rest)) rfl (rest := rest) rfl (by rw [hb]; exact hdg) t st, q⟩
theorem vx_baloadN (hexec : p.tables.exec = Jvm.exec) (hb : c.code = cc) {i : Int32} (hdg : decode cc pc = .ok (.baload, 1)) (k : vx_NoteN p l e R s m args below meth c H locs cells slots Q (F0 m pc ls rest)) : W p l e R s m args below meth c H locs cells slots Q (F0 m pc ls (.int i :: .null :: rest)) := by
  intro T hT X
  obtain ⟨t, st, q⟩ := k T hT X
  exact ⟨t, X.baloadNull hexec (g := F0 m pc ls (.int i :: .null :: rest)) rfl (rest := rest) rfl (by rw [hb]; exact hdg) t st, q⟩
theorem vx_caloadN (hexec : p.tables.exec = Jvm.exec) (hb : c.code = cc) {i : Int32} (hdg : decode cc pc = .ok (.caload, 1)) (k : vx_NoteN p l e R s m args below meth c H locs cells slots Q (F0 m pc ls rest)) : W p l e R s m args below meth c H locs cells slots Q (F0 m pc ls (.int i :: .null :: rest)) := by
  intro T hT X
  obtain ⟨t, st, q⟩ := k T hT X
  exact ⟨t, X.caloadNull hexec (g := F0 m pc ls (.int i :: .null :: rest)) rfl (rest := rest) rfl (by rw [hb]; exact hdg) t st, q⟩
theorem vx_saloadN (hexec : p.tables.exec = Jvm.exec) (hb : c.code = cc) {i : Int32} (hdg : decode cc pc = .ok (.saload, 1)) (k : vx_NoteN p l e R s m args below meth c H locs cells slots Q (F0 m pc ls rest)) : W p l e R s m args below meth c H locs cells slots Q (F0 m pc ls (.int i :: .null :: rest)) := by
  intro T hT X
  obtain ⟨t, st, q⟩ := k T hT X
  exact ⟨t, X.saloadNull hexec (g := F0 m pc ls (.int i :: .null :: rest)) rfl (rest := rest) rfl (by rw [hb]; exact hdg) t st, q⟩
theorem vx_iastoreN (hexec : p.tables.exec = Jvm.exec) (hb : c.code = cc) {x : Int32} {i : Int32} (hdg : decode cc pc = .ok (.iastore, 1)) (k : vx_NoteN p l e R s m args below meth c H locs cells slots Q (F0 m pc ls rest)) : W p l e R s m args below meth c H locs cells slots Q (F0 m pc ls (.int x :: .int i :: .null :: rest)) := by
  intro T hT X
  obtain ⟨t, st, q⟩ := k T hT X
  exact ⟨t, X.iastoreNull hexec (g := F0 m pc ls (.int x :: .int i :: .null :: rest)) rfl (rest := rest) rfl (by rw [hb]; exact hdg) t st, q⟩
theorem vx_lastoreN (hexec : p.tables.exec = Jvm.exec) (hb : c.code = cc) {x : Int64} {i : Int32} (hdg : decode cc pc = .ok (.lastore, 1)) (k : vx_NoteN p l e R s m args below meth c H locs cells slots Q (F0 m pc ls rest)) : W p l e R s m args below meth c H locs cells slots Q (F0 m pc ls (.long x :: .int i :: .null :: rest)) := by
  intro T hT X
  obtain ⟨t, st, q⟩ := k T hT X
  exact ⟨t, X.lastoreNull hexec (g := F0 m pc ls (.long x :: .int i :: .null :: rest)) rfl (rest := rest) rfl (by rw [hb]; exact hdg) t st, q⟩
theorem vx_fastoreN (hexec : p.tables.exec = Jvm.exec) (hb : c.code = cc) {x : UInt32} {i : Int32} (hdg : decode cc pc = .ok (.fastore, 1)) (k : vx_NoteN p l e R s m args below meth c H locs cells slots Q (F0 m pc ls rest)) : W p l e R s m args below meth c H locs cells slots Q (F0 m pc ls (.float x :: .int i :: .null :: rest)) := by
  intro T hT X
  obtain ⟨t, st, q⟩ := k T hT X
  exact ⟨t, X.fastoreNull hexec (g := F0 m pc ls (.float x :: .int i :: .null :: rest)) rfl (rest := rest) rfl (by rw [hb]; exact hdg) t st, q⟩
theorem vx_dastoreN (hexec : p.tables.exec = Jvm.exec) (hb : c.code = cc) {x : UInt64} {i : Int32} (hdg : decode cc pc = .ok (.dastore, 1)) (k : vx_NoteN p l e R s m args below meth c H locs cells slots Q (F0 m pc ls rest)) : W p l e R s m args below meth c H locs cells slots Q (F0 m pc ls (.double x :: .int i :: .null :: rest)) := by
  intro T hT X
  obtain ⟨t, st, q⟩ := k T hT X
  exact ⟨t, X.dastoreNull hexec (g := F0 m pc ls (.double x :: .int i :: .null :: rest)) rfl (rest := rest) rfl (by rw [hb]; exact hdg) t st, q⟩
theorem vx_bastoreN (hexec : p.tables.exec = Jvm.exec) (hb : c.code = cc) {x : Int32} {i : Int32} (hdg : decode cc pc = .ok (.bastore, 1)) (k : vx_NoteN p l e R s m args below meth c H locs cells slots Q (F0 m pc ls rest)) : W p l e R s m args below meth c H locs cells slots Q (F0 m pc ls (.int x :: .int i :: .null :: rest)) := by
  intro T hT X
  obtain ⟨t, st, q⟩ := k T hT X
  exact ⟨t, X.bastoreNull hexec (g := F0 m pc ls (.int x :: .int i :: .null :: rest)) rfl (rest := rest) rfl (by rw [hb]; exact hdg) t st, q⟩
theorem vx_castoreN (hexec : p.tables.exec = Jvm.exec) (hb : c.code = cc) {x : Int32} {i : Int32} (hdg : decode cc pc = .ok (.castore, 1)) (k : vx_NoteN p l e R s m args below meth c H locs cells slots Q (F0 m pc ls rest)) : W p l e R s m args below meth c H locs cells slots Q (F0 m pc ls (.int x :: .int i :: .null :: rest)) := by
  intro T hT X
  obtain ⟨t, st, q⟩ := k T hT X
  exact ⟨t, X.castoreNull hexec (g := F0 m pc ls (.int x :: .int i :: .null :: rest)) rfl (rest := rest) rfl (by rw [hb]; exact hdg) t st, q⟩
theorem vx_sastoreN (hexec : p.tables.exec = Jvm.exec) (hb : c.code = cc) {x : Int32} {i : Int32} (hdg : decode cc pc = .ok (.sastore, 1)) (k : vx_NoteN p l e R s m args below meth c H locs cells slots Q (F0 m pc ls rest)) : W p l e R s m args below meth c H locs cells slots Q (F0 m pc ls (.int x :: .int i :: .null :: rest)) := by
  intro T hT X
  obtain ⟨t, st, q⟩ := k T hT X
  exact ⟨t, X.sastoreNull hexec (g := F0 m pc ls (.int x :: .int i :: .null :: rest)) rfl (rest := rest) rfl (by rw [hb]; exact hdg) t st, q⟩
theorem vx_invokeN {own C : String} {index maxL : Nat} {y : MethodName} {bytes : ByteArray} {ret : Option FieldType} (hexec : p.tables.exec = Jvm.exec) (hb : c.code = cc) (hown : s.vm.findClass own = some m.cls) (hlink : (Cond.methodLink own index y).before args s = true) (hinst : (Cond.instanceMethod y).before args s = true) (hcode : (Cond.code y bytes maxL ret).before args s = true) (hsel : (Cond.selects C y y).before args s = true)
    (hx : y.cls ≠ "java/lang/invoke/MethodHandle" ∧ y.cls ≠ "java/lang/invoke/VarHandle") {As : List Value} (hlen : (parseMethodDescriptor y.desc).map (fun d => d.parameters.length) = some As.length) (hdg : decode cc pc = .ok (.invokevirtual index, 3))
    (k : vx_NoteN p l e R s m args below meth c H locs cells slots Q (F0 m pc ls rest)) {st0 : List Value} (hst : st0 = As.reverse ++ .null :: rest) : W p l e R s m args below meth c H locs cells slots Q (F0 m pc ls st0) := by
  intro T hT X
  obtain ⟨r0, r, hn, hrm, hstR, hsigR⟩ := va_Decl.of hinst hcode
  obtain ⟨c2, r2, m2, q1, q2, q3, q4, kP, hkP, hkPi⟩ := Cond.selects_spec hsel
  cases hn.symm.trans q3
  have hl9 : As.length = r.sig.parameters.length := by
    rw [hsigR] at hlen
    exact (Option.some.inj hlen).symm
  obtain ⟨vm', X1, st1⟩ := X.invokevirtualNull hexec hown hlink hn hrm hstR hkP hkPi hx (g := F0 m pc ls st0) rfl (argsL := As) (rest := rest) hl9 hst (by rw [hb]; exact hdg)
  obtain ⟨t, st, q⟩ := k (T.setVm vm') hT X1
  exact ⟨t, st1 t st, q⟩
theorem vx_newarrayZ {atype : ArrayType} (hexec : p.tables.exec = Jvm.exec) (hb : c.code = cc) {n : Int32} (h0 : n < 0) (hdg : decode cc pc = .ok (.newarray atype, 2)) (k : ∀ tx : String, tx = toString n → vx_Note p l e R s m args below meth c H locs cells slots Q (F0 m pc ls rest) "java/lang/NegativeArraySizeException" tx) : W p l e R s m args below meth c H locs cells slots Q (F0 m pc ls (.int n :: rest)) := by
  intro T hT X
  obtain ⟨t, st, q⟩ := k _ rfl T hT X
  exact ⟨t, X.newarrayNegative hexec (g := F0 m pc ls (.int n :: rest)) rfl h0 (rest := rest) rfl (by rw [hb]; exact hdg) t st, q⟩
end
end VXM
/-! ===== END ===== -/
end
section
def RX0 : String := "StormBasin$Basin"
def TX0 : u_T := fun k => match k with
  | 0 => ("StormBasin$Basin", "area", "I", true)
  | 1 => ("StormBasin$Basin", "depth", "I", true)
  | 2 => ("StormBasin$Basin", "width", "I", true)
  | 3 => ("StormBasin$Basin", "below", "I", true)
  | 4 => ("StormBasin$Basin", "street", "LStormBasin$Street;", true)
  | 5 => ("StormBasin$Basin", "rainIn", "[I", true)
  | 6 => ("StormBasin$Basin", "hand", "I", false)
  | _ => ("StormBasin$Basin", "rain", "I", false)
def tyX0 : Nat → FieldType := fun k => match k with
  | 0 => .int
  | 1 => .int
  | 2 => .int
  | 3 => .int
  | 4 => .object "StormBasin$Street"
  | 5 => .array .int
  | 6 => .int
  | _ => .int
abbrev wsX00 : List Cond := u_ws RX0 TX0 8
theorem nmX0 : ∀ a, a < 8 → ∀ b, b < 8 → a ≠ b → (TX0 a).2.1 ≠ (TX0 b).2.1 := by decide +kernel
theorem tyX0_ok : ∀ k, k < 8 → parseFieldDescriptor (TX0 k).2.2.1 = some (tyX0 k) := by decide +kernel
abbrev cX0_init : ByteArray := prog_2_method_1_code
def yX0_init : MethodName := ⟨RX0, "<init>", "(IIIII)V"⟩
abbrev cX0_capacity : ByteArray := prog_2_method_2_code
def yX0_capacity : MethodName := ⟨RX0, "capacity", "()I"⟩
def RX1 : String := "StormBasin$House"
def TX1 : u_T := fun k => match k with
  | 0 => ("StormBasin$House", "street", "LStormBasin$Street;", true)
  | 1 => ("StormBasin$House", "cell", "I", true)
  | 2 => ("StormBasin$House", "rate", "I", true)
  | 3 => ("StormBasin$House", "cover", "I", true)
  | 4 => ("StormBasin$House", "isClaimed", "[Z", true)
  | 5 => ("StormBasin$House", "claims", "I", false)
  | _ => ("StormBasin$House", "paid", "I", false)
def tyX1 : Nat → FieldType := fun k => match k with
  | 0 => .object "StormBasin$Street"
  | 1 => .int
  | 2 => .int
  | 3 => .int
  | 4 => .array .boolean
  | 5 => .int
  | _ => .int
abbrev wsX10 : List Cond := u_ws RX1 TX1 7
theorem nmX1 : ∀ a, a < 7 → ∀ b, b < 7 → a ≠ b → (TX1 a).2.1 ≠ (TX1 b).2.1 := by decide +kernel
theorem tyX1_ok : ∀ k, k < 7 → parseFieldDescriptor (TX1 k).2.2.1 = some (tyX1 k) := by decide +kernel
abbrev cX1_init : ByteArray := prog_3_method_1_code
def yX1_init : MethodName := ⟨RX1, "<init>", "(LStormBasin$Street;III)V"⟩
abbrev cX1_isWetAt : ByteArray := prog_3_method_2_code
def yX1_isWetAt : MethodName := ⟨RX1, "isWetAt", "(I)Z"⟩
abbrev cX1_worthAt : ByteArray := prog_3_method_3_code
def yX1_worthAt : MethodName := ⟨RX1, "worthAt", "(I)I"⟩
abbrev cX1_worstHour : ByteArray := prog_3_method_4_code
def yX1_worstHour : MethodName := ⟨RX1, "worstHour", "(I)I"⟩
abbrev cX1_pay : ByteArray := prog_3_method_5_code
def yX1_pay : MethodName := ⟨RX1, "pay", "(I)I"⟩
def RX2 : String := "StormBasin$Rule"
def TX2 : u_T := fun k => match k with
  | 0 => ("StormBasin$Rule", "basin", "I", true)
  | 1 => ("StormBasin$Rule", "observed", "I", true)
  | 2 => ("StormBasin$Rule", "isFrom", "Z", true)
  | 3 => ("StormBasin$Rule", "level", "I", true)
  | _ => ("StormBasin$Rule", "opening", "I", true)
def tyX2 : Nat → FieldType := fun k => match k with
  | 0 => .int
  | 1 => .int
  | 2 => .boolean
  | 3 => .int
  | _ => .int
abbrev wsX20 : List Cond := u_ws RX2 TX2 5
theorem nmX2 : ∀ a, a < 5 → ∀ b, b < 5 → a ≠ b → (TX2 a).2.1 ≠ (TX2 b).2.1 := by decide +kernel
theorem tyX2_ok : ∀ k, k < 5 → parseFieldDescriptor (TX2 k).2.2.1 = some (tyX2 k) := by decide +kernel
abbrev cX2_init : ByteArray := prog_4_method_1_code
def yX2_init : MethodName := ⟨RX2, "<init>", "(IIZII)V"⟩
def RX3 : String := "StormBasin$Street"
def TX3 : u_T := fun k => match k with
  | 0 => ("StormBasin$Street", "heights", "[I", true)
  | 1 => ("StormBasin$Street", "dryUpTo", "[I", true)
  | 2 => ("StormBasin$Street", "poured", "[I", true)
  | 3 => ("StormBasin$Street", "volumeAtEnd", "[I", true)
  | _ => ("StormBasin$Street", "cells", "I", false)
def tyX3 : Nat → FieldType := fun k => match k with
  | 0 => .array .int
  | 1 => .array .int
  | 2 => .array .int
  | 3 => .array .int
  | _ => .int
abbrev wsX30 : List Cond := u_ws RX3 TX3 5
theorem nmX3 : ∀ a, a < 5 → ∀ b, b < 5 → a ≠ b → (TX3 a).2.1 ≠ (TX3 b).2.1 := by decide +kernel
theorem tyX3_ok : ∀ k, k < 5 → parseFieldDescriptor (TX3 k).2.2.1 = some (tyX3 k) := by decide +kernel
abbrev cX3_init : ByteArray := prog_5_method_1_code
def yX3_init : MethodName := ⟨RX3, "<init>", "(I)V"⟩
abbrev cX3_append : ByteArray := prog_5_method_2_code
def yX3_append : MethodName := ⟨RX3, "append", "(I)V"⟩
abbrev cX3_volumeBefore : ByteArray := prog_5_method_3_code
def yX3_volumeBefore : MethodName := ⟨RX3, "volumeBefore", "(I)I"⟩
abbrev cX3_isWet : ByteArray := prog_5_method_4_code
def yX3_isWet : MethodName := ⟨RX3, "isWet", "(II)Z"⟩
abbrev cX3_countWet : ByteArray := prog_5_method_5_code
def yX3_countWet : MethodName := ⟨RX3, "countWet", "(I)I"⟩
abbrev cX3_depthOf : ByteArray := prog_5_method_6_code
def yX3_depthOf : MethodName := ⟨RX3, "depthOf", "(II)I"⟩
abbrev cX3_cellsUpTo : ByteArray := prog_5_method_7_code
def yX3_cellsUpTo : MethodName := ⟨RX3, "cellsUpTo", "(I)I"⟩
abbrev cX3_cellsAhead : ByteArray := prog_5_method_8_code
def yX3_cellsAhead : MethodName := ⟨RX3, "cellsAhead", "(II)I"⟩
abbrev cX3_depthPoured : ByteArray := prog_5_method_9_code
def yX3_depthPoured : MethodName := ⟨RX3, "depthPoured", "(II)I"⟩
abbrev cX3_lowestCell : ByteArray := prog_5_method_10_code
def yX3_lowestCell : MethodName := ⟨RX3, "lowestCell", "()I"⟩
def RX4 : String := "StormBasin$Water"
def TX4 : u_T := fun k => match k with
  | 0 => ("StormBasin$Water", "inBasin", "[I", true)
  | 1 => ("StormBasin$Water", "onStreet", "[I", true)
  | 2 => ("StormBasin$Water", "leaving", "[I", true)
  | _ => ("StormBasin$Water", "inRiver", "I", false)
def tyX4 : Nat → FieldType := fun k => match k with
  | 0 => .array .int
  | 1 => .array .int
  | 2 => .array .int
  | _ => .int
abbrev wsX40 : List Cond := u_ws RX4 TX4 4
theorem nmX4 : ∀ a, a < 4 → ∀ b, b < 4 → a ≠ b → (TX4 a).2.1 ≠ (TX4 b).2.1 := by decide +kernel
theorem tyX4_ok : ∀ k, k < 4 → parseFieldDescriptor (TX4 k).2.2.1 = some (tyX4 k) := by decide +kernel
abbrev cX4_init : ByteArray := prog_6_method_1_code
def yX4_init : MethodName := ⟨RX4, "<init>", "()V"⟩
abbrev cX4_clear : ByteArray := prog_6_method_2_code
def yX4_clear : MethodName := ⟨RX4, "clear", "()V"⟩
abbrev cX4_held : ByteArray := prog_6_method_3_code
def yX4_held : MethodName := ⟨RX4, "held", "()I"⟩
abbrev cX4_runThroughGate : ByteArray := prog_6_method_4_code
def yX4_runThroughGate : MethodName := ⟨RX4, "runThroughGate", "(II)V"⟩
abbrev cX4_settle : ByteArray := prog_6_method_5_code
def yX4_settle : MethodName := ⟨RX4, "settle", "(II)V"⟩
def RX5 : String := "StormBasin"
def TX5 : u_T := fun k => match k with
  | 0 => ("StormBasin", "basins", "Ljava/util/ArrayList;", true)
  | 1 => ("StormBasin", "rules", "Ljava/util/ArrayList;", true)
  | 2 => ("StormBasin", "houses", "Ljava/util/ArrayList;", true)
  | 3 => ("StormBasin", "present", "LStormBasin$Water;", true)
  | 4 => ("StormBasin", "trial", "LStormBasin$Water;", true)
  | 5 => ("StormBasin", "line", "Ljava/lang/StringBuilder;", true)
  | 6 => ("StormBasin", "clock", "I", false)
  | 7 => ("StormBasin", "rainSoFar", "I", false)
  | _ => ("StormBasin", "wetSoFar", "I", false)
def tyX5 : Nat → FieldType := fun k => match k with
  | 0 => .object "java/util/ArrayList"
  | 1 => .object "java/util/ArrayList"
  | 2 => .object "java/util/ArrayList"
  | 3 => .object "StormBasin$Water"
  | 4 => .object "StormBasin$Water"
  | 5 => .object "java/lang/StringBuilder"
  | 6 => .int
  | 7 => .int
  | _ => .int
abbrev wsX50 : List Cond := u_ws RX5 TX5 9
theorem nmX5 : ∀ a, a < 9 → ∀ b, b < 9 → a ≠ b → (TX5 a).2.1 ≠ (TX5 b).2.1 := by decide +kernel
theorem tyX5_ok : ∀ k, k < 9 → parseFieldDescriptor (TX5 k).2.2.1 = some (tyX5 k) := by decide +kernel
abbrev cX5_init : ByteArray := prog_1_method_1_code
def yX5_init : MethodName := ⟨RX5, "<init>", "()V"⟩
abbrev cX5_addBasin : ByteArray := prog_1_method_2_code
def yX5_addBasin : MethodName := ⟨RX5, "addBasin", "(IIIII)I"⟩
abbrev cX5_addCell : ByteArray := prog_1_method_3_code
def yX5_addCell : MethodName := ⟨RX5, "addCell", "(II)I"⟩
abbrev cX5_basinCount : ByteArray := prog_1_method_4_code
def yX5_basinCount : MethodName := ⟨RX5, "basinCount", "()I"⟩
abbrev cX5_cellCount : ByteArray := prog_1_method_5_code
def yX5_cellCount : MethodName := ⟨RX5, "cellCount", "(I)I"⟩
abbrev cX5_capacityOf : ByteArray := prog_1_method_6_code
def yX5_capacityOf : MethodName := ⟨RX5, "capacityOf", "(I)I"⟩
abbrev cX5_setHand : ByteArray := prog_1_method_7_code
def yX5_setHand : MethodName := ⟨RX5, "setHand", "(II)I"⟩
abbrev cX5_addRule : ByteArray := prog_1_method_8_code
def yX5_addRule : MethodName := ⟨RX5, "addRule", "(IIZII)I"⟩
abbrev cX5_removeRule : ByteArray := prog_1_method_9_code
def yX5_removeRule : MethodName := ⟨RX5, "removeRule", "(I)I"⟩
abbrev cX5_ruleCount : ByteArray := prog_1_method_10_code
def yX5_ruleCount : MethodName := ⟨RX5, "ruleCount", "()I"⟩
abbrev cX5_doesHold : ByteArray := prog_1_method_11_code
def yX5_doesHold : MethodName := ⟨RX5, "doesHold", "(I)Z"⟩
abbrev cX5_openingNow : ByteArray := prog_1_method_12_code
def yX5_openingNow : MethodName := ⟨RX5, "openingNow", "(I)I"⟩
abbrev cX5_setRain : ByteArray := prog_1_method_13_code
def yX5_setRain : MethodName := ⟨RX5, "setRain", "(II)I"⟩
abbrev cX5_pass : ByteArray := prog_1_method_14_code
def yX5_pass : MethodName := ⟨RX5, "pass", "(I)I"⟩
abbrev cX5_clock : ByteArray := prog_1_method_15_code
def yX5_clock : MethodName := ⟨RX5, "clock", "()I"⟩
abbrev cX5_volumeOf : ByteArray := prog_1_method_16_code
def yX5_volumeOf : MethodName := ⟨RX5, "volumeOf", "(I)I"⟩
abbrev cX5_levelOf : ByteArray := prog_1_method_17_code
def yX5_levelOf : MethodName := ⟨RX5, "levelOf", "(I)I"⟩
abbrev cX5_streetVolume : ByteArray := prog_1_method_18_code
def yX5_streetVolume : MethodName := ⟨RX5, "streetVolume", "(I)I"⟩
abbrev cX5_rainTotal : ByteArray := prog_1_method_19_code
def yX5_rainTotal : MethodName := ⟨RX5, "rainTotal", "()I"⟩
abbrev cX5_riverTotal : ByteArray := prog_1_method_20_code
def yX5_riverTotal : MethodName := ⟨RX5, "riverTotal", "()I"⟩
abbrev cX5_heldTotal : ByteArray := prog_1_method_21_code
def yX5_heldTotal : MethodName := ⟨RX5, "heldTotal", "()I"⟩
abbrev cX5_isBalanced : ByteArray := prog_1_method_22_code
def yX5_isBalanced : MethodName := ⟨RX5, "isBalanced", "()Z"⟩
abbrev cX5_depthAt : ByteArray := prog_1_method_23_code
def yX5_depthAt : MethodName := ⟨RX5, "depthAt", "(II)I"⟩
abbrev cX5_depthByPouring : ByteArray := prog_1_method_24_code
def yX5_depthByPouring : MethodName := ⟨RX5, "depthByPouring", "(II)I"⟩
abbrev cX5_depthThen : ByteArray := prog_1_method_25_code
def yX5_depthThen : MethodName := ⟨RX5, "depthThen", "(III)I"⟩
abbrev cX5_wetCells : ByteArray := prog_1_method_26_code
def yX5_wetCells : MethodName := ⟨RX5, "wetCells", "(I)I"⟩
abbrev cX5_wetHours : ByteArray := prog_1_method_27_code
def yX5_wetHours : MethodName := ⟨RX5, "wetHours", "(II)I"⟩
abbrev cX5_floodedSoFar : ByteArray := prog_1_method_28_code
def yX5_floodedSoFar : MethodName := ⟨RX5, "floodedSoFar", "()I"⟩
abbrev cX5_addHouse : ByteArray := prog_1_method_29_code
def yX5_addHouse : MethodName := ⟨RX5, "addHouse", "(IIII)I"⟩
abbrev cX5_houseCount : ByteArray := prog_1_method_30_code
def yX5_houseCount : MethodName := ⟨RX5, "houseCount", "()I"⟩
abbrev cX5_wasWet : ByteArray := prog_1_method_31_code
def yX5_wasWet : MethodName := ⟨RX5, "wasWet", "(II)Z"⟩
abbrev cX5_worthOf : ByteArray := prog_1_method_32_code
def yX5_worthOf : MethodName := ⟨RX5, "worthOf", "(II)I"⟩
abbrev cX5_claim : ByteArray := prog_1_method_33_code
def yX5_claim : MethodName := ⟨RX5, "claim", "(II)I"⟩
abbrev cX5_claimWorst : ByteArray := prog_1_method_34_code
def yX5_claimWorst : MethodName := ⟨RX5, "claimWorst", "(I)I"⟩
abbrev cX5_claimCount : ByteArray := prog_1_method_35_code
def yX5_claimCount : MethodName := ⟨RX5, "claimCount", "(I)I"⟩
abbrev cX5_paidTo : ByteArray := prog_1_method_36_code
def yX5_paidTo : MethodName := ⟨RX5, "paidTo", "(I)I"⟩
abbrev cX5_paidTotal : ByteArray := prog_1_method_37_code
def yX5_paidTotal : MethodName := ⟨RX5, "paidTotal", "()J"⟩
abbrev cX5_meanPayment : ByteArray := prog_1_method_38_code
def yX5_meanPayment : MethodName := ⟨RX5, "meanPayment", "()D"⟩
abbrev cX5_floodedWith : ByteArray := prog_1_method_39_code
def yX5_floodedWith : MethodName := ⟨RX5, "floodedWith", "()I"⟩
abbrev cX5_floodedWithOpening : ByteArray := prog_1_method_40_code
def yX5_floodedWithOpening : MethodName := ⟨RX5, "floodedWithOpening", "(II)I"⟩
abbrev cX5_bestOpening : ByteArray := prog_1_method_41_code
def yX5_bestOpening : MethodName := ⟨RX5, "bestOpening", "(I)I"⟩
abbrev cX5_writeRule : ByteArray := prog_1_method_42_code
def yX5_writeRule : MethodName := ⟨RX5, "writeRule", "(I)I"⟩
abbrev cX5_lineAt : ByteArray := prog_1_method_43_code
def yX5_lineAt : MethodName := ⟨RX5, "lineAt", "(I)C"⟩
abbrev cX5_isWithin : ByteArray := prog_1_method_44_code
def yX5_isWithin : MethodName := ⟨RX5, "isWithin", "(III)Z"⟩
abbrev cX5_requireHeight : ByteArray := prog_1_method_45_code
def yX5_requireHeight : MethodName := ⟨RX5, "requireHeight", "(I)V"⟩
abbrev cX5_requireOpening : ByteArray := prog_1_method_46_code
def yX5_requireOpening : MethodName := ⟨RX5, "requireOpening", "(I)V"⟩
abbrev cX5_requireBeforeFirstHour : ByteArray := prog_1_method_47_code
def yX5_requireBeforeFirstHour : MethodName := ⟨RX5, "requireBeforeFirstHour", "()V"⟩
abbrev cX5_requireHour : ByteArray := prog_1_method_48_code
def yX5_requireHour : MethodName := ⟨RX5, "requireHour", "(I)V"⟩
abbrev cX5_requireBasin : ByteArray := prog_1_method_49_code
def yX5_requireBasin : MethodName := ⟨RX5, "requireBasin", "(I)V"⟩
abbrev cX5_requireRule : ByteArray := prog_1_method_50_code
def yX5_requireRule : MethodName := ⟨RX5, "requireRule", "(I)V"⟩
abbrev cX5_basinOf : ByteArray := prog_1_method_51_code
def yX5_basinOf : MethodName := ⟨RX5, "basinOf", "(I)LStormBasin$Basin;"⟩
abbrev cX5_streetWith : ByteArray := prog_1_method_52_code
def yX5_streetWith : MethodName := ⟨RX5, "streetWith", "(II)LStormBasin$Street;"⟩
abbrev cX5_houseOf : ByteArray := prog_1_method_53_code
def yX5_houseOf : MethodName := ⟨RX5, "houseOf", "(I)LStormBasin$House;"⟩
abbrev cX5_passOneHour : ByteArray := prog_1_method_54_code
def yX5_passOneHour : MethodName := ⟨RX5, "passOneHour", "()V"⟩
abbrev cX5_tryPastRain : ByteArray := prog_1_method_55_code
def yX5_tryPastRain : MethodName := ⟨RX5, "tryPastRain", "(II)I"⟩
abbrev cX5_moveWater : ByteArray := prog_1_method_56_code
def yX5_moveWater : MethodName := ⟨RX5, "moveWater", "(LStormBasin$Water;III)V"⟩
abbrev cX5_openingBy : ByteArray := prog_1_method_57_code
def yX5_openingBy : MethodName := ⟨RX5, "openingBy", "(LStormBasin$Water;I)I"⟩
abbrev cX5_holdsBy : ByteArray := prog_1_method_58_code
def yX5_holdsBy : MethodName := ⟨RX5, "holdsBy", "(LStormBasin$Water;LStormBasin$Rule;)Z"⟩
abbrev cX5_levelBy : ByteArray := prog_1_method_59_code
def yX5_levelBy : MethodName := ⟨RX5, "levelBy", "(LStormBasin$Water;I)I"⟩
abbrev cX5_wetCellsBy : ByteArray := prog_1_method_60_code
def yX5_wetCellsBy : MethodName := ⟨RX5, "wetCellsBy", "(LStormBasin$Water;)I"⟩
def RX6 : String := "StormBasinModel"
def TX6 : u_T := fun k => match k with
  | 0 => ("StormBasinModel", "basins", "I", false)
  | 1 => ("StormBasinModel", "areas", "[I", true)
  | 2 => ("StormBasinModel", "depths", "[I", true)
  | 3 => ("StormBasinModel", "widths", "[I", true)
  | 4 => ("StormBasinModel", "belows", "[I", true)
  | 5 => ("StormBasinModel", "hands", "[I", true)
  | 6 => ("StormBasinModel", "rains", "[I", true)
  | 7 => ("StormBasinModel", "cells", "[I", true)
  | 8 => ("StormBasinModel", "heights", "[I", true)
  | 9 => ("StormBasinModel", "volumes", "[I", true)
  | 10 => ("StormBasinModel", "streets", "[I", true)
  | 11 => ("StormBasinModel", "tryVolumes", "[I", true)
  | 12 => ("StormBasinModel", "tryStreets", "[I", true)
  | 13 => ("StormBasinModel", "outs", "[I", true)
  | 14 => ("StormBasinModel", "rules", "I", false)
  | 15 => ("StormBasinModel", "gates", "[I", true)
  | 16 => ("StormBasinModel", "observed", "[I", true)
  | 17 => ("StormBasinModel", "areFrom", "[Z", true)
  | 18 => ("StormBasinModel", "levels", "[I", true)
  | 19 => ("StormBasinModel", "openings", "[I", true)
  | 20 => ("StormBasinModel", "clock", "I", false)
  | 21 => ("StormBasinModel", "fallen", "I", false)
  | 22 => ("StormBasinModel", "river", "I", false)
  | 23 => ("StormBasinModel", "rainThen", "[I", true)
  | 24 => ("StormBasinModel", "streetThen", "[I", true)
  | 25 => ("StormBasinModel", "houses", "I", false)
  | 26 => ("StormBasinModel", "houseBasins", "[I", true)
  | 27 => ("StormBasinModel", "houseCells", "[I", true)
  | 28 => ("StormBasinModel", "rates", "[I", true)
  | 29 => ("StormBasinModel", "covers", "[I", true)
  | 30 => ("StormBasinModel", "paid", "[I", true)
  | 31 => ("StormBasinModel", "areClaimed", "[Z", true)
  | 32 => ("StormBasinModel", "claims", "I", false)
  | 33 => ("StormBasinModel", "fixedBasin", "I", false)
  | 34 => ("StormBasinModel", "fixedOpening", "I", false)
  | 35 => ("StormBasinModel", "line", "[C", true)
  | 36 => ("StormBasinModel", "length", "I", false)
  | _ => ("StormBasinModel", "code", "I", false)
def tyX6 : Nat → FieldType := fun k => match k with
  | 0 => .int
  | 1 => .array .int
  | 2 => .array .int
  | 3 => .array .int
  | 4 => .array .int
  | 5 => .array .int
  | 6 => .array .int
  | 7 => .array .int
  | 8 => .array .int
  | 9 => .array .int
  | 10 => .array .int
  | 11 => .array .int
  | 12 => .array .int
  | 13 => .array .int
  | 14 => .int
  | 15 => .array .int
  | 16 => .array .int
  | 17 => .array .boolean
  | 18 => .array .int
  | 19 => .array .int
  | 20 => .int
  | 21 => .int
  | 22 => .int
  | 23 => .array .int
  | 24 => .array .int
  | 25 => .int
  | 26 => .array .int
  | 27 => .array .int
  | 28 => .array .int
  | 29 => .array .int
  | 30 => .array .int
  | 31 => .array .boolean
  | 32 => .int
  | 33 => .int
  | 34 => .int
  | 35 => .array .char
  | 36 => .int
  | _ => .int
abbrev wsX60 : List Cond := u_ws RX6 TX6 38
theorem nmX6 : ∀ a, a < 38 → ∀ b, b < 38 → a ≠ b → (TX6 a).2.1 ≠ (TX6 b).2.1 := by decide +kernel
theorem tyX6_ok : ∀ k, k < 38 → parseFieldDescriptor (TX6 k).2.2.1 = some (tyX6 k) := by decide +kernel
abbrev cX6_init : ByteArray := prog_8_method_1_code
def yX6_init : MethodName := ⟨RX6, "<init>", "()V"⟩
abbrev cX6_thrown : ByteArray := prog_8_method_2_code
def yX6_thrown : MethodName := ⟨RX6, "thrown", "()I"⟩
abbrev cX6_fails : ByteArray := prog_8_method_3_code
def yX6_fails : MethodName := ⟨RX6, "fails", "(I)Z"⟩
abbrev cX6_tells : ByteArray := prog_8_method_4_code
def yX6_tells : MethodName := ⟨RX6, "tells", "(I)I"⟩
abbrev cX6_in : ByteArray := prog_8_method_5_code
def yX6_in : MethodName := ⟨RX6, "in", "(III)Z"⟩
abbrev cX6_lesser : ByteArray := prog_8_method_6_code
def yX6_lesser : MethodName := ⟨RX6, "lesser", "(II)I"⟩
abbrev cX6_isNone : ByteArray := prog_8_method_7_code
def yX6_isNone : MethodName := ⟨RX6, "isNone", "(I)Z"⟩
abbrev cX6_isNoCell : ByteArray := prog_8_method_8_code
def yX6_isNoCell : MethodName := ⟨RX6, "isNoCell", "(II)Z"⟩
abbrev cX6_isNoRule : ByteArray := prog_8_method_9_code
def yX6_isNoRule : MethodName := ⟨RX6, "isNoRule", "(I)Z"⟩
abbrev cX6_isNoHouse : ByteArray := prog_8_method_10_code
def yX6_isNoHouse : MethodName := ⟨RX6, "isNoHouse", "(I)Z"⟩
abbrev cX6_addBasin : ByteArray := prog_8_method_11_code
def yX6_addBasin : MethodName := ⟨RX6, "addBasin", "(IIIII)I"⟩
abbrev cX6_addCell : ByteArray := prog_8_method_12_code
def yX6_addCell : MethodName := ⟨RX6, "addCell", "(II)I"⟩
abbrev cX6_basinCount : ByteArray := prog_8_method_13_code
def yX6_basinCount : MethodName := ⟨RX6, "basinCount", "()I"⟩
abbrev cX6_cellCount : ByteArray := prog_8_method_14_code
def yX6_cellCount : MethodName := ⟨RX6, "cellCount", "(I)I"⟩
abbrev cX6_holds : ByteArray := prog_8_method_15_code
def yX6_holds : MethodName := ⟨RX6, "holds", "(I)I"⟩
abbrev cX6_capacityOf : ByteArray := prog_8_method_16_code
def yX6_capacityOf : MethodName := ⟨RX6, "capacityOf", "(I)I"⟩
abbrev cX6_setHand : ByteArray := prog_8_method_17_code
def yX6_setHand : MethodName := ⟨RX6, "setHand", "(II)I"⟩
abbrev cX6_addRule : ByteArray := prog_8_method_18_code
def yX6_addRule : MethodName := ⟨RX6, "addRule", "(IIZII)I"⟩
abbrev cX6_removeRule : ByteArray := prog_8_method_19_code
def yX6_removeRule : MethodName := ⟨RX6, "removeRule", "(I)I"⟩
abbrev cX6_ruleCount : ByteArray := prog_8_method_20_code
def yX6_ruleCount : MethodName := ⟨RX6, "ruleCount", "()I"⟩
abbrev cX6_isTrue : ByteArray := prog_8_method_21_code
def yX6_isTrue : MethodName := ⟨RX6, "isTrue", "(I[I)Z"⟩
abbrev cX6_doesHold : ByteArray := prog_8_method_22_code
def yX6_doesHold : MethodName := ⟨RX6, "doesHold", "(I)Z"⟩
abbrev cX6_opening : ByteArray := prog_8_method_23_code
def yX6_opening : MethodName := ⟨RX6, "opening", "(I[I)I"⟩
abbrev cX6_openingNow : ByteArray := prog_8_method_24_code
def yX6_openingNow : MethodName := ⟨RX6, "openingNow", "(I)I"⟩
abbrev cX6_setRain : ByteArray := prog_8_method_25_code
def yX6_setRain : MethodName := ⟨RX6, "setRain", "(II)I"⟩
abbrev cX6_flows : ByteArray := prog_8_method_26_code
def yX6_flows : MethodName := ⟨RX6, "flows", "([I[I)I"⟩
abbrev cX6_pass : ByteArray := prog_8_method_27_code
def yX6_pass : MethodName := ⟨RX6, "pass", "(I)I"⟩
abbrev cX6_clock : ByteArray := prog_8_method_28_code
def yX6_clock : MethodName := ⟨RX6, "clock", "()I"⟩
abbrev cX6_volumeOf : ByteArray := prog_8_method_29_code
def yX6_volumeOf : MethodName := ⟨RX6, "volumeOf", "(I)I"⟩
abbrev cX6_levelOf : ByteArray := prog_8_method_30_code
def yX6_levelOf : MethodName := ⟨RX6, "levelOf", "(I)I"⟩
abbrev cX6_streetVolume : ByteArray := prog_8_method_31_code
def yX6_streetVolume : MethodName := ⟨RX6, "streetVolume", "(I)I"⟩
abbrev cX6_rainTotal : ByteArray := prog_8_method_32_code
def yX6_rainTotal : MethodName := ⟨RX6, "rainTotal", "()I"⟩
abbrev cX6_riverTotal : ByteArray := prog_8_method_33_code
def yX6_riverTotal : MethodName := ⟨RX6, "riverTotal", "()I"⟩
abbrev cX6_held : ByteArray := prog_8_method_34_code
def yX6_held : MethodName := ⟨RX6, "held", "()I"⟩
abbrev cX6_heldTotal : ByteArray := prog_8_method_35_code
def yX6_heldTotal : MethodName := ⟨RX6, "heldTotal", "()I"⟩
abbrev cX6_isBalanced : ByteArray := prog_8_method_36_code
def yX6_isBalanced : MethodName := ⟨RX6, "isBalanced", "()Z"⟩
abbrev cX6_upTo : ByteArray := prog_8_method_37_code
def yX6_upTo : MethodName := ⟨RX6, "upTo", "(II)I"⟩
abbrev cX6_heightOf : ByteArray := prog_8_method_38_code
def yX6_heightOf : MethodName := ⟨RX6, "heightOf", "(II)I"⟩
abbrev cX6_depth : ByteArray := prog_8_method_39_code
def yX6_depth : MethodName := ⟨RX6, "depth", "(III)I"⟩
abbrev cX6_deep : ByteArray := prog_8_method_40_code
def yX6_deep : MethodName := ⟨RX6, "deep", "(II)I"⟩
abbrev cX6_depthAt : ByteArray := prog_8_method_41_code
def yX6_depthAt : MethodName := ⟨RX6, "depthAt", "(II)I"⟩
abbrev cX6_depthByPouring : ByteArray := prog_8_method_42_code
def yX6_depthByPouring : MethodName := ⟨RX6, "depthByPouring", "(II)I"⟩
abbrev cX6_then : ByteArray := prog_8_method_43_code
def yX6_then : MethodName := ⟨RX6, "then", "(III)I"⟩
abbrev cX6_depthThen : ByteArray := prog_8_method_44_code
def yX6_depthThen : MethodName := ⟨RX6, "depthThen", "(III)I"⟩
abbrev cX6_wet : ByteArray := prog_8_method_45_code
def yX6_wet : MethodName := ⟨RX6, "wet", "(II)I"⟩
abbrev cX6_wetCells : ByteArray := prog_8_method_46_code
def yX6_wetCells : MethodName := ⟨RX6, "wetCells", "(I)I"⟩
abbrev cX6_wetHours : ByteArray := prog_8_method_47_code
def yX6_wetHours : MethodName := ⟨RX6, "wetHours", "(II)I"⟩
abbrev cX6_floodedSoFar : ByteArray := prog_8_method_48_code
def yX6_floodedSoFar : MethodName := ⟨RX6, "floodedSoFar", "()I"⟩
abbrev cX6_addHouse : ByteArray := prog_8_method_49_code
def yX6_addHouse : MethodName := ⟨RX6, "addHouse", "(IIII)I"⟩
abbrev cX6_houseCount : ByteArray := prog_8_method_50_code
def yX6_houseCount : MethodName := ⟨RX6, "houseCount", "()I"⟩
abbrev cX6_isNoHour : ByteArray := prog_8_method_51_code
def yX6_isNoHour : MethodName := ⟨RX6, "isNoHour", "(II)Z"⟩
abbrev cX6_worth : ByteArray := prog_8_method_52_code
def yX6_worth : MethodName := ⟨RX6, "worth", "(II)I"⟩
abbrev cX6_wasWet : ByteArray := prog_8_method_53_code
def yX6_wasWet : MethodName := ⟨RX6, "wasWet", "(II)Z"⟩
abbrev cX6_worthOf : ByteArray := prog_8_method_54_code
def yX6_worthOf : MethodName := ⟨RX6, "worthOf", "(II)I"⟩
abbrev cX6_pays : ByteArray := prog_8_method_55_code
def yX6_pays : MethodName := ⟨RX6, "pays", "(II)I"⟩
abbrev cX6_claim : ByteArray := prog_8_method_56_code
def yX6_claim : MethodName := ⟨RX6, "claim", "(II)I"⟩
abbrev cX6_claimWorst : ByteArray := prog_8_method_57_code
def yX6_claimWorst : MethodName := ⟨RX6, "claimWorst", "(I)I"⟩
abbrev cX6_claimCount : ByteArray := prog_8_method_58_code
def yX6_claimCount : MethodName := ⟨RX6, "claimCount", "(I)I"⟩
abbrev cX6_paidTo : ByteArray := prog_8_method_59_code
def yX6_paidTo : MethodName := ⟨RX6, "paidTo", "(I)I"⟩
abbrev cX6_allPaid : ByteArray := prog_8_method_60_code
def yX6_allPaid : MethodName := ⟨RX6, "allPaid", "()J"⟩
abbrev cX6_paidTotal : ByteArray := prog_8_method_61_code
def yX6_paidTotal : MethodName := ⟨RX6, "paidTotal", "()J"⟩
abbrev cX6_meanPayment : ByteArray := prog_8_method_62_code
def yX6_meanPayment : MethodName := ⟨RX6, "meanPayment", "()D"⟩
abbrev cX6_trial : ByteArray := prog_8_method_63_code
def yX6_trial : MethodName := ⟨RX6, "trial", "(II)I"⟩
abbrev cX6_floodedWith : ByteArray := prog_8_method_64_code
def yX6_floodedWith : MethodName := ⟨RX6, "floodedWith", "()I"⟩
abbrev cX6_floodedWithOpening : ByteArray := prog_8_method_65_code
def yX6_floodedWithOpening : MethodName := ⟨RX6, "floodedWithOpening", "(II)I"⟩
abbrev cX6_bestOpening : ByteArray := prog_8_method_66_code
def yX6_bestOpening : MethodName := ⟨RX6, "bestOpening", "(I)I"⟩
abbrev cX6_puts : ByteArray := prog_8_method_67_code
def yX6_puts : MethodName := ⟨RX6, "puts", "(C)V"⟩
abbrev cX6_putsNumber : ByteArray := prog_8_method_68_code
def yX6_putsNumber : MethodName := ⟨RX6, "putsNumber", "(I)V"⟩
abbrev cX6_writeRule : ByteArray := prog_8_method_69_code
def yX6_writeRule : MethodName := ⟨RX6, "writeRule", "(I)I"⟩
abbrev cX6_lineAt : ByteArray := prog_8_method_70_code
def yX6_lineAt : MethodName := ⟨RX6, "lineAt", "(I)C"⟩
def RJx145de : String := "java/io/Serializable"
def TJx145de : u_T := fun k => match k with
  | _ => ("", "", "", false)
def tyJx145de : Nat → FieldType := fun k => match k with
  | _ => .int
abbrev wsJx145de0 : List Cond := u_ws RJx145de TJx145de 0
theorem nmJx145de : ∀ a, a < 0 → ∀ b, b < 0 → a ≠ b → (TJx145de a).2.1 ≠ (TJx145de b).2.1 := by decide +kernel
theorem tyJx145de_ok : ∀ k, k < 0 → parseFieldDescriptor (TJx145de k).2.2.1 = some (tyJx145de k) := by decide +kernel
def RJ5 : String := "java/lang/AbstractStringBuilder"
def TJ5 : u_T := fun k => match k with
  | _ => ("", "", "", false)
def tyJ5 : Nat → FieldType := fun k => match k with
  | _ => .int
abbrev wsJ50 : List Cond := u_ws RJ5 TJ5 0
theorem nmJ5 : ∀ a, a < 0 → ∀ b, b < 0 → a ≠ b → (TJ5 a).2.1 ≠ (TJ5 b).2.1 := by decide +kernel
theorem tyJ5_ok : ∀ k, k < 0 → parseFieldDescriptor (TJ5 k).2.2.1 = some (tyJ5 k) := by decide +kernel
abbrev cJ5_init_d00df : ByteArray := prog_10_method_2_code
def yJ5_init_d00df : MethodName := ⟨RJ5, "<init>", "(I)V"⟩
abbrev cJ5_length_8abf5 : ByteArray := prog_10_method_6_code
def yJ5_length_8abf5 : MethodName := ⟨RJ5, "length", "()I"⟩
abbrev cJ5_ensureCapacityInternal_d00df : ByteArray := prog_10_method_9_code
def yJ5_ensureCapacityInternal_d00df : MethodName := ⟨RJ5, "ensureCapacityInternal", "(I)V"⟩
abbrev cJ5_newCapacity_0f7a4 : ByteArray := prog_10_method_10_code
def yJ5_newCapacity_0f7a4 : MethodName := ⟨RJ5, "newCapacity", "(I)I"⟩
abbrev cJ5_inflate_da8c8 : ByteArray := prog_10_method_11_code
def yJ5_inflate_da8c8 : MethodName := ⟨RJ5, "inflate", "()V"⟩
abbrev cJ5_setLength_d00df : ByteArray := prog_10_method_13_code
def yJ5_setLength_d00df : MethodName := ⟨RJ5, "setLength", "(I)V"⟩
abbrev cJ5_charAt_5068e : ByteArray := prog_10_method_14_code
def yJ5_charAt_5068e : MethodName := ⟨RJ5, "charAt", "(I)C"⟩
abbrev cJ5_append_cf1ce : ByteArray := prog_10_method_22_code
def yJ5_append_cf1ce : MethodName := ⟨RJ5, "append", "(Ljava/lang/String;)Ljava/lang/AbstractStringBuilder;"⟩
abbrev cJ5_appendNull_278bc : ByteArray := prog_10_method_26_code
def yJ5_appendNull_278bc : MethodName := ⟨RJ5, "appendNull", "()Ljava/lang/AbstractStringBuilder;"⟩
abbrev cJ5_append_3fe6f : ByteArray := prog_10_method_31_code
def yJ5_append_3fe6f : MethodName := ⟨RJ5, "append", "(C)Ljava/lang/AbstractStringBuilder;"⟩
abbrev cJ5_append_c97b9 : ByteArray := prog_10_method_32_code
def yJ5_append_c97b9 : MethodName := ⟨RJ5, "append", "(I)Ljava/lang/AbstractStringBuilder;"⟩
abbrev cJ5_getValue_6d5f1 : ByteArray := prog_10_method_64_code
def yJ5_getValue_6d5f1 : MethodName := ⟨RJ5, "getValue", "()[B"⟩
abbrev cJ5_isLatin1_aae02 : ByteArray := prog_10_method_68_code
def yJ5_isLatin1_aae02 : MethodName := ⟨RJ5, "isLatin1", "()Z"⟩
abbrev cJ5_inflateIfNeededFor_a7421 : ByteArray := prog_10_method_71_code
def yJ5_inflateIfNeededFor_a7421 : MethodName := ⟨RJ5, "inflateIfNeededFor", "(Ljava/lang/String;)V"⟩
abbrev cJ5_putStringAt_47b60 : ByteArray := prog_10_method_73_code
def yJ5_putStringAt_47b60 : MethodName := ⟨RJ5, "putStringAt", "(ILjava/lang/String;)V"⟩
def RJx2cfe8 : String := "java/lang/Appendable"
def TJx2cfe8 : u_T := fun k => match k with
  | _ => ("", "", "", false)
def tyJx2cfe8 : Nat → FieldType := fun k => match k with
  | _ => .int
abbrev wsJx2cfe80 : List Cond := u_ws RJx2cfe8 TJx2cfe8 0
theorem nmJx2cfe8 : ∀ a, a < 0 → ∀ b, b < 0 → a ≠ b → (TJx2cfe8 a).2.1 ≠ (TJx2cfe8 b).2.1 := by decide +kernel
theorem tyJx2cfe8_ok : ∀ k, k < 0 → parseFieldDescriptor (TJx2cfe8 k).2.2.1 = some (tyJx2cfe8 k) := by decide +kernel
def RJx00060 : String := "java/lang/ArrayIndexOutOfBoundsException"
def TJx00060 : u_T := fun k => match k with
  | 0 => ("java/lang/Throwable", "backtrace", "Ljava/lang/Object;", false)
  | 1 => ("java/lang/Throwable", "detailMessage", "Ljava/lang/String;", false)
  | 2 => ("java/lang/Throwable", "cause", "Ljava/lang/Throwable;", false)
  | 3 => ("java/lang/Throwable", "stackTrace", "[Ljava/lang/StackTraceElement;", false)
  | 4 => ("java/lang/Throwable", "depth", "I", false)
  | _ => ("java/lang/Throwable", "suppressedExceptions", "Ljava/util/List;", false)
def tyJx00060 : Nat → FieldType := fun k => match k with
  | 0 => .object "java/lang/Object"
  | 1 => .object "java/lang/String"
  | 2 => .object "java/lang/Throwable"
  | 3 => .array (.object "java/lang/StackTraceElement")
  | 4 => .int
  | _ => .object "java/util/List"
abbrev wsJx000600 : List Cond := u_ws RJx00060 TJx00060 6
theorem nmJx00060 : ∀ a, a < 6 → ∀ b, b < 6 → a ≠ b → (TJx00060 a).2.1 ≠ (TJx00060 b).2.1 := by decide +kernel
theorem tyJx00060_ok : ∀ k, k < 6 → parseFieldDescriptor (TJx00060 k).2.2.1 = some (tyJx00060 k) := by decide +kernel
abbrev cJx00060_init_a7421 : ByteArray := prog_13_method_2_code
def yJx00060_init_a7421 : MethodName := ⟨RJx00060, "<init>", "(Ljava/lang/String;)V"⟩
abbrev cJx00060_init_d00df : ByteArray := prog_13_method_3_code
def yJx00060_init_d00df : MethodName := ⟨RJx00060, "<init>", "(I)V"⟩
def RJx9f9b0 : String := "java/lang/CharSequence"
def TJx9f9b0 : u_T := fun k => match k with
  | _ => ("", "", "", false)
def tyJx9f9b0 : Nat → FieldType := fun k => match k with
  | _ => .int
abbrev wsJx9f9b00 : List Cond := u_ws RJx9f9b0 TJx9f9b0 0
theorem nmJx9f9b0 : ∀ a, a < 0 → ∀ b, b < 0 → a ≠ b → (TJx9f9b0 a).2.1 ≠ (TJx9f9b0 b).2.1 := by decide +kernel
theorem tyJx9f9b0_ok : ∀ k, k < 0 → parseFieldDescriptor (TJx9f9b0 k).2.2.1 = some (tyJx9f9b0 k) := by decide +kernel
def RJx8e188 : String := "java/lang/Cloneable"
def TJx8e188 : u_T := fun k => match k with
  | _ => ("", "", "", false)
def tyJx8e188 : Nat → FieldType := fun k => match k with
  | _ => .int
abbrev wsJx8e1880 : List Cond := u_ws RJx8e188 TJx8e188 0
theorem nmJx8e188 : ∀ a, a < 0 → ∀ b, b < 0 → a ≠ b → (TJx8e188 a).2.1 ≠ (TJx8e188 b).2.1 := by decide +kernel
theorem tyJx8e188_ok : ∀ k, k < 0 → parseFieldDescriptor (TJx8e188 k).2.2.1 = some (tyJx8e188 k) := by decide +kernel
def RJxb160c : String := "java/lang/Comparable"
def TJxb160c : u_T := fun k => match k with
  | _ => ("", "", "", false)
def tyJxb160c : Nat → FieldType := fun k => match k with
  | _ => .int
abbrev wsJxb160c0 : List Cond := u_ws RJxb160c TJxb160c 0
theorem nmJxb160c : ∀ a, a < 0 → ∀ b, b < 0 → a ≠ b → (TJxb160c a).2.1 ≠ (TJxb160c b).2.1 := by decide +kernel
theorem tyJxb160c_ok : ∀ k, k < 0 → parseFieldDescriptor (TJxb160c k).2.2.1 = some (tyJxb160c k) := by decide +kernel
def RJ6 : String := "java/lang/Integer"
def TJ6 : u_T := fun k => match k with
  | _ => ("", "", "", false)
def tyJ6 : Nat → FieldType := fun k => match k with
  | _ => .int
abbrev wsJ60 : List Cond := u_ws RJ6 TJ6 0
theorem nmJ6 : ∀ a, a < 0 → ∀ b, b < 0 → a ≠ b → (TJ6 a).2.1 ≠ (TJ6 b).2.1 := by decide +kernel
theorem tyJ6_ok : ∀ k, k < 0 → parseFieldDescriptor (TJ6 k).2.2.1 = some (tyJ6 k) := by decide +kernel
abbrev cJ6_getChars_ba4f3 : ByteArray := prog_21_method_12_code
def yJ6_getChars_ba4f3 : MethodName := ⟨RJ6, "getChars", "(II[B)I"⟩
abbrev cJ6_stringSize_0f7a4 : ByteArray := prog_21_method_13_code
def yJ6_stringSize_0f7a4 : MethodName := ⟨RJ6, "stringSize", "(I)I"⟩
def RJxab1ab : String := "java/lang/Iterable"
def TJxab1ab : u_T := fun k => match k with
  | _ => ("", "", "", false)
def tyJxab1ab : Nat → FieldType := fun k => match k with
  | _ => .int
abbrev wsJxab1ab0 : List Cond := u_ws RJxab1ab TJxab1ab 0
theorem nmJxab1ab : ∀ a, a < 0 → ∀ b, b < 0 → a ≠ b → (TJxab1ab a).2.1 ≠ (TJxab1ab b).2.1 := by decide +kernel
theorem tyJxab1ab_ok : ∀ k, k < 0 → parseFieldDescriptor (TJxab1ab k).2.2.1 = some (tyJxab1ab k) := by decide +kernel
def RJ9 : String := "java/lang/Math"
def TJ9 : u_T := fun k => match k with
  | _ => ("", "", "", false)
def tyJ9 : Nat → FieldType := fun k => match k with
  | _ => .int
abbrev wsJ90 : List Cond := u_ws RJ9 TJ9 0
theorem nmJ9 : ∀ a, a < 0 → ∀ b, b < 0 → a ≠ b → (TJ9 a).2.1 ≠ (TJ9 b).2.1 := by decide +kernel
theorem tyJ9_ok : ∀ k, k < 0 → parseFieldDescriptor (TJ9 k).2.2.1 = some (tyJ9 k) := by decide +kernel
abbrev cJ9_max_7cf53 : ByteArray := prog_23_method_65_code
def yJ9_max_7cf53 : MethodName := ⟨RJ9, "max", "(II)I"⟩
abbrev cJ9_min_7cf53 : ByteArray := prog_23_method_69_code
def yJ9_min_7cf53 : MethodName := ⟨RJ9, "min", "(II)I"⟩
def RJxd2413 : String := "java/lang/Number"
def TJxd2413 : u_T := fun k => match k with
  | _ => ("", "", "", false)
def tyJxd2413 : Nat → FieldType := fun k => match k with
  | _ => .int
abbrev wsJxd24130 : List Cond := u_ws RJxd2413 TJxd2413 0
theorem nmJxd2413 : ∀ a, a < 0 → ∀ b, b < 0 → a ≠ b → (TJxd2413 a).2.1 ≠ (TJxd2413 b).2.1 := by decide +kernel
theorem tyJxd2413_ok : ∀ k, k < 0 → parseFieldDescriptor (TJxd2413 k).2.2.1 = some (tyJxd2413 k) := by decide +kernel
def RJ0 : String := "java/lang/String"
def TJ0 : u_T := fun k => match k with
  | 0 => ("java/lang/String", "value", "[B", true)
  | 1 => ("java/lang/String", "coder", "B", true)
  | 2 => ("java/lang/String", "hash", "I", false)
  | _ => ("java/lang/String", "hashIsZero", "Z", false)
def tyJ0 : Nat → FieldType := fun k => match k with
  | 0 => .array .byte
  | 1 => .byte
  | 2 => .int
  | _ => .boolean
abbrev wsJ00 : List Cond := u_ws RJ0 TJ0 4
theorem nmJ0 : ∀ a, a < 4 → ∀ b, b < 4 → a ≠ b → (TJ0 a).2.1 ≠ (TJ0 b).2.1 := by decide +kernel
theorem tyJ0_ok : ∀ k, k < 4 → parseFieldDescriptor (TJ0 k).2.2.1 = some (tyJ0 k) := by decide +kernel
abbrev cJ0_init_81219 : ByteArray := prog_26_method_53_code
def yJ0_init_81219 : MethodName := ⟨RJ0, "<init>", "(Ljava/lang/StringBuilder;)V"⟩
abbrev cJ0_length_8abf5 : ByteArray := prog_26_method_54_code
def yJ0_length_8abf5 : MethodName := ⟨RJ0, "length", "()I"⟩
abbrev cJ0_getBytes_840e7 : ByteArray := prog_26_method_147_code
def yJ0_getBytes_840e7 : MethodName := ⟨RJ0, "getBytes", "([BIB)V"⟩
abbrev cJ0_init_db425 : ByteArray := prog_26_method_150_code
def yJ0_init_db425 : MethodName := ⟨RJ0, "<init>", "(Ljava/lang/AbstractStringBuilder;Ljava/lang/Void;)V"⟩
abbrev cJ0_coder_7d493 : ByteArray := prog_26_method_152_code
def yJ0_coder_7d493 : MethodName := ⟨RJ0, "coder", "()B"⟩
abbrev cJ0_checkIndex_df160 : ByteArray := prog_26_method_155_code
def yJ0_checkIndex_df160 : MethodName := ⟨RJ0, "checkIndex", "(II)V"⟩
abbrev cJ0_checkBoundsOffCount_cabcc : ByteArray := prog_26_method_157_code
def yJ0_checkBoundsOffCount_cabcc : MethodName := ⟨RJ0, "checkBoundsOffCount", "(III)I"⟩
abbrev cJ0_checkBoundsBeginEnd_23922 : ByteArray := prog_26_method_158_code
def yJ0_checkBoundsBeginEnd_23922 : MethodName := ⟨RJ0, "checkBoundsBeginEnd", "(III)V"⟩
def RJ4 : String := "java/lang/StringBuilder"
def TJ4 : u_T := fun k => match k with
  | 0 => ("java/lang/AbstractStringBuilder", "value", "[B", false)
  | 1 => ("java/lang/AbstractStringBuilder", "coder", "B", false)
  | 2 => ("java/lang/AbstractStringBuilder", "maybeLatin1", "Z", false)
  | _ => ("java/lang/AbstractStringBuilder", "count", "I", false)
def tyJ4 : Nat → FieldType := fun k => match k with
  | 0 => .array .byte
  | 1 => .byte
  | 2 => .boolean
  | _ => .int
abbrev wsJ40 : List Cond := u_ws RJ4 TJ4 4
theorem nmJ4 : ∀ a, a < 4 → ∀ b, b < 4 → a ≠ b → (TJ4 a).2.1 ≠ (TJ4 b).2.1 := by decide +kernel
theorem tyJ4_ok : ∀ k, k < 4 → parseFieldDescriptor (TJ4 k).2.2.1 = some (tyJ4 k) := by decide +kernel
abbrev cJ4_init_da8c8 : ByteArray := prog_27_method_1_code
def yJ4_init_da8c8 : MethodName := ⟨RJ4, "<init>", "()V"⟩
abbrev cJ4_append_15ec4 : ByteArray := prog_27_method_7_code
def yJ4_append_15ec4 : MethodName := ⟨RJ4, "append", "(Ljava/lang/String;)Ljava/lang/StringBuilder;"⟩
abbrev cJ4_append_cf468 : ByteArray := prog_27_method_14_code
def yJ4_append_cf468 : MethodName := ⟨RJ4, "append", "(C)Ljava/lang/StringBuilder;"⟩
abbrev cJ4_append_bf812 : ByteArray := prog_27_method_15_code
def yJ4_append_bf812 : MethodName := ⟨RJ4, "append", "(I)Ljava/lang/StringBuilder;"⟩
abbrev cJ4_toString_0e30d : ByteArray := prog_27_method_42_code
def yJ4_toString_0e30d : MethodName := ⟨RJ4, "toString", "()Ljava/lang/String;"⟩
abbrev cJ4_charAt_5068e : ByteArray := prog_27_method_88_code
def yJ4_charAt_5068e : MethodName := ⟨RJ4, "charAt", "(I)C"⟩
abbrev cJ4_setLength_d00df : ByteArray := prog_27_method_89_code
def yJ4_setLength_d00df : MethodName := ⟨RJ4, "setLength", "(I)V"⟩
abbrev cJ4_length_8abf5 : ByteArray := prog_27_method_93_code
def yJ4_length_8abf5 : MethodName := ⟨RJ4, "length", "()I"⟩
def RJx7c733 : String := "java/lang/StringIndexOutOfBoundsException"
def TJx7c733 : u_T := fun k => match k with
  | 0 => ("java/lang/Throwable", "backtrace", "Ljava/lang/Object;", false)
  | 1 => ("java/lang/Throwable", "detailMessage", "Ljava/lang/String;", false)
  | 2 => ("java/lang/Throwable", "cause", "Ljava/lang/Throwable;", false)
  | 3 => ("java/lang/Throwable", "stackTrace", "[Ljava/lang/StackTraceElement;", false)
  | 4 => ("java/lang/Throwable", "depth", "I", false)
  | _ => ("java/lang/Throwable", "suppressedExceptions", "Ljava/util/List;", false)
def tyJx7c733 : Nat → FieldType := fun k => match k with
  | 0 => .object "java/lang/Object"
  | 1 => .object "java/lang/String"
  | 2 => .object "java/lang/Throwable"
  | 3 => .array (.object "java/lang/StackTraceElement")
  | 4 => .int
  | _ => .object "java/util/List"
abbrev wsJx7c7330 : List Cond := u_ws RJx7c733 TJx7c733 6
theorem nmJx7c733 : ∀ a, a < 6 → ∀ b, b < 6 → a ≠ b → (TJx7c733 a).2.1 ≠ (TJx7c733 b).2.1 := by decide +kernel
theorem tyJx7c733_ok : ∀ k, k < 6 → parseFieldDescriptor (TJx7c733 k).2.2.1 = some (tyJx7c733 k) := by decide +kernel
abbrev cJx7c733_init_d00df : ByteArray := prog_28_method_3_code
def yJx7c733_init_d00df : MethodName := ⟨RJx7c733, "<init>", "(I)V"⟩
def RJ1 : String := "java/lang/StringLatin1"
def TJ1 : u_T := fun k => match k with
  | _ => ("", "", "", false)
def tyJ1 : Nat → FieldType := fun k => match k with
  | _ => .int
abbrev wsJ10 : List Cond := u_ws RJ1 TJ1 0
theorem nmJ1 : ∀ a, a < 0 → ∀ b, b < 0 → a ≠ b → (TJ1 a).2.1 ≠ (TJ1 b).2.1 := by decide +kernel
theorem tyJ1_ok : ∀ k, k < 0 → parseFieldDescriptor (TJ1 k).2.2.1 = some (tyJ1 k) := by decide +kernel
abbrev cJ1_canEncode_fc78d : ByteArray := prog_29_method_3_code
def yJ1_canEncode_fc78d : MethodName := ⟨RJ1, "canEncode", "(C)Z"⟩
abbrev cJ1_fillNull_b72d1 : ByteArray := prog_29_method_48_code
def yJ1_fillNull_b72d1 : MethodName := ⟨RJ1, "fillNull", "([BII)V"⟩
abbrev cJ1_inflate_0e8fd : ByteArray := prog_29_method_50_code
def yJ1_inflate_0e8fd : MethodName := ⟨RJ1, "inflate", "([BI[BII)V"⟩
def RJ2 : String := "java/lang/StringUTF16"
def TJ2 : u_T := fun k => match k with
  | _ => ("", "", "", false)
def tyJ2 : Nat → FieldType := fun k => match k with
  | _ => .int
abbrev wsJ20 : List Cond := u_ws RJ2 TJ2 0
theorem nmJ2 : ∀ a, a < 0 → ∀ b, b < 0 → a ≠ b → (TJ2 a).2.1 ≠ (TJ2 b).2.1 := by decide +kernel
theorem tyJ2_ok : ∀ k, k < 0 → parseFieldDescriptor (TJ2 k).2.2.1 = some (tyJ2 k) := by decide +kernel
abbrev cJ2_newBytesFor_77867 : ByteArray := prog_30_method_2_code
def yJ2_newBytesFor_77867 : MethodName := ⟨RJ2, "newBytesFor", "(I)[B"⟩
abbrev cJ2_newBytesLength_0f7a4 : ByteArray := prog_30_method_3_code
def yJ2_newBytesLength_0f7a4 : MethodName := ⟨RJ2, "newBytesLength", "(I)I"⟩
abbrev cJ2_putChar_b72d1 : ByteArray := prog_30_method_4_code
def yJ2_putChar_b72d1 : MethodName := ⟨RJ2, "putChar", "([BII)V"⟩
abbrev cJ2_getChar_3b067 : ByteArray := prog_30_method_5_code
def yJ2_getChar_3b067 : MethodName := ⟨RJ2, "getChar", "([BI)C"⟩
abbrev cJ2_length_9d52b : ByteArray := prog_30_method_6_code
def yJ2_length_9d52b : MethodName := ⟨RJ2, "length", "([B)I"⟩
abbrev cJ2_coderFromArrayLen_85cad : ByteArray := prog_30_method_15_code
def yJ2_coderFromArrayLen_85cad : MethodName := ⟨RJ2, "coderFromArrayLen", "([BI)B"⟩
abbrev cJ2_compress_39247 : ByteArray := prog_30_method_17_code
def yJ2_compress_39247 : MethodName := ⟨RJ2, "compress", "([BII)[B"⟩
abbrev cJ2_compress_5af95 : ByteArray := prog_30_method_22_code
def yJ2_compress_5af95 : MethodName := ⟨RJ2, "compress", "([BI[BII)I"⟩
abbrev cJ2_fillNull_b72d1 : ByteArray := prog_30_method_70_code
def yJ2_fillNull_b72d1 : MethodName := ⟨RJ2, "fillNull", "([BII)V"⟩
abbrev cJ2_putCharSB_b72d1 : ByteArray := prog_30_method_71_code
def yJ2_putCharSB_b72d1 : MethodName := ⟨RJ2, "putCharSB", "([BII)V"⟩
abbrev cJ2_getChars_46870 : ByteArray := prog_30_method_77_code
def yJ2_getChars_46870 : MethodName := ⟨RJ2, "getChars", "(III[B)I"⟩
abbrev cJ2_putCharsAt_cd4e5 : ByteArray := prog_30_method_81_code
def yJ2_putCharsAt_cd4e5 : MethodName := ⟨RJ2, "putCharsAt", "([BICCCC)I"⟩
abbrev cJ2_inflate_0e8fd : ByteArray := prog_30_method_86_code
def yJ2_inflate_0e8fd : MethodName := ⟨RJ2, "inflate", "([BI[BII)V"⟩
abbrev cJ2_getChars_ba4f3 : ByteArray := prog_30_method_89_code
def yJ2_getChars_ba4f3 : MethodName := ⟨RJ2, "getChars", "(II[B)I"⟩
abbrev cJ2_checkIndex_2214a : ByteArray := prog_30_method_91_code
def yJ2_checkIndex_2214a : MethodName := ⟨RJ2, "checkIndex", "(I[B)V"⟩
abbrev cJ2_checkBoundsBeginEnd_d044e : ByteArray := prog_30_method_93_code
def yJ2_checkBoundsBeginEnd_d044e : MethodName := ⟨RJ2, "checkBoundsBeginEnd", "(II[B)V"⟩
abbrev cJ2_checkBoundsOffCount_d044e : ByteArray := prog_30_method_94_code
def yJ2_checkBoundsOffCount_d044e : MethodName := ⟨RJ2, "checkBoundsOffCount", "(II[B)V"⟩
def RJ10 : String := "java/lang/System"
def TJ10 : u_T := fun k => match k with
  | _ => ("", "", "", false)
def tyJ10 : Nat → FieldType := fun k => match k with
  | _ => .int
abbrev wsJ100 : List Cond := u_ws RJ10 TJ10 0
theorem nmJ10 : ∀ a, a < 0 → ∀ b, b < 0 → a ≠ b → (TJ10 a).2.1 ≠ (TJ10 b).2.1 := by decide +kernel
theorem tyJ10_ok : ∀ k, k < 0 → parseFieldDescriptor (TJ10 k).2.2.1 = some (tyJ10 k) := by decide +kernel
def RJxfd54e : String := "java/lang/constant/Constable"
def TJxfd54e : u_T := fun k => match k with
  | _ => ("", "", "", false)
def tyJxfd54e : Nat → FieldType := fun k => match k with
  | _ => .int
abbrev wsJxfd54e0 : List Cond := u_ws RJxfd54e TJxfd54e 0
theorem nmJxfd54e : ∀ a, a < 0 → ∀ b, b < 0 → a ≠ b → (TJxfd54e a).2.1 ≠ (TJxfd54e b).2.1 := by decide +kernel
theorem tyJxfd54e_ok : ∀ k, k < 0 → parseFieldDescriptor (TJxfd54e k).2.2.1 = some (tyJxfd54e k) := by decide +kernel
def RJx3cf43 : String := "java/lang/constant/ConstantDesc"
def TJx3cf43 : u_T := fun k => match k with
  | _ => ("", "", "", false)
def tyJx3cf43 : Nat → FieldType := fun k => match k with
  | _ => .int
abbrev wsJx3cf430 : List Cond := u_ws RJx3cf43 TJx3cf43 0
theorem nmJx3cf43 : ∀ a, a < 0 → ∀ b, b < 0 → a ≠ b → (TJx3cf43 a).2.1 ≠ (TJx3cf43 b).2.1 := by decide +kernel
theorem tyJx3cf43_ok : ∀ k, k < 0 → parseFieldDescriptor (TJx3cf43 k).2.2.1 = some (tyJx3cf43 k) := by decide +kernel
def RJxa1e45 : String := "java/util/AbstractCollection"
def TJxa1e45 : u_T := fun k => match k with
  | _ => ("", "", "", false)
def tyJxa1e45 : Nat → FieldType := fun k => match k with
  | _ => .int
abbrev wsJxa1e450 : List Cond := u_ws RJxa1e45 TJxa1e45 0
theorem nmJxa1e45 : ∀ a, a < 0 → ∀ b, b < 0 → a ≠ b → (TJxa1e45 a).2.1 ≠ (TJxa1e45 b).2.1 := by decide +kernel
theorem tyJxa1e45_ok : ∀ k, k < 0 → parseFieldDescriptor (TJxa1e45 k).2.2.1 = some (tyJxa1e45 k) := by decide +kernel
abbrev cJxa1e45_init_da8c8 : ByteArray := prog_36_method_1_code
def yJxa1e45_init_da8c8 : MethodName := ⟨RJxa1e45, "<init>", "()V"⟩
def RJxc12de : String := "java/util/AbstractList"
def TJxc12de : u_T := fun k => match k with
  | _ => ("", "", "", false)
def tyJxc12de : Nat → FieldType := fun k => match k with
  | _ => .int
abbrev wsJxc12de0 : List Cond := u_ws RJxc12de TJxc12de 0
theorem nmJxc12de : ∀ a, a < 0 → ∀ b, b < 0 → a ≠ b → (TJxc12de a).2.1 ≠ (TJxc12de b).2.1 := by decide +kernel
theorem tyJxc12de_ok : ∀ k, k < 0 → parseFieldDescriptor (TJxc12de k).2.2.1 = some (tyJxc12de k) := by decide +kernel
abbrev cJxc12de_init_da8c8 : ByteArray := prog_37_method_1_code
def yJxc12de_init_da8c8 : MethodName := ⟨RJxc12de, "<init>", "()V"⟩
def RJx4a65c : String := "java/util/ArrayList"
def TJx4a65c : u_T := fun k => match k with
  | 0 => ("java/util/AbstractList", "modCount", "I", false)
  | 1 => ("java/util/ArrayList", "elementData", "[Ljava/lang/Object;", false)
  | _ => ("java/util/ArrayList", "size", "I", false)
def tyJx4a65c : Nat → FieldType := fun k => match k with
  | 0 => .int
  | 1 => .array (.object "java/lang/Object")
  | _ => .int
abbrev wsJx4a65c0 : List Cond := u_ws RJx4a65c TJx4a65c 3
theorem nmJx4a65c : ∀ a, a < 3 → ∀ b, b < 3 → a ≠ b → (TJx4a65c a).2.1 ≠ (TJx4a65c b).2.1 := by decide +kernel
theorem tyJx4a65c_ok : ∀ k, k < 3 → parseFieldDescriptor (TJx4a65c k).2.2.1 = some (tyJx4a65c k) := by decide +kernel
abbrev cJx4a65c_init_da8c8 : ByteArray := prog_38_method_2_code
def yJx4a65c_init_da8c8 : MethodName := ⟨RJx4a65c, "<init>", "()V"⟩
abbrev cJx4a65c_grow_92f84 : ByteArray := prog_38_method_6_code
def yJx4a65c_grow_92f84 : MethodName := ⟨RJx4a65c, "grow", "(I)[Ljava/lang/Object;"⟩
abbrev cJx4a65c_grow_d5877 : ByteArray := prog_38_method_7_code
def yJx4a65c_grow_d5877 : MethodName := ⟨RJx4a65c, "grow", "()[Ljava/lang/Object;"⟩
abbrev cJx4a65c_size_8abf5 : ByteArray := prog_38_method_8_code
def yJx4a65c_size_8abf5 : MethodName := ⟨RJx4a65c, "size", "()I"⟩
abbrev cJx4a65c_isEmpty_aae02 : ByteArray := prog_38_method_9_code
def yJx4a65c_isEmpty_aae02 : MethodName := ⟨RJx4a65c, "isEmpty", "()Z"⟩
abbrev cJx4a65c_elementData_915e3 : ByteArray := prog_38_method_18_code
def yJx4a65c_elementData_915e3 : MethodName := ⟨RJx4a65c, "elementData", "(I)Ljava/lang/Object;"⟩
abbrev cJx4a65c_get_915e3 : ByteArray := prog_38_method_20_code
def yJx4a65c_get_915e3 : MethodName := ⟨RJx4a65c, "get", "(I)Ljava/lang/Object;"⟩
abbrev cJx4a65c_add_72be8 : ByteArray := prog_38_method_24_code
def yJx4a65c_add_72be8 : MethodName := ⟨RJx4a65c, "add", "(Ljava/lang/Object;[Ljava/lang/Object;I)V"⟩
abbrev cJx4a65c_add_9ea2d : ByteArray := prog_38_method_25_code
def yJx4a65c_add_9ea2d : MethodName := ⟨RJx4a65c, "add", "(Ljava/lang/Object;)Z"⟩
abbrev cJx4a65c_remove_915e3 : ByteArray := prog_38_method_29_code
def yJx4a65c_remove_915e3 : MethodName := ⟨RJx4a65c, "remove", "(I)Ljava/lang/Object;"⟩
abbrev cJx4a65c_fastRemove_b59b0 : ByteArray := prog_38_method_39_code
def yJx4a65c_fastRemove_b59b0 : MethodName := ⟨RJx4a65c, "fastRemove", "([Ljava/lang/Object;I)V"⟩
def RJ7 : String := "java/util/Arrays"
def TJ7 : u_T := fun k => match k with
  | _ => ("", "", "", false)
def tyJ7 : Nat → FieldType := fun k => match k with
  | _ => .int
abbrev wsJ70 : List Cond := u_ws RJ7 TJ7 0
theorem nmJ7 : ∀ a, a < 0 → ∀ b, b < 0 → a ≠ b → (TJ7 a).2.1 ≠ (TJ7 b).2.1 := by decide +kernel
theorem tyJ7_ok : ∀ k, k < 0 → parseFieldDescriptor (TJ7 k).2.2.1 = some (tyJ7 k) := by decide +kernel
abbrev cJ7_rangeCheck_23922 : ByteArray := prog_39_method_30_code
def yJ7_rangeCheck_23922 : MethodName := ⟨RJ7, "rangeCheck", "(III)V"⟩
abbrev cJ7_fill_53178 : ByteArray := prog_39_method_103_code
def yJ7_fill_53178 : MethodName := ⟨RJ7, "fill", "([II)V"⟩
abbrev cJ7_fill_eb02e : ByteArray := prog_39_method_110_code
def yJ7_fill_eb02e : MethodName := ⟨RJ7, "fill", "([BIIB)V"⟩
abbrev cJ7_copyOf_1904c : ByteArray := prog_39_method_119_code
def yJ7_copyOf_1904c : MethodName := ⟨RJ7, "copyOf", "([Ljava/lang/Object;I)[Ljava/lang/Object;"⟩
abbrev cJ7_copyOf_6403c : ByteArray := prog_39_method_120_code
def yJ7_copyOf_6403c : MethodName := ⟨RJ7, "copyOf", "([Ljava/lang/Object;ILjava/lang/Class;)[Ljava/lang/Object;"⟩
abbrev cJ7_copyOf_9075b : ByteArray := prog_39_method_121_code
def yJ7_copyOf_9075b : MethodName := ⟨RJ7, "copyOf", "([BI)[B"⟩
abbrev cJ7_checkLength_df160 : ByteArray := prog_39_method_131_code
def yJ7_checkLength_df160 : MethodName := ⟨RJ7, "checkLength", "(II)V"⟩
abbrev cJ7_copyOfRange_39247 : ByteArray := prog_39_method_132_code
def yJ7_copyOfRange_39247 : MethodName := ⟨RJ7, "copyOfRange", "([BII)[B"⟩
abbrev cJ7_copyOfRangeByte_39247 : ByteArray := prog_39_method_133_code
def yJ7_copyOfRangeByte_39247 : MethodName := ⟨RJ7, "copyOfRangeByte", "([BII)[B"⟩
def RJx5ef63 : String := "java/util/Collection"
def TJx5ef63 : u_T := fun k => match k with
  | _ => ("", "", "", false)
def tyJx5ef63 : Nat → FieldType := fun k => match k with
  | _ => .int
abbrev wsJx5ef630 : List Cond := u_ws RJx5ef63 TJx5ef63 0
theorem nmJx5ef63 : ∀ a, a < 0 → ∀ b, b < 0 → a ≠ b → (TJx5ef63 a).2.1 ≠ (TJx5ef63 b).2.1 := by decide +kernel
theorem tyJx5ef63_ok : ∀ k, k < 0 → parseFieldDescriptor (TJx5ef63 k).2.2.1 = some (tyJx5ef63 k) := by decide +kernel
def RJxbd725 : String := "java/util/List"
def TJxbd725 : u_T := fun k => match k with
  | _ => ("", "", "", false)
def tyJxbd725 : Nat → FieldType := fun k => match k with
  | _ => .int
abbrev wsJxbd7250 : List Cond := u_ws RJxbd725 TJxbd725 0
theorem nmJxbd725 : ∀ a, a < 0 → ∀ b, b < 0 → a ≠ b → (TJxbd725 a).2.1 ≠ (TJxbd725 b).2.1 := by decide +kernel
theorem tyJxbd725_ok : ∀ k, k < 0 → parseFieldDescriptor (TJxbd725 k).2.2.1 = some (tyJxbd725 k) := by decide +kernel
def RJ15 : String := "java/util/Objects"
def TJ15 : u_T := fun k => match k with
  | _ => ("", "", "", false)
def tyJ15 : Nat → FieldType := fun k => match k with
  | _ => .int
abbrev wsJ150 : List Cond := u_ws RJ15 TJ15 0
theorem nmJ15 : ∀ a, a < 0 → ∀ b, b < 0 → a ≠ b → (TJ15 a).2.1 ≠ (TJ15 b).2.1 := by decide +kernel
theorem tyJ15_ok : ∀ k, k < 0 → parseFieldDescriptor (TJ15 k).2.2.1 = some (tyJ15 k) := by decide +kernel
abbrev cJ15_checkIndex_7cf53 : ByteArray := prog_43_method_17_code
def yJ15_checkIndex_7cf53 : MethodName := ⟨RJ15, "checkIndex", "(II)I"⟩
def RJxf0a74 : String := "java/util/RandomAccess"
def TJxf0a74 : u_T := fun k => match k with
  | _ => ("", "", "", false)
def tyJxf0a74 : Nat → FieldType := fun k => match k with
  | _ => .int
abbrev wsJxf0a740 : List Cond := u_ws RJxf0a74 TJxf0a74 0
theorem nmJxf0a74 : ∀ a, a < 0 → ∀ b, b < 0 → a ≠ b → (TJxf0a74 a).2.1 ≠ (TJxf0a74 b).2.1 := by decide +kernel
theorem tyJxf0a74_ok : ∀ k, k < 0 → parseFieldDescriptor (TJxf0a74 k).2.2.1 = some (tyJxf0a74 k) := by decide +kernel
def RJxa66e6 : String := "java/util/SequencedCollection"
def TJxa66e6 : u_T := fun k => match k with
  | _ => ("", "", "", false)
def tyJxa66e6 : Nat → FieldType := fun k => match k with
  | _ => .int
abbrev wsJxa66e60 : List Cond := u_ws RJxa66e6 TJxa66e6 0
theorem nmJxa66e6 : ∀ a, a < 0 → ∀ b, b < 0 → a ≠ b → (TJxa66e6 a).2.1 ≠ (TJxa66e6 b).2.1 := by decide +kernel
theorem tyJxa66e6_ok : ∀ k, k < 0 → parseFieldDescriptor (TJxa66e6 k).2.2.1 = some (tyJxa66e6 k) := by decide +kernel
def RJ8 : String := "jdk/internal/util/ArraysSupport"
def TJ8 : u_T := fun k => match k with
  | _ => ("", "", "", false)
def tyJ8 : Nat → FieldType := fun k => match k with
  | _ => .int
abbrev wsJ80 : List Cond := u_ws RJ8 TJ8 0
theorem nmJ8 : ∀ a, a < 0 → ∀ b, b < 0 → a ≠ b → (TJ8 a).2.1 ≠ (TJ8 b).2.1 := by decide +kernel
theorem tyJ8_ok : ∀ k, k < 0 → parseFieldDescriptor (TJ8 k).2.2.1 = some (tyJ8 k) := by decide +kernel
abbrev cJ8_newLength_cabcc : ByteArray := prog_46_method_27_code
def yJ8_newLength_cabcc : MethodName := ⟨RJ8, "newLength", "(III)I"⟩
abbrev cJ8_hugeLength_7cf53 : ByteArray := prog_46_method_28_code
def yJ8_hugeLength_7cf53 : MethodName := ⟨RJ8, "hugeLength", "(II)I"⟩
def RJ3 : String := "jdk/internal/util/Preconditions"
def TJ3 : u_T := fun k => match k with
  | _ => ("", "", "", false)
def tyJ3 : Nat → FieldType := fun k => match k with
  | _ => .int
abbrev wsJ30 : List Cond := u_ws RJ3 TJ3 0
theorem nmJ3 : ∀ a, a < 0 → ∀ b, b < 0 → a ≠ b → (TJ3 a).2.1 ≠ (TJ3 b).2.1 := by decide +kernel
theorem tyJ3_ok : ∀ k, k < 0 → parseFieldDescriptor (TJ3 k).2.2.1 = some (tyJ3 k) := by decide +kernel
abbrev cJ3_checkIndex_8e157 : ByteArray := prog_47_method_11_code
def yJ3_checkIndex_8e157 : MethodName := ⟨RJ3, "checkIndex", "(IILjava/util/function/BiFunction;)I"⟩
abbrev cJ3_checkFromToIndex_8c36e : ByteArray := prog_47_method_12_code
def yJ3_checkFromToIndex_8c36e : MethodName := ⟨RJ3, "checkFromToIndex", "(IIILjava/util/function/BiFunction;)I"⟩
abbrev cJ3_checkFromIndexSize_8c36e : ByteArray := prog_47_method_13_code
def yJ3_checkFromIndexSize_8c36e : MethodName := ⟨RJ3, "checkFromIndexSize", "(IIILjava/util/function/BiFunction;)I"⟩
def RL : String := "StormBasinLaw"
abbrev cL_addBasin : ByteArray := method_3_code
def yL_addBasin : MethodName := ⟨RL, "addBasin", "(LStormBasin;IIIII[J)I"⟩
abbrev cL_addCell : ByteArray := method_4_code
def yL_addCell : MethodName := ⟨RL, "addCell", "(LStormBasin;II[J)I"⟩
abbrev cL_cellCount : ByteArray := method_5_code
def yL_cellCount : MethodName := ⟨RL, "cellCount", "(LStormBasin;I[J)I"⟩
abbrev cL_capacityOf : ByteArray := method_6_code
def yL_capacityOf : MethodName := ⟨RL, "capacityOf", "(LStormBasin;I[J)I"⟩
abbrev cL_setHand : ByteArray := method_7_code
def yL_setHand : MethodName := ⟨RL, "setHand", "(LStormBasin;II[J)I"⟩
abbrev cL_addRule : ByteArray := method_8_code
def yL_addRule : MethodName := ⟨RL, "addRule", "(LStormBasin;IIZII[J)I"⟩
abbrev cL_removeRule : ByteArray := method_9_code
def yL_removeRule : MethodName := ⟨RL, "removeRule", "(LStormBasin;I[J)I"⟩
abbrev cL_doesHold : ByteArray := method_10_code
def yL_doesHold : MethodName := ⟨RL, "doesHold", "(LStormBasin;I[J)I"⟩
abbrev cL_openingNow : ByteArray := method_11_code
def yL_openingNow : MethodName := ⟨RL, "openingNow", "(LStormBasin;I[J)I"⟩
abbrev cL_setRain : ByteArray := method_12_code
def yL_setRain : MethodName := ⟨RL, "setRain", "(LStormBasin;II[J)I"⟩
abbrev cL_pass : ByteArray := method_13_code
def yL_pass : MethodName := ⟨RL, "pass", "(LStormBasin;I[J)I"⟩
abbrev cL_volumeOf : ByteArray := method_14_code
def yL_volumeOf : MethodName := ⟨RL, "volumeOf", "(LStormBasin;I[J)I"⟩
abbrev cL_levelOf : ByteArray := method_15_code
def yL_levelOf : MethodName := ⟨RL, "levelOf", "(LStormBasin;I[J)I"⟩
abbrev cL_streetVolume : ByteArray := method_16_code
def yL_streetVolume : MethodName := ⟨RL, "streetVolume", "(LStormBasin;I[J)I"⟩
abbrev cL_depthAt : ByteArray := method_17_code
def yL_depthAt : MethodName := ⟨RL, "depthAt", "(LStormBasin;II[J)I"⟩
abbrev cL_depthByPouring : ByteArray := method_18_code
def yL_depthByPouring : MethodName := ⟨RL, "depthByPouring", "(LStormBasin;II[J)I"⟩
abbrev cL_depthThen : ByteArray := method_19_code
def yL_depthThen : MethodName := ⟨RL, "depthThen", "(LStormBasin;III[J)I"⟩
abbrev cL_wetCells : ByteArray := method_20_code
def yL_wetCells : MethodName := ⟨RL, "wetCells", "(LStormBasin;I[J)I"⟩
abbrev cL_wetHours : ByteArray := method_21_code
def yL_wetHours : MethodName := ⟨RL, "wetHours", "(LStormBasin;II[J)I"⟩
abbrev cL_addHouse : ByteArray := method_22_code
def yL_addHouse : MethodName := ⟨RL, "addHouse", "(LStormBasin;IIII[J)I"⟩
abbrev cL_wasWet : ByteArray := method_23_code
def yL_wasWet : MethodName := ⟨RL, "wasWet", "(LStormBasin;II[J)I"⟩
abbrev cL_worthOf : ByteArray := method_24_code
def yL_worthOf : MethodName := ⟨RL, "worthOf", "(LStormBasin;II[J)I"⟩
abbrev cL_claim : ByteArray := method_25_code
def yL_claim : MethodName := ⟨RL, "claim", "(LStormBasin;II[J)I"⟩
abbrev cL_claimWorst : ByteArray := method_26_code
def yL_claimWorst : MethodName := ⟨RL, "claimWorst", "(LStormBasin;I[J)I"⟩
abbrev cL_claimCount : ByteArray := method_27_code
def yL_claimCount : MethodName := ⟨RL, "claimCount", "(LStormBasin;I[J)I"⟩
abbrev cL_paidTo : ByteArray := method_28_code
def yL_paidTo : MethodName := ⟨RL, "paidTo", "(LStormBasin;I[J)I"⟩
abbrev cL_meanPayment : ByteArray := method_29_code
def yL_meanPayment : MethodName := ⟨RL, "meanPayment", "(LStormBasin;[D)I"⟩
abbrev cL_floodedWithOpening : ByteArray := method_30_code
def yL_floodedWithOpening : MethodName := ⟨RL, "floodedWithOpening", "(LStormBasin;II[J)I"⟩
abbrev cL_bestOpening : ByteArray := method_31_code
def yL_bestOpening : MethodName := ⟨RL, "bestOpening", "(LStormBasin;I[J)I"⟩
abbrev cL_writeRule : ByteArray := method_32_code
def yL_writeRule : MethodName := ⟨RL, "writeRule", "(LStormBasin;I[J)I"⟩
abbrev cL_lineAt : ByteArray := method_33_code
def yL_lineAt : MethodName := ⟨RL, "lineAt", "(LStormBasin;I[J)I"⟩
abbrev cL_law : ByteArray := code
def yL_law : MethodName := ⟨RL, "law", "([I)Z"⟩
abbrev vwCl : List vw_C := [(RJ0, TJ0, 4), (RJ4, TJ4, 4), (RJx00060, TJx00060, 6), (RJx7c733, TJx7c733, 6), (RJx4a65c, TJx4a65c, 3), (RX0, TX0, 8), (RX1, TX1, 7), (RX2, TX2, 5), (RX3, TX3, 5), (RX4, TX4, 4), (RX5, TX5, 9), (RX6, TX6, 38)]
end
section
theorem dX0_init_0 : decode cX0_init 0 = .ok (.aload_n 0, 1) := by decide +kernel
theorem dX0_init_1 : decode cX0_init 1 = .ok (.invokespecial 3, 3) := by decide +kernel
theorem dX0_init_4 : decode cX0_init 4 = .ok (.aload_n 0, 1) := by decide +kernel
theorem dX0_init_5 : decode cX0_init 5 = .ok (.iload_n 1, 1) := by decide +kernel
theorem dX0_init_6 : decode cX0_init 6 = .ok (.putfield 9, 3) := by decide +kernel
theorem dX0_init_9 : decode cX0_init 9 = .ok (.aload_n 0, 1) := by decide +kernel
theorem dX0_init_10 : decode cX0_init 10 = .ok (.iload_n 2, 1) := by decide +kernel
theorem dX0_init_11 : decode cX0_init 11 = .ok (.putfield 15, 3) := by decide +kernel
theorem dX0_init_14 : decode cX0_init 14 = .ok (.aload_n 0, 1) := by decide +kernel
theorem dX0_init_15 : decode cX0_init 15 = .ok (.iload_n 3, 1) := by decide +kernel
theorem dX0_init_16 : decode cX0_init 16 = .ok (.putfield 18, 3) := by decide +kernel
theorem dX0_init_19 : decode cX0_init 19 = .ok (.aload_n 0, 1) := by decide +kernel
theorem dX0_init_20 : decode cX0_init 20 = .ok (.iload 4, 2) := by decide +kernel
theorem dX0_init_22 : decode cX0_init 22 = .ok (.putfield 21, 3) := by decide +kernel
theorem dX0_init_25 : decode cX0_init 25 = .ok (.aload_n 0, 1) := by decide +kernel
theorem dX0_init_26 : decode cX0_init 26 = .ok (.new 24, 3) := by decide +kernel
theorem dX0_init_29 : decode cX0_init 29 = .ok (.dup, 1) := by decide +kernel
theorem dX0_init_30 : decode cX0_init 30 = .ok (.iload 5, 2) := by decide +kernel
theorem dX0_init_32 : decode cX0_init 32 = .ok (.invokespecial 26, 3) := by decide +kernel
theorem dX0_init_35 : decode cX0_init 35 = .ok (.putfield 29, 3) := by decide +kernel
theorem dX0_init_38 : decode cX0_init 38 = .ok (.aload_n 0, 1) := by decide +kernel
theorem dX0_init_39 : decode cX0_init 39 = .ok (.bipush 61, 2) := by decide +kernel
theorem dX0_init_41 : decode cX0_init 41 = .ok (.newarray .int, 2) := by decide +kernel
theorem dX0_init_43 : decode cX0_init 43 = .ok (.putfield 33, 3) := by decide +kernel
theorem dX0_init_46 : decode cX0_init 46 = .ok (.return_, 1) := by decide +kernel
theorem dX0_capacity_0 : decode cX0_capacity 0 = .ok (.aload_n 0, 1) := by decide +kernel
theorem dX0_capacity_1 : decode cX0_capacity 1 = .ok (.getfield 9, 3) := by decide +kernel
theorem dX0_capacity_4 : decode cX0_capacity 4 = .ok (.aload_n 0, 1) := by decide +kernel
theorem dX0_capacity_5 : decode cX0_capacity 5 = .ok (.getfield 15, 3) := by decide +kernel
theorem dX0_capacity_8 : decode cX0_capacity 8 = .ok (.imul, 1) := by decide +kernel
theorem dX0_capacity_9 : decode cX0_capacity 9 = .ok (.ireturn, 1) := by decide +kernel
theorem dX1_init_0 : decode cX1_init 0 = .ok (.aload_n 0, 1) := by decide +kernel
theorem dX1_init_1 : decode cX1_init 1 = .ok (.invokespecial 3, 3) := by decide +kernel
theorem dX1_init_4 : decode cX1_init 4 = .ok (.aload_n 0, 1) := by decide +kernel
theorem dX1_init_5 : decode cX1_init 5 = .ok (.aload_n 1, 1) := by decide +kernel
theorem dX1_init_6 : decode cX1_init 6 = .ok (.putfield 9, 3) := by decide +kernel
theorem dX1_init_9 : decode cX1_init 9 = .ok (.aload_n 0, 1) := by decide +kernel
theorem dX1_init_10 : decode cX1_init 10 = .ok (.iload_n 2, 1) := by decide +kernel
theorem dX1_init_11 : decode cX1_init 11 = .ok (.putfield 15, 3) := by decide +kernel
theorem dX1_init_14 : decode cX1_init 14 = .ok (.aload_n 0, 1) := by decide +kernel
theorem dX1_init_15 : decode cX1_init 15 = .ok (.iload_n 3, 1) := by decide +kernel
theorem dX1_init_16 : decode cX1_init 16 = .ok (.putfield 19, 3) := by decide +kernel
theorem dX1_init_19 : decode cX1_init 19 = .ok (.aload_n 0, 1) := by decide +kernel
theorem dX1_init_20 : decode cX1_init 20 = .ok (.iload 4, 2) := by decide +kernel
theorem dX1_init_22 : decode cX1_init 22 = .ok (.putfield 22, 3) := by decide +kernel
theorem dX1_init_25 : decode cX1_init 25 = .ok (.aload_n 0, 1) := by decide +kernel
theorem dX1_init_26 : decode cX1_init 26 = .ok (.bipush 61, 2) := by decide +kernel
theorem dX1_init_28 : decode cX1_init 28 = .ok (.newarray .boolean, 2) := by decide +kernel
theorem dX1_init_30 : decode cX1_init 30 = .ok (.putfield 25, 3) := by decide +kernel
theorem dX1_init_33 : decode cX1_init 33 = .ok (.return_, 1) := by decide +kernel
theorem dX1_isWetAt_0 : decode cX1_isWetAt 0 = .ok (.aload_n 0, 1) := by decide +kernel
theorem dX1_isWetAt_1 : decode cX1_isWetAt 1 = .ok (.getfield 9, 3) := by decide +kernel
theorem dX1_isWetAt_4 : decode cX1_isWetAt 4 = .ok (.aload_n 0, 1) := by decide +kernel
theorem dX1_isWetAt_5 : decode cX1_isWetAt 5 = .ok (.getfield 15, 3) := by decide +kernel
theorem dX1_isWetAt_8 : decode cX1_isWetAt 8 = .ok (.aload_n 0, 1) := by decide +kernel
theorem dX1_isWetAt_9 : decode cX1_isWetAt 9 = .ok (.getfield 9, 3) := by decide +kernel
theorem dX1_isWetAt_12 : decode cX1_isWetAt 12 = .ok (.getfield 29, 3) := by decide +kernel
theorem dX1_isWetAt_15 : decode cX1_isWetAt 15 = .ok (.iload_n 1, 1) := by decide +kernel
theorem dX1_isWetAt_16 : decode cX1_isWetAt 16 = .ok (.iaload, 1) := by decide +kernel
theorem dX1_isWetAt_17 : decode cX1_isWetAt 17 = .ok (.invokevirtual 35, 3) := by decide +kernel
theorem dX1_isWetAt_20 : decode cX1_isWetAt 20 = .ok (.ireturn, 1) := by decide +kernel
theorem dX1_worthAt_0 : decode cX1_worthAt 0 = .ok (.aload_n 0, 1) := by decide +kernel
theorem dX1_worthAt_1 : decode cX1_worthAt 1 = .ok (.getfield 19, 3) := by decide +kernel
theorem dX1_worthAt_4 : decode cX1_worthAt 4 = .ok (.aload_n 0, 1) := by decide +kernel
theorem dX1_worthAt_5 : decode cX1_worthAt 5 = .ok (.getfield 9, 3) := by decide +kernel
theorem dX1_worthAt_8 : decode cX1_worthAt 8 = .ok (.aload_n 0, 1) := by decide +kernel
theorem dX1_worthAt_9 : decode cX1_worthAt 9 = .ok (.getfield 15, 3) := by decide +kernel
theorem dX1_worthAt_12 : decode cX1_worthAt 12 = .ok (.aload_n 0, 1) := by decide +kernel
theorem dX1_worthAt_13 : decode cX1_worthAt 13 = .ok (.getfield 9, 3) := by decide +kernel
theorem dX1_worthAt_16 : decode cX1_worthAt 16 = .ok (.getfield 29, 3) := by decide +kernel
theorem dX1_worthAt_19 : decode cX1_worthAt 19 = .ok (.iload_n 1, 1) := by decide +kernel
theorem dX1_worthAt_20 : decode cX1_worthAt 20 = .ok (.iaload, 1) := by decide +kernel
theorem dX1_worthAt_21 : decode cX1_worthAt 21 = .ok (.invokevirtual 39, 3) := by decide +kernel
theorem dX1_worthAt_24 : decode cX1_worthAt 24 = .ok (.imul, 1) := by decide +kernel
theorem dX1_worthAt_25 : decode cX1_worthAt 25 = .ok (.ireturn, 1) := by decide +kernel
theorem dX1_worstHour_0 : decode cX1_worstHour 0 = .ok (.iconst 0, 1) := by decide +kernel
theorem dX1_worstHour_1 : decode cX1_worstHour 1 = .ok (.istore_n 2, 1) := by decide +kernel
theorem dX1_worstHour_2 : decode cX1_worstHour 2 = .ok (.iconst 0, 1) := by decide +kernel
theorem dX1_worstHour_3 : decode cX1_worstHour 3 = .ok (.istore_n 3, 1) := by decide +kernel
theorem dX1_worstHour_4 : decode cX1_worstHour 4 = .ok (.iconst 1, 1) := by decide +kernel
theorem dX1_worstHour_5 : decode cX1_worstHour 5 = .ok (.istore 4, 2) := by decide +kernel
theorem dX1_worstHour_7 : decode cX1_worstHour 7 = .ok (.iload 4, 2) := by decide +kernel
theorem dX1_worstHour_9 : decode cX1_worstHour 9 = .ok (.iload_n 1, 1) := by decide +kernel
theorem dX1_worstHour_10 : decode cX1_worstHour 10 = .ok (.if_icmp .gt 43, 3) := by decide +kernel
theorem dX1_worstHour_13 : decode cX1_worstHour 13 = .ok (.aload_n 0, 1) := by decide +kernel
theorem dX1_worstHour_14 : decode cX1_worstHour 14 = .ok (.getfield 25, 3) := by decide +kernel
theorem dX1_worstHour_17 : decode cX1_worstHour 17 = .ok (.iload 4, 2) := by decide +kernel
theorem dX1_worstHour_19 : decode cX1_worstHour 19 = .ok (.baload, 1) := by decide +kernel
theorem dX1_worstHour_20 : decode cX1_worstHour 20 = .ok (.ifCond .eq 7, 3) := by decide +kernel
theorem dX1_worstHour_23 : decode cX1_worstHour 23 = .ok (.iconst 0, 1) := by decide +kernel
theorem dX1_worstHour_24 : decode cX1_worstHour 24 = .ok (.goto 9, 3) := by decide +kernel
theorem dX1_worstHour_27 : decode cX1_worstHour 27 = .ok (.aload_n 0, 1) := by decide +kernel
theorem dX1_worstHour_28 : decode cX1_worstHour 28 = .ok (.iload 4, 2) := by decide +kernel
theorem dX1_worstHour_30 : decode cX1_worstHour 30 = .ok (.invokevirtual 43, 3) := by decide +kernel
theorem dX1_worstHour_33 : decode cX1_worstHour 33 = .ok (.istore 5, 2) := by decide +kernel
theorem dX1_worstHour_35 : decode cX1_worstHour 35 = .ok (.iload 5, 2) := by decide +kernel
theorem dX1_worstHour_37 : decode cX1_worstHour 37 = .ok (.iload_n 3, 1) := by decide +kernel
theorem dX1_worstHour_38 : decode cX1_worstHour 38 = .ok (.if_icmp .le 9, 3) := by decide +kernel
theorem dX1_worstHour_41 : decode cX1_worstHour 41 = .ok (.iload 5, 2) := by decide +kernel
theorem dX1_worstHour_43 : decode cX1_worstHour 43 = .ok (.istore_n 3, 1) := by decide +kernel
theorem dX1_worstHour_44 : decode cX1_worstHour 44 = .ok (.iload 4, 2) := by decide +kernel
theorem dX1_worstHour_46 : decode cX1_worstHour 46 = .ok (.istore_n 2, 1) := by decide +kernel
theorem dX1_worstHour_47 : decode cX1_worstHour 47 = .ok (.iinc 4 1, 3) := by decide +kernel
theorem dX1_worstHour_50 : decode cX1_worstHour 50 = .ok (.goto (-43), 3) := by decide +kernel
theorem dX1_worstHour_53 : decode cX1_worstHour 53 = .ok (.iload_n 2, 1) := by decide +kernel
theorem dX1_worstHour_54 : decode cX1_worstHour 54 = .ok (.ireturn, 1) := by decide +kernel
theorem dX1_pay_0 : decode cX1_pay 0 = .ok (.aload_n 0, 1) := by decide +kernel
theorem dX1_pay_1 : decode cX1_pay 1 = .ok (.iload_n 1, 1) := by decide +kernel
theorem dX1_pay_2 : decode cX1_pay 2 = .ok (.invokevirtual 43, 3) := by decide +kernel
theorem dX1_pay_5 : decode cX1_pay 5 = .ok (.aload_n 0, 1) := by decide +kernel
theorem dX1_pay_6 : decode cX1_pay 6 = .ok (.getfield 22, 3) := by decide +kernel
theorem dX1_pay_9 : decode cX1_pay 9 = .ok (.aload_n 0, 1) := by decide +kernel
theorem dX1_pay_10 : decode cX1_pay 10 = .ok (.getfield 47, 3) := by decide +kernel
theorem dX1_pay_13 : decode cX1_pay 13 = .ok (.isub, 1) := by decide +kernel
theorem dX1_pay_14 : decode cX1_pay 14 = .ok (.invokestatic 50, 3) := by decide +kernel
theorem dX1_pay_17 : decode cX1_pay 17 = .ok (.istore_n 2, 1) := by decide +kernel
theorem dX1_pay_18 : decode cX1_pay 18 = .ok (.aload_n 0, 1) := by decide +kernel
theorem dX1_pay_19 : decode cX1_pay 19 = .ok (.getfield 25, 3) := by decide +kernel
theorem dX1_pay_22 : decode cX1_pay 22 = .ok (.iload_n 1, 1) := by decide +kernel
theorem dX1_pay_23 : decode cX1_pay 23 = .ok (.iconst 1, 1) := by decide +kernel
theorem dX1_pay_24 : decode cX1_pay 24 = .ok (.bastore, 1) := by decide +kernel
theorem dX1_pay_25 : decode cX1_pay 25 = .ok (.aload_n 0, 1) := by decide +kernel
theorem dX1_pay_26 : decode cX1_pay 26 = .ok (.dup, 1) := by decide +kernel
theorem dX1_pay_27 : decode cX1_pay 27 = .ok (.getfield 55, 3) := by decide +kernel
theorem dX1_pay_30 : decode cX1_pay 30 = .ok (.iconst 1, 1) := by decide +kernel
theorem dX1_pay_31 : decode cX1_pay 31 = .ok (.iadd, 1) := by decide +kernel
theorem dX1_pay_32 : decode cX1_pay 32 = .ok (.putfield 55, 3) := by decide +kernel
theorem dX1_pay_35 : decode cX1_pay 35 = .ok (.aload_n 0, 1) := by decide +kernel
theorem dX1_pay_36 : decode cX1_pay 36 = .ok (.dup, 1) := by decide +kernel
theorem dX1_pay_37 : decode cX1_pay 37 = .ok (.getfield 47, 3) := by decide +kernel
theorem dX1_pay_40 : decode cX1_pay 40 = .ok (.iload_n 2, 1) := by decide +kernel
theorem dX1_pay_41 : decode cX1_pay 41 = .ok (.iadd, 1) := by decide +kernel
theorem dX1_pay_42 : decode cX1_pay 42 = .ok (.putfield 47, 3) := by decide +kernel
theorem dX1_pay_45 : decode cX1_pay 45 = .ok (.iload_n 2, 1) := by decide +kernel
theorem dX1_pay_46 : decode cX1_pay 46 = .ok (.ireturn, 1) := by decide +kernel
theorem dX2_init_0 : decode cX2_init 0 = .ok (.aload_n 0, 1) := by decide +kernel
theorem dX2_init_1 : decode cX2_init 1 = .ok (.invokespecial 1, 3) := by decide +kernel
theorem dX2_init_4 : decode cX2_init 4 = .ok (.aload_n 0, 1) := by decide +kernel
theorem dX2_init_5 : decode cX2_init 5 = .ok (.iload_n 1, 1) := by decide +kernel
theorem dX2_init_6 : decode cX2_init 6 = .ok (.putfield 7, 3) := by decide +kernel
theorem dX2_init_9 : decode cX2_init 9 = .ok (.aload_n 0, 1) := by decide +kernel
theorem dX2_init_10 : decode cX2_init 10 = .ok (.iload_n 2, 1) := by decide +kernel
theorem dX2_init_11 : decode cX2_init 11 = .ok (.putfield 13, 3) := by decide +kernel
theorem dX2_init_14 : decode cX2_init 14 = .ok (.aload_n 0, 1) := by decide +kernel
theorem dX2_init_15 : decode cX2_init 15 = .ok (.iload_n 3, 1) := by decide +kernel
theorem dX2_init_16 : decode cX2_init 16 = .ok (.putfield 16, 3) := by decide +kernel
theorem dX2_init_19 : decode cX2_init 19 = .ok (.aload_n 0, 1) := by decide +kernel
theorem dX2_init_20 : decode cX2_init 20 = .ok (.iload 4, 2) := by decide +kernel
theorem dX2_init_22 : decode cX2_init 22 = .ok (.putfield 20, 3) := by decide +kernel
theorem dX2_init_25 : decode cX2_init 25 = .ok (.aload_n 0, 1) := by decide +kernel
theorem dX2_init_26 : decode cX2_init 26 = .ok (.iload 5, 2) := by decide +kernel
theorem dX2_init_28 : decode cX2_init 28 = .ok (.putfield 23, 3) := by decide +kernel
theorem dX2_init_31 : decode cX2_init 31 = .ok (.return_, 1) := by decide +kernel
theorem dX3_init_0 : decode cX3_init 0 = .ok (.aload_n 0, 1) := by decide +kernel
theorem dX3_init_1 : decode cX3_init 1 = .ok (.invokespecial 3, 3) := by decide +kernel
theorem dX3_init_4 : decode cX3_init 4 = .ok (.aload_n 0, 1) := by decide +kernel
theorem dX3_init_5 : decode cX3_init 5 = .ok (.bipush 8, 2) := by decide +kernel
theorem dX3_init_7 : decode cX3_init 7 = .ok (.newarray .int, 2) := by decide +kernel
theorem dX3_init_9 : decode cX3_init 9 = .ok (.putfield 9, 3) := by decide +kernel
theorem dX3_init_12 : decode cX3_init 12 = .ok (.aload_n 0, 1) := by decide +kernel
theorem dX3_init_13 : decode cX3_init 13 = .ok (.getfield 9, 3) := by decide +kernel
theorem dX3_init_16 : decode cX3_init 16 = .ok (.iconst 0, 1) := by decide +kernel
theorem dX3_init_17 : decode cX3_init 17 = .ok (.iload_n 1, 1) := by decide +kernel
theorem dX3_init_18 : decode cX3_init 18 = .ok (.iastore, 1) := by decide +kernel
theorem dX3_init_19 : decode cX3_init 19 = .ok (.aload_n 0, 1) := by decide +kernel
theorem dX3_init_20 : decode cX3_init 20 = .ok (.iconst 1, 1) := by decide +kernel
theorem dX3_init_21 : decode cX3_init 21 = .ok (.putfield 15, 3) := by decide +kernel
theorem dX3_init_24 : decode cX3_init 24 = .ok (.aload_n 0, 1) := by decide +kernel
theorem dX3_init_25 : decode cX3_init 25 = .ok (.bipush 8, 2) := by decide +kernel
theorem dX3_init_27 : decode cX3_init 27 = .ok (.newarray .int, 2) := by decide +kernel
theorem dX3_init_29 : decode cX3_init 29 = .ok (.putfield 19, 3) := by decide +kernel
theorem dX3_init_32 : decode cX3_init 32 = .ok (.aload_n 0, 1) := by decide +kernel
theorem dX3_init_33 : decode cX3_init 33 = .ok (.bipush 8, 2) := by decide +kernel
theorem dX3_init_35 : decode cX3_init 35 = .ok (.newarray .int, 2) := by decide +kernel
theorem dX3_init_37 : decode cX3_init 37 = .ok (.putfield 22, 3) := by decide +kernel
theorem dX3_init_40 : decode cX3_init 40 = .ok (.aload_n 0, 1) := by decide +kernel
theorem dX3_init_41 : decode cX3_init 41 = .ok (.bipush 61, 2) := by decide +kernel
theorem dX3_init_43 : decode cX3_init 43 = .ok (.newarray .int, 2) := by decide +kernel
theorem dX3_init_45 : decode cX3_init 45 = .ok (.putfield 25, 3) := by decide +kernel
theorem dX3_init_48 : decode cX3_init 48 = .ok (.return_, 1) := by decide +kernel
theorem dX3_append_0 : decode cX3_append 0 = .ok (.aload_n 0, 1) := by decide +kernel
theorem dX3_append_1 : decode cX3_append 1 = .ok (.getfield 9, 3) := by decide +kernel
theorem dX3_append_4 : decode cX3_append 4 = .ok (.aload_n 0, 1) := by decide +kernel
theorem dX3_append_5 : decode cX3_append 5 = .ok (.getfield 15, 3) := by decide +kernel
theorem dX3_append_8 : decode cX3_append 8 = .ok (.iload_n 1, 1) := by decide +kernel
theorem dX3_append_9 : decode cX3_append 9 = .ok (.iastore, 1) := by decide +kernel
theorem dX3_append_10 : decode cX3_append 10 = .ok (.aload_n 0, 1) := by decide +kernel
theorem dX3_append_11 : decode cX3_append 11 = .ok (.dup, 1) := by decide +kernel
theorem dX3_append_12 : decode cX3_append 12 = .ok (.getfield 15, 3) := by decide +kernel
theorem dX3_append_15 : decode cX3_append 15 = .ok (.iconst 1, 1) := by decide +kernel
theorem dX3_append_16 : decode cX3_append 16 = .ok (.iadd, 1) := by decide +kernel
theorem dX3_append_17 : decode cX3_append 17 = .ok (.putfield 15, 3) := by decide +kernel
theorem dX3_append_20 : decode cX3_append 20 = .ok (.iconst 0, 1) := by decide +kernel
theorem dX3_append_21 : decode cX3_append 21 = .ok (.istore_n 2, 1) := by decide +kernel
theorem dX3_append_22 : decode cX3_append 22 = .ok (.iload_n 2, 1) := by decide +kernel
theorem dX3_append_23 : decode cX3_append 23 = .ok (.aload_n 0, 1) := by decide +kernel
theorem dX3_append_24 : decode cX3_append 24 = .ok (.getfield 15, 3) := by decide +kernel
theorem dX3_append_27 : decode cX3_append 27 = .ok (.if_icmp .ge 20, 3) := by decide +kernel
theorem dX3_append_30 : decode cX3_append 30 = .ok (.aload_n 0, 1) := by decide +kernel
theorem dX3_append_31 : decode cX3_append 31 = .ok (.getfield 19, 3) := by decide +kernel
theorem dX3_append_34 : decode cX3_append 34 = .ok (.iload_n 2, 1) := by decide +kernel
theorem dX3_append_35 : decode cX3_append 35 = .ok (.aload_n 0, 1) := by decide +kernel
theorem dX3_append_36 : decode cX3_append 36 = .ok (.iload_n 2, 1) := by decide +kernel
theorem dX3_append_37 : decode cX3_append 37 = .ok (.invokevirtual 28, 3) := by decide +kernel
theorem dX3_append_40 : decode cX3_append 40 = .ok (.iastore, 1) := by decide +kernel
theorem dX3_append_41 : decode cX3_append 41 = .ok (.iinc 2 1, 3) := by decide +kernel
theorem dX3_append_44 : decode cX3_append 44 = .ok (.goto (-22), 3) := by decide +kernel
theorem dX3_append_47 : decode cX3_append 47 = .ok (.return_, 1) := by decide +kernel
theorem dX3_volumeBefore_0 : decode cX3_volumeBefore 0 = .ok (.aload_n 0, 1) := by decide +kernel
theorem dX3_volumeBefore_1 : decode cX3_volumeBefore 1 = .ok (.iload_n 1, 1) := by decide +kernel
theorem dX3_volumeBefore_2 : decode cX3_volumeBefore 2 = .ok (.aload_n 0, 1) := by decide +kernel
theorem dX3_volumeBefore_3 : decode cX3_volumeBefore 3 = .ok (.getfield 9, 3) := by decide +kernel
theorem dX3_volumeBefore_6 : decode cX3_volumeBefore 6 = .ok (.iload_n 1, 1) := by decide +kernel
theorem dX3_volumeBefore_7 : decode cX3_volumeBefore 7 = .ok (.iaload, 1) := by decide +kernel
theorem dX3_volumeBefore_8 : decode cX3_volumeBefore 8 = .ok (.invokevirtual 32, 3) := by decide +kernel
theorem dX3_volumeBefore_11 : decode cX3_volumeBefore 11 = .ok (.istore_n 2, 1) := by decide +kernel
theorem dX3_volumeBefore_12 : decode cX3_volumeBefore 12 = .ok (.iconst 0, 1) := by decide +kernel
theorem dX3_volumeBefore_13 : decode cX3_volumeBefore 13 = .ok (.istore_n 3, 1) := by decide +kernel
theorem dX3_volumeBefore_14 : decode cX3_volumeBefore 14 = .ok (.iload_n 3, 1) := by decide +kernel
theorem dX3_volumeBefore_15 : decode cX3_volumeBefore 15 = .ok (.aload_n 0, 1) := by decide +kernel
theorem dX3_volumeBefore_16 : decode cX3_volumeBefore 16 = .ok (.getfield 15, 3) := by decide +kernel
theorem dX3_volumeBefore_19 : decode cX3_volumeBefore 19 = .ok (.if_icmp .ge 29, 3) := by decide +kernel
theorem dX3_volumeBefore_22 : decode cX3_volumeBefore 22 = .ok (.iload_n 2, 1) := by decide +kernel
theorem dX3_volumeBefore_23 : decode cX3_volumeBefore 23 = .ok (.aload_n 0, 1) := by decide +kernel
theorem dX3_volumeBefore_24 : decode cX3_volumeBefore 24 = .ok (.getfield 9, 3) := by decide +kernel
theorem dX3_volumeBefore_27 : decode cX3_volumeBefore 27 = .ok (.iload_n 1, 1) := by decide +kernel
theorem dX3_volumeBefore_28 : decode cX3_volumeBefore 28 = .ok (.iaload, 1) := by decide +kernel
theorem dX3_volumeBefore_29 : decode cX3_volumeBefore 29 = .ok (.aload_n 0, 1) := by decide +kernel
theorem dX3_volumeBefore_30 : decode cX3_volumeBefore 30 = .ok (.getfield 9, 3) := by decide +kernel
theorem dX3_volumeBefore_33 : decode cX3_volumeBefore 33 = .ok (.iload_n 3, 1) := by decide +kernel
theorem dX3_volumeBefore_34 : decode cX3_volumeBefore 34 = .ok (.iaload, 1) := by decide +kernel
theorem dX3_volumeBefore_35 : decode cX3_volumeBefore 35 = .ok (.isub, 1) := by decide +kernel
theorem dX3_volumeBefore_36 : decode cX3_volumeBefore 36 = .ok (.iconst 0, 1) := by decide +kernel
theorem dX3_volumeBefore_37 : decode cX3_volumeBefore 37 = .ok (.invokestatic 36, 3) := by decide +kernel
theorem dX3_volumeBefore_40 : decode cX3_volumeBefore 40 = .ok (.iadd, 1) := by decide +kernel
theorem dX3_volumeBefore_41 : decode cX3_volumeBefore 41 = .ok (.istore_n 2, 1) := by decide +kernel
theorem dX3_volumeBefore_42 : decode cX3_volumeBefore 42 = .ok (.iinc 3 1, 3) := by decide +kernel
theorem dX3_volumeBefore_45 : decode cX3_volumeBefore 45 = .ok (.goto (-31), 3) := by decide +kernel
theorem dX3_volumeBefore_48 : decode cX3_volumeBefore 48 = .ok (.iload_n 2, 1) := by decide +kernel
theorem dX3_volumeBefore_49 : decode cX3_volumeBefore 49 = .ok (.ireturn, 1) := by decide +kernel
theorem dX3_isWet_0 : decode cX3_isWet 0 = .ok (.iload_n 2, 1) := by decide +kernel
theorem dX3_isWet_1 : decode cX3_isWet 1 = .ok (.aload_n 0, 1) := by decide +kernel
theorem dX3_isWet_2 : decode cX3_isWet 2 = .ok (.getfield 19, 3) := by decide +kernel
theorem dX3_isWet_5 : decode cX3_isWet 5 = .ok (.iload_n 1, 1) := by decide +kernel
theorem dX3_isWet_6 : decode cX3_isWet 6 = .ok (.iaload, 1) := by decide +kernel
theorem dX3_isWet_7 : decode cX3_isWet 7 = .ok (.if_icmp .le 7, 3) := by decide +kernel
theorem dX3_isWet_10 : decode cX3_isWet 10 = .ok (.iconst 1, 1) := by decide +kernel
theorem dX3_isWet_11 : decode cX3_isWet 11 = .ok (.goto 4, 3) := by decide +kernel
theorem dX3_isWet_14 : decode cX3_isWet 14 = .ok (.iconst 0, 1) := by decide +kernel
theorem dX3_isWet_15 : decode cX3_isWet 15 = .ok (.ireturn, 1) := by decide +kernel
theorem dX3_countWet_0 : decode cX3_countWet 0 = .ok (.iconst 0, 1) := by decide +kernel
theorem dX3_countWet_1 : decode cX3_countWet 1 = .ok (.istore_n 2, 1) := by decide +kernel
theorem dX3_countWet_2 : decode cX3_countWet 2 = .ok (.iconst 0, 1) := by decide +kernel
theorem dX3_countWet_3 : decode cX3_countWet 3 = .ok (.istore_n 3, 1) := by decide +kernel
theorem dX3_countWet_4 : decode cX3_countWet 4 = .ok (.iload_n 3, 1) := by decide +kernel
theorem dX3_countWet_5 : decode cX3_countWet 5 = .ok (.aload_n 0, 1) := by decide +kernel
theorem dX3_countWet_6 : decode cX3_countWet 6 = .ok (.getfield 15, 3) := by decide +kernel
theorem dX3_countWet_9 : decode cX3_countWet 9 = .ok (.if_icmp .ge 21, 3) := by decide +kernel
theorem dX3_countWet_12 : decode cX3_countWet 12 = .ok (.aload_n 0, 1) := by decide +kernel
theorem dX3_countWet_13 : decode cX3_countWet 13 = .ok (.iload_n 3, 1) := by decide +kernel
theorem dX3_countWet_14 : decode cX3_countWet 14 = .ok (.iload_n 1, 1) := by decide +kernel
theorem dX3_countWet_15 : decode cX3_countWet 15 = .ok (.invokevirtual 41, 3) := by decide +kernel
theorem dX3_countWet_18 : decode cX3_countWet 18 = .ok (.ifCond .eq 6, 3) := by decide +kernel
theorem dX3_countWet_21 : decode cX3_countWet 21 = .ok (.iinc 2 1, 3) := by decide +kernel
theorem dX3_countWet_24 : decode cX3_countWet 24 = .ok (.iinc 3 1, 3) := by decide +kernel
theorem dX3_countWet_27 : decode cX3_countWet 27 = .ok (.goto (-23), 3) := by decide +kernel
theorem dX3_countWet_30 : decode cX3_countWet 30 = .ok (.iload_n 2, 1) := by decide +kernel
theorem dX3_countWet_31 : decode cX3_countWet 31 = .ok (.ireturn, 1) := by decide +kernel
theorem dX3_depthOf_0 : decode cX3_depthOf 0 = .ok (.iconst 0, 1) := by decide +kernel
theorem dX3_depthOf_1 : decode cX3_depthOf 1 = .ok (.istore_n 3, 1) := by decide +kernel
theorem dX3_depthOf_2 : decode cX3_depthOf 2 = .ok (.iload_n 2, 1) := by decide +kernel
theorem dX3_depthOf_3 : decode cX3_depthOf 3 = .ok (.istore 4, 2) := by decide +kernel
theorem dX3_depthOf_5 : decode cX3_depthOf 5 = .ok (.iload_n 3, 1) := by decide +kernel
theorem dX3_depthOf_6 : decode cX3_depthOf 6 = .ok (.bipush 30, 2) := by decide +kernel
theorem dX3_depthOf_8 : decode cX3_depthOf 8 = .ok (.if_icmp .ge 29, 3) := by decide +kernel
theorem dX3_depthOf_11 : decode cX3_depthOf 11 = .ok (.iload 4, 2) := by decide +kernel
theorem dX3_depthOf_13 : decode cX3_depthOf 13 = .ok (.aload_n 0, 1) := by decide +kernel
theorem dX3_depthOf_14 : decode cX3_depthOf 14 = .ok (.iload_n 3, 1) := by decide +kernel
theorem dX3_depthOf_15 : decode cX3_depthOf 15 = .ok (.invokevirtual 45, 3) := by decide +kernel
theorem dX3_depthOf_18 : decode cX3_depthOf 18 = .ok (.if_icmp .lt 19, 3) := by decide +kernel
theorem dX3_depthOf_21 : decode cX3_depthOf 21 = .ok (.iload 4, 2) := by decide +kernel
theorem dX3_depthOf_23 : decode cX3_depthOf 23 = .ok (.aload_n 0, 1) := by decide +kernel
theorem dX3_depthOf_24 : decode cX3_depthOf 24 = .ok (.iload_n 3, 1) := by decide +kernel
theorem dX3_depthOf_25 : decode cX3_depthOf 25 = .ok (.invokevirtual 45, 3) := by decide +kernel
theorem dX3_depthOf_28 : decode cX3_depthOf 28 = .ok (.isub, 1) := by decide +kernel
theorem dX3_depthOf_29 : decode cX3_depthOf 29 = .ok (.istore 4, 2) := by decide +kernel
theorem dX3_depthOf_31 : decode cX3_depthOf 31 = .ok (.iinc 3 1, 3) := by decide +kernel
theorem dX3_depthOf_34 : decode cX3_depthOf 34 = .ok (.goto (-29), 3) := by decide +kernel
theorem dX3_depthOf_37 : decode cX3_depthOf 37 = .ok (.aload_n 0, 1) := by decide +kernel
theorem dX3_depthOf_38 : decode cX3_depthOf 38 = .ok (.iload_n 3, 1) := by decide +kernel
theorem dX3_depthOf_39 : decode cX3_depthOf 39 = .ok (.invokevirtual 45, 3) := by decide +kernel
theorem dX3_depthOf_42 : decode cX3_depthOf 42 = .ok (.istore 5, 2) := by decide +kernel
theorem dX3_depthOf_44 : decode cX3_depthOf 44 = .ok (.iload 5, 2) := by decide +kernel
theorem dX3_depthOf_46 : decode cX3_depthOf 46 = .ok (.ifCond .le 18, 3) := by decide +kernel
theorem dX3_depthOf_49 : decode cX3_depthOf 49 = .ok (.iload_n 3, 1) := by decide +kernel
theorem dX3_depthOf_50 : decode cX3_depthOf 50 = .ok (.iload 4, 2) := by decide +kernel
theorem dX3_depthOf_52 : decode cX3_depthOf 52 = .ok (.iload 5, 2) := by decide +kernel
theorem dX3_depthOf_54 : decode cX3_depthOf 54 = .ok (.idiv, 1) := by decide +kernel
theorem dX3_depthOf_55 : decode cX3_depthOf 55 = .ok (.iadd, 1) := by decide +kernel
theorem dX3_depthOf_56 : decode cX3_depthOf 56 = .ok (.istore_n 3, 1) := by decide +kernel
theorem dX3_depthOf_57 : decode cX3_depthOf 57 = .ok (.iload 4, 2) := by decide +kernel
theorem dX3_depthOf_59 : decode cX3_depthOf 59 = .ok (.iload 5, 2) := by decide +kernel
theorem dX3_depthOf_61 : decode cX3_depthOf 61 = .ok (.irem, 1) := by decide +kernel
theorem dX3_depthOf_62 : decode cX3_depthOf 62 = .ok (.istore 4, 2) := by decide +kernel
theorem dX3_depthOf_64 : decode cX3_depthOf 64 = .ok (.aload_n 0, 1) := by decide +kernel
theorem dX3_depthOf_65 : decode cX3_depthOf 65 = .ok (.getfield 9, 3) := by decide +kernel
theorem dX3_depthOf_68 : decode cX3_depthOf 68 = .ok (.iload_n 1, 1) := by decide +kernel
theorem dX3_depthOf_69 : decode cX3_depthOf 69 = .ok (.iaload, 1) := by decide +kernel
theorem dX3_depthOf_70 : decode cX3_depthOf 70 = .ok (.iload_n 3, 1) := by decide +kernel
theorem dX3_depthOf_71 : decode cX3_depthOf 71 = .ok (.if_icmp .le 5, 3) := by decide +kernel
theorem dX3_depthOf_74 : decode cX3_depthOf 74 = .ok (.iconst 0, 1) := by decide +kernel
theorem dX3_depthOf_75 : decode cX3_depthOf 75 = .ok (.ireturn, 1) := by decide +kernel
theorem dX3_depthOf_76 : decode cX3_depthOf 76 = .ok (.aload_n 0, 1) := by decide +kernel
theorem dX3_depthOf_77 : decode cX3_depthOf 77 = .ok (.iload_n 1, 1) := by decide +kernel
theorem dX3_depthOf_78 : decode cX3_depthOf 78 = .ok (.iload_n 3, 1) := by decide +kernel
theorem dX3_depthOf_79 : decode cX3_depthOf 79 = .ok (.invokevirtual 32, 3) := by decide +kernel
theorem dX3_depthOf_82 : decode cX3_depthOf 82 = .ok (.iload 4, 2) := by decide +kernel
theorem dX3_depthOf_84 : decode cX3_depthOf 84 = .ok (.if_icmp .ge 7, 3) := by decide +kernel
theorem dX3_depthOf_87 : decode cX3_depthOf 87 = .ok (.iconst 1, 1) := by decide +kernel
theorem dX3_depthOf_88 : decode cX3_depthOf 88 = .ok (.goto 4, 3) := by decide +kernel
theorem dX3_depthOf_91 : decode cX3_depthOf 91 = .ok (.iconst 0, 1) := by decide +kernel
theorem dX3_depthOf_92 : decode cX3_depthOf 92 = .ok (.istore 6, 2) := by decide +kernel
theorem dX3_depthOf_94 : decode cX3_depthOf 94 = .ok (.iload_n 3, 1) := by decide +kernel
theorem dX3_depthOf_95 : decode cX3_depthOf 95 = .ok (.aload_n 0, 1) := by decide +kernel
theorem dX3_depthOf_96 : decode cX3_depthOf 96 = .ok (.getfield 9, 3) := by decide +kernel
theorem dX3_depthOf_99 : decode cX3_depthOf 99 = .ok (.iload_n 1, 1) := by decide +kernel
theorem dX3_depthOf_100 : decode cX3_depthOf 100 = .ok (.iaload, 1) := by decide +kernel
theorem dX3_depthOf_101 : decode cX3_depthOf 101 = .ok (.isub, 1) := by decide +kernel
theorem dX3_depthOf_102 : decode cX3_depthOf 102 = .ok (.iload 6, 2) := by decide +kernel
theorem dX3_depthOf_104 : decode cX3_depthOf 104 = .ok (.iadd, 1) := by decide +kernel
theorem dX3_depthOf_105 : decode cX3_depthOf 105 = .ok (.ireturn, 1) := by decide +kernel
theorem dX3_cellsUpTo_0 : decode cX3_cellsUpTo 0 = .ok (.aload_n 0, 1) := by decide +kernel
theorem dX3_cellsUpTo_1 : decode cX3_cellsUpTo 1 = .ok (.aload_n 0, 1) := by decide +kernel
theorem dX3_cellsUpTo_2 : decode cX3_cellsUpTo 2 = .ok (.getfield 15, 3) := by decide +kernel
theorem dX3_cellsUpTo_5 : decode cX3_cellsUpTo 5 = .ok (.iload_n 1, 1) := by decide +kernel
theorem dX3_cellsUpTo_6 : decode cX3_cellsUpTo 6 = .ok (.invokevirtual 32, 3) := by decide +kernel
theorem dX3_cellsUpTo_9 : decode cX3_cellsUpTo 9 = .ok (.ireturn, 1) := by decide +kernel
theorem dX3_cellsAhead_0 : decode cX3_cellsAhead 0 = .ok (.iconst 0, 1) := by decide +kernel
theorem dX3_cellsAhead_1 : decode cX3_cellsAhead 1 = .ok (.istore_n 3, 1) := by decide +kernel
theorem dX3_cellsAhead_2 : decode cX3_cellsAhead 2 = .ok (.iconst 0, 1) := by decide +kernel
theorem dX3_cellsAhead_3 : decode cX3_cellsAhead 3 = .ok (.istore 4, 2) := by decide +kernel
theorem dX3_cellsAhead_5 : decode cX3_cellsAhead 5 = .ok (.iload 4, 2) := by decide +kernel
theorem dX3_cellsAhead_7 : decode cX3_cellsAhead 7 = .ok (.iload_n 1, 1) := by decide +kernel
theorem dX3_cellsAhead_8 : decode cX3_cellsAhead 8 = .ok (.if_icmp .ge 23, 3) := by decide +kernel
theorem dX3_cellsAhead_11 : decode cX3_cellsAhead 11 = .ok (.aload_n 0, 1) := by decide +kernel
theorem dX3_cellsAhead_12 : decode cX3_cellsAhead 12 = .ok (.getfield 9, 3) := by decide +kernel
theorem dX3_cellsAhead_15 : decode cX3_cellsAhead 15 = .ok (.iload 4, 2) := by decide +kernel
theorem dX3_cellsAhead_17 : decode cX3_cellsAhead 17 = .ok (.iaload, 1) := by decide +kernel
theorem dX3_cellsAhead_18 : decode cX3_cellsAhead 18 = .ok (.iload_n 2, 1) := by decide +kernel
theorem dX3_cellsAhead_19 : decode cX3_cellsAhead 19 = .ok (.if_icmp .gt 6, 3) := by decide +kernel
theorem dX3_cellsAhead_22 : decode cX3_cellsAhead 22 = .ok (.iinc 3 1, 3) := by decide +kernel
theorem dX3_cellsAhead_25 : decode cX3_cellsAhead 25 = .ok (.iinc 4 1, 3) := by decide +kernel
theorem dX3_cellsAhead_28 : decode cX3_cellsAhead 28 = .ok (.goto (-23), 3) := by decide +kernel
theorem dX3_cellsAhead_31 : decode cX3_cellsAhead 31 = .ok (.iload_n 3, 1) := by decide +kernel
theorem dX3_cellsAhead_32 : decode cX3_cellsAhead 32 = .ok (.ireturn, 1) := by decide +kernel
theorem dX3_depthPoured_0 : decode cX3_depthPoured 0 = .ok (.aload_n 0, 1) := by decide +kernel
theorem dX3_depthPoured_1 : decode cX3_depthPoured 1 = .ok (.getfield 22, 3) := by decide +kernel
theorem dX3_depthPoured_4 : decode cX3_depthPoured 4 = .ok (.iconst 0, 1) := by decide +kernel
theorem dX3_depthPoured_5 : decode cX3_depthPoured 5 = .ok (.invokestatic 48, 3) := by decide +kernel
theorem dX3_depthPoured_8 : decode cX3_depthPoured 8 = .ok (.iconst 0, 1) := by decide +kernel
theorem dX3_depthPoured_9 : decode cX3_depthPoured 9 = .ok (.istore_n 3, 1) := by decide +kernel
theorem dX3_depthPoured_10 : decode cX3_depthPoured 10 = .ok (.iload_n 3, 1) := by decide +kernel
theorem dX3_depthPoured_11 : decode cX3_depthPoured 11 = .ok (.iload_n 2, 1) := by decide +kernel
theorem dX3_depthPoured_12 : decode cX3_depthPoured 12 = .ok (.if_icmp .ge 22, 3) := by decide +kernel
theorem dX3_depthPoured_15 : decode cX3_depthPoured 15 = .ok (.aload_n 0, 1) := by decide +kernel
theorem dX3_depthPoured_16 : decode cX3_depthPoured 16 = .ok (.getfield 22, 3) := by decide +kernel
theorem dX3_depthPoured_19 : decode cX3_depthPoured 19 = .ok (.aload_n 0, 1) := by decide +kernel
theorem dX3_depthPoured_20 : decode cX3_depthPoured 20 = .ok (.invokevirtual 54, 3) := by decide +kernel
theorem dX3_depthPoured_23 : decode cX3_depthPoured 23 = .ok (.dup2, 1) := by decide +kernel
theorem dX3_depthPoured_24 : decode cX3_depthPoured 24 = .ok (.iaload, 1) := by decide +kernel
theorem dX3_depthPoured_25 : decode cX3_depthPoured 25 = .ok (.iconst 1, 1) := by decide +kernel
theorem dX3_depthPoured_26 : decode cX3_depthPoured 26 = .ok (.iadd, 1) := by decide +kernel
theorem dX3_depthPoured_27 : decode cX3_depthPoured 27 = .ok (.iastore, 1) := by decide +kernel
theorem dX3_depthPoured_28 : decode cX3_depthPoured 28 = .ok (.iinc 3 1, 3) := by decide +kernel
theorem dX3_depthPoured_31 : decode cX3_depthPoured 31 = .ok (.goto (-21), 3) := by decide +kernel
theorem dX3_depthPoured_34 : decode cX3_depthPoured 34 = .ok (.aload_n 0, 1) := by decide +kernel
theorem dX3_depthPoured_35 : decode cX3_depthPoured 35 = .ok (.getfield 22, 3) := by decide +kernel
theorem dX3_depthPoured_38 : decode cX3_depthPoured 38 = .ok (.iload_n 1, 1) := by decide +kernel
theorem dX3_depthPoured_39 : decode cX3_depthPoured 39 = .ok (.iaload, 1) := by decide +kernel
theorem dX3_depthPoured_40 : decode cX3_depthPoured 40 = .ok (.ireturn, 1) := by decide +kernel
theorem dX3_lowestCell_0 : decode cX3_lowestCell 0 = .ok (.iconst 0, 1) := by decide +kernel
theorem dX3_lowestCell_1 : decode cX3_lowestCell 1 = .ok (.istore_n 1, 1) := by decide +kernel
theorem dX3_lowestCell_2 : decode cX3_lowestCell 2 = .ok (.iconst 1, 1) := by decide +kernel
theorem dX3_lowestCell_3 : decode cX3_lowestCell 3 = .ok (.istore_n 2, 1) := by decide +kernel
theorem dX3_lowestCell_4 : decode cX3_lowestCell 4 = .ok (.iload_n 2, 1) := by decide +kernel
theorem dX3_lowestCell_5 : decode cX3_lowestCell 5 = .ok (.aload_n 0, 1) := by decide +kernel
theorem dX3_lowestCell_6 : decode cX3_lowestCell 6 = .ok (.getfield 15, 3) := by decide +kernel
theorem dX3_lowestCell_9 : decode cX3_lowestCell 9 = .ok (.if_icmp .ge 40, 3) := by decide +kernel
theorem dX3_lowestCell_12 : decode cX3_lowestCell 12 = .ok (.aload_n 0, 1) := by decide +kernel
theorem dX3_lowestCell_13 : decode cX3_lowestCell 13 = .ok (.getfield 9, 3) := by decide +kernel
theorem dX3_lowestCell_16 : decode cX3_lowestCell 16 = .ok (.iload_n 2, 1) := by decide +kernel
theorem dX3_lowestCell_17 : decode cX3_lowestCell 17 = .ok (.iaload, 1) := by decide +kernel
theorem dX3_lowestCell_18 : decode cX3_lowestCell 18 = .ok (.aload_n 0, 1) := by decide +kernel
theorem dX3_lowestCell_19 : decode cX3_lowestCell 19 = .ok (.getfield 22, 3) := by decide +kernel
theorem dX3_lowestCell_22 : decode cX3_lowestCell 22 = .ok (.iload_n 2, 1) := by decide +kernel
theorem dX3_lowestCell_23 : decode cX3_lowestCell 23 = .ok (.iaload, 1) := by decide +kernel
theorem dX3_lowestCell_24 : decode cX3_lowestCell 24 = .ok (.iadd, 1) := by decide +kernel
theorem dX3_lowestCell_25 : decode cX3_lowestCell 25 = .ok (.aload_n 0, 1) := by decide +kernel
theorem dX3_lowestCell_26 : decode cX3_lowestCell 26 = .ok (.getfield 9, 3) := by decide +kernel
theorem dX3_lowestCell_29 : decode cX3_lowestCell 29 = .ok (.iload_n 1, 1) := by decide +kernel
theorem dX3_lowestCell_30 : decode cX3_lowestCell 30 = .ok (.iaload, 1) := by decide +kernel
theorem dX3_lowestCell_31 : decode cX3_lowestCell 31 = .ok (.aload_n 0, 1) := by decide +kernel
theorem dX3_lowestCell_32 : decode cX3_lowestCell 32 = .ok (.getfield 22, 3) := by decide +kernel
theorem dX3_lowestCell_35 : decode cX3_lowestCell 35 = .ok (.iload_n 1, 1) := by decide +kernel
theorem dX3_lowestCell_36 : decode cX3_lowestCell 36 = .ok (.iaload, 1) := by decide +kernel
theorem dX3_lowestCell_37 : decode cX3_lowestCell 37 = .ok (.iadd, 1) := by decide +kernel
theorem dX3_lowestCell_38 : decode cX3_lowestCell 38 = .ok (.if_icmp .ge 5, 3) := by decide +kernel
theorem dX3_lowestCell_41 : decode cX3_lowestCell 41 = .ok (.iload_n 2, 1) := by decide +kernel
theorem dX3_lowestCell_42 : decode cX3_lowestCell 42 = .ok (.istore_n 1, 1) := by decide +kernel
theorem dX3_lowestCell_43 : decode cX3_lowestCell 43 = .ok (.iinc 2 1, 3) := by decide +kernel
theorem dX3_lowestCell_46 : decode cX3_lowestCell 46 = .ok (.goto (-42), 3) := by decide +kernel
theorem dX3_lowestCell_49 : decode cX3_lowestCell 49 = .ok (.iload_n 1, 1) := by decide +kernel
theorem dX3_lowestCell_50 : decode cX3_lowestCell 50 = .ok (.ireturn, 1) := by decide +kernel
theorem dX4_init_0 : decode cX4_init 0 = .ok (.aload_n 0, 1) := by decide +kernel
theorem dX4_init_1 : decode cX4_init 1 = .ok (.invokespecial 3, 3) := by decide +kernel
theorem dX4_init_4 : decode cX4_init 4 = .ok (.aload_n 0, 1) := by decide +kernel
theorem dX4_init_5 : decode cX4_init 5 = .ok (.bipush 6, 2) := by decide +kernel
theorem dX4_init_7 : decode cX4_init 7 = .ok (.newarray .int, 2) := by decide +kernel
theorem dX4_init_9 : decode cX4_init 9 = .ok (.putfield 9, 3) := by decide +kernel
theorem dX4_init_12 : decode cX4_init 12 = .ok (.aload_n 0, 1) := by decide +kernel
theorem dX4_init_13 : decode cX4_init 13 = .ok (.bipush 6, 2) := by decide +kernel
theorem dX4_init_15 : decode cX4_init 15 = .ok (.newarray .int, 2) := by decide +kernel
theorem dX4_init_17 : decode cX4_init 17 = .ok (.putfield 15, 3) := by decide +kernel
theorem dX4_init_20 : decode cX4_init 20 = .ok (.aload_n 0, 1) := by decide +kernel
theorem dX4_init_21 : decode cX4_init 21 = .ok (.bipush 6, 2) := by decide +kernel
theorem dX4_init_23 : decode cX4_init 23 = .ok (.newarray .int, 2) := by decide +kernel
theorem dX4_init_25 : decode cX4_init 25 = .ok (.putfield 18, 3) := by decide +kernel
theorem dX4_init_28 : decode cX4_init 28 = .ok (.return_, 1) := by decide +kernel
theorem dX4_clear_0 : decode cX4_clear 0 = .ok (.aload_n 0, 1) := by decide +kernel
theorem dX4_clear_1 : decode cX4_clear 1 = .ok (.getfield 9, 3) := by decide +kernel
theorem dX4_clear_4 : decode cX4_clear 4 = .ok (.iconst 0, 1) := by decide +kernel
theorem dX4_clear_5 : decode cX4_clear 5 = .ok (.invokestatic 21, 3) := by decide +kernel
theorem dX4_clear_8 : decode cX4_clear 8 = .ok (.aload_n 0, 1) := by decide +kernel
theorem dX4_clear_9 : decode cX4_clear 9 = .ok (.getfield 15, 3) := by decide +kernel
theorem dX4_clear_12 : decode cX4_clear 12 = .ok (.iconst 0, 1) := by decide +kernel
theorem dX4_clear_13 : decode cX4_clear 13 = .ok (.invokestatic 21, 3) := by decide +kernel
theorem dX4_clear_16 : decode cX4_clear 16 = .ok (.aload_n 0, 1) := by decide +kernel
theorem dX4_clear_17 : decode cX4_clear 17 = .ok (.iconst 0, 1) := by decide +kernel
theorem dX4_clear_18 : decode cX4_clear 18 = .ok (.putfield 27, 3) := by decide +kernel
theorem dX4_clear_21 : decode cX4_clear 21 = .ok (.return_, 1) := by decide +kernel
theorem dX4_held_0 : decode cX4_held 0 = .ok (.iconst 0, 1) := by decide +kernel
theorem dX4_held_1 : decode cX4_held 1 = .ok (.istore_n 1, 1) := by decide +kernel
theorem dX4_held_2 : decode cX4_held 2 = .ok (.iconst 0, 1) := by decide +kernel
theorem dX4_held_3 : decode cX4_held 3 = .ok (.istore_n 2, 1) := by decide +kernel
theorem dX4_held_4 : decode cX4_held 4 = .ok (.iload_n 2, 1) := by decide +kernel
theorem dX4_held_5 : decode cX4_held 5 = .ok (.bipush 6, 2) := by decide +kernel
theorem dX4_held_7 : decode cX4_held 7 = .ok (.if_icmp .ge 25, 3) := by decide +kernel
theorem dX4_held_10 : decode cX4_held 10 = .ok (.iload_n 1, 1) := by decide +kernel
theorem dX4_held_11 : decode cX4_held 11 = .ok (.aload_n 0, 1) := by decide +kernel
theorem dX4_held_12 : decode cX4_held 12 = .ok (.getfield 9, 3) := by decide +kernel
theorem dX4_held_15 : decode cX4_held 15 = .ok (.iload_n 2, 1) := by decide +kernel
theorem dX4_held_16 : decode cX4_held 16 = .ok (.iaload, 1) := by decide +kernel
theorem dX4_held_17 : decode cX4_held 17 = .ok (.aload_n 0, 1) := by decide +kernel
theorem dX4_held_18 : decode cX4_held 18 = .ok (.getfield 15, 3) := by decide +kernel
theorem dX4_held_21 : decode cX4_held 21 = .ok (.iload_n 2, 1) := by decide +kernel
theorem dX4_held_22 : decode cX4_held 22 = .ok (.iaload, 1) := by decide +kernel
theorem dX4_held_23 : decode cX4_held 23 = .ok (.iadd, 1) := by decide +kernel
theorem dX4_held_24 : decode cX4_held 24 = .ok (.iadd, 1) := by decide +kernel
theorem dX4_held_25 : decode cX4_held 25 = .ok (.istore_n 1, 1) := by decide +kernel
theorem dX4_held_26 : decode cX4_held 26 = .ok (.iinc 2 1, 3) := by decide +kernel
theorem dX4_held_29 : decode cX4_held 29 = .ok (.goto (-25), 3) := by decide +kernel
theorem dX4_held_32 : decode cX4_held 32 = .ok (.iload_n 1, 1) := by decide +kernel
theorem dX4_held_33 : decode cX4_held 33 = .ok (.ireturn, 1) := by decide +kernel
theorem dX4_runThroughGate_0 : decode cX4_runThroughGate 0 = .ok (.aload_n 0, 1) := by decide +kernel
theorem dX4_runThroughGate_1 : decode cX4_runThroughGate 1 = .ok (.getfield 9, 3) := by decide +kernel
theorem dX4_runThroughGate_4 : decode cX4_runThroughGate 4 = .ok (.iload_n 1, 1) := by decide +kernel
theorem dX4_runThroughGate_5 : decode cX4_runThroughGate 5 = .ok (.dup2, 1) := by decide +kernel
theorem dX4_runThroughGate_6 : decode cX4_runThroughGate 6 = .ok (.iaload, 1) := by decide +kernel
theorem dX4_runThroughGate_7 : decode cX4_runThroughGate 7 = .ok (.aload_n 0, 1) := by decide +kernel
theorem dX4_runThroughGate_8 : decode cX4_runThroughGate 8 = .ok (.getfield 18, 3) := by decide +kernel
theorem dX4_runThroughGate_11 : decode cX4_runThroughGate 11 = .ok (.iload_n 1, 1) := by decide +kernel
theorem dX4_runThroughGate_12 : decode cX4_runThroughGate 12 = .ok (.iaload, 1) := by decide +kernel
theorem dX4_runThroughGate_13 : decode cX4_runThroughGate 13 = .ok (.isub, 1) := by decide +kernel
theorem dX4_runThroughGate_14 : decode cX4_runThroughGate 14 = .ok (.iastore, 1) := by decide +kernel
theorem dX4_runThroughGate_15 : decode cX4_runThroughGate 15 = .ok (.iload_n 2, 1) := by decide +kernel
theorem dX4_runThroughGate_16 : decode cX4_runThroughGate 16 = .ok (.iconst (-1), 1) := by decide +kernel
theorem dX4_runThroughGate_17 : decode cX4_runThroughGate 17 = .ok (.if_icmp .ne 21, 3) := by decide +kernel
theorem dX4_runThroughGate_20 : decode cX4_runThroughGate 20 = .ok (.aload_n 0, 1) := by decide +kernel
theorem dX4_runThroughGate_21 : decode cX4_runThroughGate 21 = .ok (.dup, 1) := by decide +kernel
theorem dX4_runThroughGate_22 : decode cX4_runThroughGate 22 = .ok (.getfield 27, 3) := by decide +kernel
theorem dX4_runThroughGate_25 : decode cX4_runThroughGate 25 = .ok (.aload_n 0, 1) := by decide +kernel
theorem dX4_runThroughGate_26 : decode cX4_runThroughGate 26 = .ok (.getfield 18, 3) := by decide +kernel
theorem dX4_runThroughGate_29 : decode cX4_runThroughGate 29 = .ok (.iload_n 1, 1) := by decide +kernel
theorem dX4_runThroughGate_30 : decode cX4_runThroughGate 30 = .ok (.iaload, 1) := by decide +kernel
theorem dX4_runThroughGate_31 : decode cX4_runThroughGate 31 = .ok (.iadd, 1) := by decide +kernel
theorem dX4_runThroughGate_32 : decode cX4_runThroughGate 32 = .ok (.putfield 27, 3) := by decide +kernel
theorem dX4_runThroughGate_35 : decode cX4_runThroughGate 35 = .ok (.goto 18, 3) := by decide +kernel
theorem dX4_runThroughGate_38 : decode cX4_runThroughGate 38 = .ok (.aload_n 0, 1) := by decide +kernel
theorem dX4_runThroughGate_39 : decode cX4_runThroughGate 39 = .ok (.getfield 9, 3) := by decide +kernel
theorem dX4_runThroughGate_42 : decode cX4_runThroughGate 42 = .ok (.iload_n 2, 1) := by decide +kernel
theorem dX4_runThroughGate_43 : decode cX4_runThroughGate 43 = .ok (.dup2, 1) := by decide +kernel
theorem dX4_runThroughGate_44 : decode cX4_runThroughGate 44 = .ok (.iaload, 1) := by decide +kernel
theorem dX4_runThroughGate_45 : decode cX4_runThroughGate 45 = .ok (.aload_n 0, 1) := by decide +kernel
theorem dX4_runThroughGate_46 : decode cX4_runThroughGate 46 = .ok (.getfield 18, 3) := by decide +kernel
theorem dX4_runThroughGate_49 : decode cX4_runThroughGate 49 = .ok (.iload_n 1, 1) := by decide +kernel
theorem dX4_runThroughGate_50 : decode cX4_runThroughGate 50 = .ok (.iaload, 1) := by decide +kernel
theorem dX4_runThroughGate_51 : decode cX4_runThroughGate 51 = .ok (.iadd, 1) := by decide +kernel
theorem dX4_runThroughGate_52 : decode cX4_runThroughGate 52 = .ok (.iastore, 1) := by decide +kernel
theorem dX4_runThroughGate_53 : decode cX4_runThroughGate 53 = .ok (.return_, 1) := by decide +kernel
theorem dX4_settle_0 : decode cX4_settle 0 = .ok (.iload_n 2, 1) := by decide +kernel
theorem dX4_settle_1 : decode cX4_settle 1 = .ok (.aload_n 0, 1) := by decide +kernel
theorem dX4_settle_2 : decode cX4_settle 2 = .ok (.getfield 9, 3) := by decide +kernel
theorem dX4_settle_5 : decode cX4_settle 5 = .ok (.iload_n 1, 1) := by decide +kernel
theorem dX4_settle_6 : decode cX4_settle 6 = .ok (.iaload, 1) := by decide +kernel
theorem dX4_settle_7 : decode cX4_settle 7 = .ok (.isub, 1) := by decide +kernel
theorem dX4_settle_8 : decode cX4_settle 8 = .ok (.istore_n 3, 1) := by decide +kernel
theorem dX4_settle_9 : decode cX4_settle 9 = .ok (.iload_n 3, 1) := by decide +kernel
theorem dX4_settle_10 : decode cX4_settle 10 = .ok (.ifCond .ge 23, 3) := by decide +kernel
theorem dX4_settle_13 : decode cX4_settle 13 = .ok (.aload_n 0, 1) := by decide +kernel
theorem dX4_settle_14 : decode cX4_settle 14 = .ok (.getfield 15, 3) := by decide +kernel
theorem dX4_settle_17 : decode cX4_settle 17 = .ok (.iload_n 1, 1) := by decide +kernel
theorem dX4_settle_18 : decode cX4_settle 18 = .ok (.dup2, 1) := by decide +kernel
theorem dX4_settle_19 : decode cX4_settle 19 = .ok (.iaload, 1) := by decide +kernel
theorem dX4_settle_20 : decode cX4_settle 20 = .ok (.iload_n 3, 1) := by decide +kernel
theorem dX4_settle_21 : decode cX4_settle 21 = .ok (.isub, 1) := by decide +kernel
theorem dX4_settle_22 : decode cX4_settle 22 = .ok (.iastore, 1) := by decide +kernel
theorem dX4_settle_23 : decode cX4_settle 23 = .ok (.aload_n 0, 1) := by decide +kernel
theorem dX4_settle_24 : decode cX4_settle 24 = .ok (.getfield 9, 3) := by decide +kernel
theorem dX4_settle_27 : decode cX4_settle 27 = .ok (.iload_n 1, 1) := by decide +kernel
theorem dX4_settle_28 : decode cX4_settle 28 = .ok (.iload_n 2, 1) := by decide +kernel
theorem dX4_settle_29 : decode cX4_settle 29 = .ok (.iastore, 1) := by decide +kernel
theorem dX4_settle_30 : decode cX4_settle 30 = .ok (.goto 37, 3) := by decide +kernel
theorem dX4_settle_33 : decode cX4_settle 33 = .ok (.aload_n 0, 1) := by decide +kernel
theorem dX4_settle_34 : decode cX4_settle 34 = .ok (.getfield 15, 3) := by decide +kernel
theorem dX4_settle_37 : decode cX4_settle 37 = .ok (.iload_n 1, 1) := by decide +kernel
theorem dX4_settle_38 : decode cX4_settle 38 = .ok (.iaload, 1) := by decide +kernel
theorem dX4_settle_39 : decode cX4_settle 39 = .ok (.iload_n 3, 1) := by decide +kernel
theorem dX4_settle_40 : decode cX4_settle 40 = .ok (.invokestatic 31, 3) := by decide +kernel
theorem dX4_settle_43 : decode cX4_settle 43 = .ok (.istore 4, 2) := by decide +kernel
theorem dX4_settle_45 : decode cX4_settle 45 = .ok (.aload_n 0, 1) := by decide +kernel
theorem dX4_settle_46 : decode cX4_settle 46 = .ok (.getfield 15, 3) := by decide +kernel
theorem dX4_settle_49 : decode cX4_settle 49 = .ok (.iload_n 1, 1) := by decide +kernel
theorem dX4_settle_50 : decode cX4_settle 50 = .ok (.dup2, 1) := by decide +kernel
theorem dX4_settle_51 : decode cX4_settle 51 = .ok (.iaload, 1) := by decide +kernel
theorem dX4_settle_52 : decode cX4_settle 52 = .ok (.iload 4, 2) := by decide +kernel
theorem dX4_settle_54 : decode cX4_settle 54 = .ok (.isub, 1) := by decide +kernel
theorem dX4_settle_55 : decode cX4_settle 55 = .ok (.iastore, 1) := by decide +kernel
theorem dX4_settle_56 : decode cX4_settle 56 = .ok (.aload_n 0, 1) := by decide +kernel
theorem dX4_settle_57 : decode cX4_settle 57 = .ok (.getfield 9, 3) := by decide +kernel
theorem dX4_settle_60 : decode cX4_settle 60 = .ok (.iload_n 1, 1) := by decide +kernel
theorem dX4_settle_61 : decode cX4_settle 61 = .ok (.dup2, 1) := by decide +kernel
theorem dX4_settle_62 : decode cX4_settle 62 = .ok (.iaload, 1) := by decide +kernel
theorem dX4_settle_63 : decode cX4_settle 63 = .ok (.iload 4, 2) := by decide +kernel
theorem dX4_settle_65 : decode cX4_settle 65 = .ok (.iadd, 1) := by decide +kernel
theorem dX4_settle_66 : decode cX4_settle 66 = .ok (.iastore, 1) := by decide +kernel
theorem dX4_settle_67 : decode cX4_settle 67 = .ok (.return_, 1) := by decide +kernel
theorem dX5_init_0 : decode cX5_init 0 = .ok (.aload_n 0, 1) := by decide +kernel
theorem dX5_init_1 : decode cX5_init 1 = .ok (.invokespecial 1, 3) := by decide +kernel
theorem dX5_init_4 : decode cX5_init 4 = .ok (.aload_n 0, 1) := by decide +kernel
theorem dX5_init_5 : decode cX5_init 5 = .ok (.new 7, 3) := by decide +kernel
theorem dX5_init_8 : decode cX5_init 8 = .ok (.dup, 1) := by decide +kernel
theorem dX5_init_9 : decode cX5_init 9 = .ok (.invokespecial 9, 3) := by decide +kernel
theorem dX5_init_12 : decode cX5_init 12 = .ok (.putfield 10, 3) := by decide +kernel
theorem dX5_init_15 : decode cX5_init 15 = .ok (.aload_n 0, 1) := by decide +kernel
theorem dX5_init_16 : decode cX5_init 16 = .ok (.new 7, 3) := by decide +kernel
theorem dX5_init_19 : decode cX5_init 19 = .ok (.dup, 1) := by decide +kernel
theorem dX5_init_20 : decode cX5_init 20 = .ok (.invokespecial 9, 3) := by decide +kernel
theorem dX5_init_23 : decode cX5_init 23 = .ok (.putfield 16, 3) := by decide +kernel
theorem dX5_init_26 : decode cX5_init 26 = .ok (.aload_n 0, 1) := by decide +kernel
theorem dX5_init_27 : decode cX5_init 27 = .ok (.new 7, 3) := by decide +kernel
theorem dX5_init_30 : decode cX5_init 30 = .ok (.dup, 1) := by decide +kernel
theorem dX5_init_31 : decode cX5_init 31 = .ok (.invokespecial 9, 3) := by decide +kernel
theorem dX5_init_34 : decode cX5_init 34 = .ok (.putfield 19, 3) := by decide +kernel
theorem dX5_init_37 : decode cX5_init 37 = .ok (.aload_n 0, 1) := by decide +kernel
theorem dX5_init_38 : decode cX5_init 38 = .ok (.new 22, 3) := by decide +kernel
theorem dX5_init_41 : decode cX5_init 41 = .ok (.dup, 1) := by decide +kernel
theorem dX5_init_42 : decode cX5_init 42 = .ok (.invokespecial 24, 3) := by decide +kernel
theorem dX5_init_45 : decode cX5_init 45 = .ok (.putfield 25, 3) := by decide +kernel
theorem dX5_init_48 : decode cX5_init 48 = .ok (.aload_n 0, 1) := by decide +kernel
theorem dX5_init_49 : decode cX5_init 49 = .ok (.new 22, 3) := by decide +kernel
theorem dX5_init_52 : decode cX5_init 52 = .ok (.dup, 1) := by decide +kernel
theorem dX5_init_53 : decode cX5_init 53 = .ok (.invokespecial 24, 3) := by decide +kernel
theorem dX5_init_56 : decode cX5_init 56 = .ok (.putfield 29, 3) := by decide +kernel
theorem dX5_init_59 : decode cX5_init 59 = .ok (.aload_n 0, 1) := by decide +kernel
theorem dX5_init_60 : decode cX5_init 60 = .ok (.new 32, 3) := by decide +kernel
theorem dX5_init_63 : decode cX5_init 63 = .ok (.dup, 1) := by decide +kernel
theorem dX5_init_64 : decode cX5_init 64 = .ok (.invokespecial 34, 3) := by decide +kernel
theorem dX5_init_67 : decode cX5_init 67 = .ok (.putfield 35, 3) := by decide +kernel
theorem dX5_init_70 : decode cX5_init 70 = .ok (.return_, 1) := by decide +kernel
theorem dX5_addBasin_0 : decode cX5_addBasin 0 = .ok (.aload_n 0, 1) := by decide +kernel
theorem dX5_addBasin_1 : decode cX5_addBasin 1 = .ok (.getfield 10, 3) := by decide +kernel
theorem dX5_addBasin_4 : decode cX5_addBasin 4 = .ok (.invokevirtual 39, 3) := by decide +kernel
theorem dX5_addBasin_7 : decode cX5_addBasin 7 = .ok (.istore 6, 2) := by decide +kernel
theorem dX5_addBasin_9 : decode cX5_addBasin 9 = .ok (.iload 6, 2) := by decide +kernel
theorem dX5_addBasin_11 : decode cX5_addBasin 11 = .ok (.ifCond .ne 17, 3) := by decide +kernel
theorem dX5_addBasin_14 : decode cX5_addBasin 14 = .ok (.iload 4, 2) := by decide +kernel
theorem dX5_addBasin_16 : decode cX5_addBasin 16 = .ok (.iconst (-1), 1) := by decide +kernel
theorem dX5_addBasin_17 : decode cX5_addBasin 17 = .ok (.if_icmp .ne 7, 3) := by decide +kernel
theorem dX5_addBasin_20 : decode cX5_addBasin 20 = .ok (.iconst 1, 1) := by decide +kernel
theorem dX5_addBasin_21 : decode cX5_addBasin 21 = .ok (.goto 17, 3) := by decide +kernel
theorem dX5_addBasin_24 : decode cX5_addBasin 24 = .ok (.iconst 0, 1) := by decide +kernel
theorem dX5_addBasin_25 : decode cX5_addBasin 25 = .ok (.goto 13, 3) := by decide +kernel
theorem dX5_addBasin_28 : decode cX5_addBasin 28 = .ok (.iload 4, 2) := by decide +kernel
theorem dX5_addBasin_30 : decode cX5_addBasin 30 = .ok (.iconst 0, 1) := by decide +kernel
theorem dX5_addBasin_31 : decode cX5_addBasin 31 = .ok (.iload 6, 2) := by decide +kernel
theorem dX5_addBasin_33 : decode cX5_addBasin 33 = .ok (.iconst 1, 1) := by decide +kernel
theorem dX5_addBasin_34 : decode cX5_addBasin 34 = .ok (.isub, 1) := by decide +kernel
theorem dX5_addBasin_35 : decode cX5_addBasin 35 = .ok (.invokestatic 43, 3) := by decide +kernel
theorem dX5_addBasin_38 : decode cX5_addBasin 38 = .ok (.istore 7, 2) := by decide +kernel
theorem dX5_addBasin_40 : decode cX5_addBasin 40 = .ok (.iload 7, 2) := by decide +kernel
theorem dX5_addBasin_42 : decode cX5_addBasin 42 = .ok (.ifCond .ne 13, 3) := by decide +kernel
theorem dX5_addBasin_45 : decode cX5_addBasin 45 = .ok (.new 47, 3) := by decide +kernel
theorem dX5_addBasin_48 : decode cX5_addBasin 48 = .ok (.dup, 1) := by decide +kernel
theorem dX5_addBasin_49 : decode cX5_addBasin 49 = .ok (.ldc 49, 2) := by decide +kernel
theorem dX5_addBasin_51 : decode cX5_addBasin 51 = .ok (.invokespecial 51, 3) := by decide +kernel
theorem dX5_addBasin_54 : decode cX5_addBasin 54 = .ok (.athrow, 1) := by decide +kernel
theorem dX5_addBasin_55 : decode cX5_addBasin 55 = .ok (.iload_n 1, 1) := by decide +kernel
theorem dX5_addBasin_56 : decode cX5_addBasin 56 = .ok (.iconst 1, 1) := by decide +kernel
theorem dX5_addBasin_57 : decode cX5_addBasin 57 = .ok (.bipush 50, 2) := by decide +kernel
theorem dX5_addBasin_59 : decode cX5_addBasin 59 = .ok (.invokestatic 43, 3) := by decide +kernel
theorem dX5_addBasin_62 : decode cX5_addBasin 62 = .ok (.ifCond .eq 23, 3) := by decide +kernel
theorem dX5_addBasin_65 : decode cX5_addBasin 65 = .ok (.iload_n 2, 1) := by decide +kernel
theorem dX5_addBasin_66 : decode cX5_addBasin 66 = .ok (.iconst 1, 1) := by decide +kernel
theorem dX5_addBasin_67 : decode cX5_addBasin 67 = .ok (.bipush 40, 2) := by decide +kernel
theorem dX5_addBasin_69 : decode cX5_addBasin 69 = .ok (.invokestatic 43, 3) := by decide +kernel
theorem dX5_addBasin_72 : decode cX5_addBasin 72 = .ok (.ifCond .eq 13, 3) := by decide +kernel
theorem dX5_addBasin_75 : decode cX5_addBasin 75 = .ok (.iload_n 3, 1) := by decide +kernel
theorem dX5_addBasin_76 : decode cX5_addBasin 76 = .ok (.iconst 0, 1) := by decide +kernel
theorem dX5_addBasin_77 : decode cX5_addBasin 77 = .ok (.bipush 20, 2) := by decide +kernel
theorem dX5_addBasin_79 : decode cX5_addBasin 79 = .ok (.invokestatic 43, 3) := by decide +kernel
theorem dX5_addBasin_82 : decode cX5_addBasin 82 = .ok (.ifCond .ne 13, 3) := by decide +kernel
theorem dX5_addBasin_85 : decode cX5_addBasin 85 = .ok (.new 54, 3) := by decide +kernel
theorem dX5_addBasin_88 : decode cX5_addBasin 88 = .ok (.dup, 1) := by decide +kernel
theorem dX5_addBasin_89 : decode cX5_addBasin 89 = .ok (.ldc 56, 2) := by decide +kernel
theorem dX5_addBasin_91 : decode cX5_addBasin 91 = .ok (.invokespecial 58, 3) := by decide +kernel
theorem dX5_addBasin_94 : decode cX5_addBasin 94 = .ok (.athrow, 1) := by decide +kernel
theorem dX5_addBasin_95 : decode cX5_addBasin 95 = .ok (.iload 5, 2) := by decide +kernel
theorem dX5_addBasin_97 : decode cX5_addBasin 97 = .ok (.invokestatic 59, 3) := by decide +kernel
theorem dX5_addBasin_100 : decode cX5_addBasin 100 = .ok (.iload 6, 2) := by decide +kernel
theorem dX5_addBasin_102 : decode cX5_addBasin 102 = .ok (.bipush 6, 2) := by decide +kernel
theorem dX5_addBasin_104 : decode cX5_addBasin 104 = .ok (.if_icmp .lt 13, 3) := by decide +kernel
theorem dX5_addBasin_107 : decode cX5_addBasin 107 = .ok (.new 63, 3) := by decide +kernel
theorem dX5_addBasin_110 : decode cX5_addBasin 110 = .ok (.dup, 1) := by decide +kernel
theorem dX5_addBasin_111 : decode cX5_addBasin 111 = .ok (.ldc 65, 2) := by decide +kernel
theorem dX5_addBasin_113 : decode cX5_addBasin 113 = .ok (.invokespecial 67, 3) := by decide +kernel
theorem dX5_addBasin_116 : decode cX5_addBasin 116 = .ok (.athrow, 1) := by decide +kernel
theorem dX5_addBasin_117 : decode cX5_addBasin 117 = .ok (.aload_n 0, 1) := by decide +kernel
theorem dX5_addBasin_118 : decode cX5_addBasin 118 = .ok (.invokevirtual 68, 3) := by decide +kernel
theorem dX5_addBasin_121 : decode cX5_addBasin 121 = .ok (.aload_n 0, 1) := by decide +kernel
theorem dX5_addBasin_122 : decode cX5_addBasin 122 = .ok (.getfield 10, 3) := by decide +kernel
theorem dX5_addBasin_125 : decode cX5_addBasin 125 = .ok (.new 71, 3) := by decide +kernel
theorem dX5_addBasin_128 : decode cX5_addBasin 128 = .ok (.dup, 1) := by decide +kernel
theorem dX5_addBasin_129 : decode cX5_addBasin 129 = .ok (.iload_n 1, 1) := by decide +kernel
theorem dX5_addBasin_130 : decode cX5_addBasin 130 = .ok (.iload_n 2, 1) := by decide +kernel
theorem dX5_addBasin_131 : decode cX5_addBasin 131 = .ok (.iload_n 3, 1) := by decide +kernel
theorem dX5_addBasin_132 : decode cX5_addBasin 132 = .ok (.iload 4, 2) := by decide +kernel
theorem dX5_addBasin_134 : decode cX5_addBasin 134 = .ok (.iload 5, 2) := by decide +kernel
theorem dX5_addBasin_136 : decode cX5_addBasin 136 = .ok (.invokespecial 73, 3) := by decide +kernel
theorem dX5_addBasin_139 : decode cX5_addBasin 139 = .ok (.invokevirtual 76, 3) := by decide +kernel
theorem dX5_addBasin_142 : decode cX5_addBasin 142 = .ok (.pop, 1) := by decide +kernel
theorem dX5_addBasin_143 : decode cX5_addBasin 143 = .ok (.iload 6, 2) := by decide +kernel
theorem dX5_addBasin_145 : decode cX5_addBasin 145 = .ok (.ireturn, 1) := by decide +kernel
theorem dX5_addCell_0 : decode cX5_addCell 0 = .ok (.aload_n 0, 1) := by decide +kernel
theorem dX5_addCell_1 : decode cX5_addCell 1 = .ok (.iload_n 1, 1) := by decide +kernel
theorem dX5_addCell_2 : decode cX5_addCell 2 = .ok (.invokevirtual 80, 3) := by decide +kernel
theorem dX5_addCell_5 : decode cX5_addCell 5 = .ok (.getfield 84, 3) := by decide +kernel
theorem dX5_addCell_8 : decode cX5_addCell 8 = .ok (.astore_n 3, 1) := by decide +kernel
theorem dX5_addCell_9 : decode cX5_addCell 9 = .ok (.iload_n 2, 1) := by decide +kernel
theorem dX5_addCell_10 : decode cX5_addCell 10 = .ok (.invokestatic 59, 3) := by decide +kernel
theorem dX5_addCell_13 : decode cX5_addCell 13 = .ok (.aload_n 3, 1) := by decide +kernel
theorem dX5_addCell_14 : decode cX5_addCell 14 = .ok (.getfield 88, 3) := by decide +kernel
theorem dX5_addCell_17 : decode cX5_addCell 17 = .ok (.bipush 8, 2) := by decide +kernel
theorem dX5_addCell_19 : decode cX5_addCell 19 = .ok (.if_icmp .lt 13, 3) := by decide +kernel
theorem dX5_addCell_22 : decode cX5_addCell 22 = .ok (.new 63, 3) := by decide +kernel
theorem dX5_addCell_25 : decode cX5_addCell 25 = .ok (.dup, 1) := by decide +kernel
theorem dX5_addCell_26 : decode cX5_addCell 26 = .ok (.ldc 94, 2) := by decide +kernel
theorem dX5_addCell_28 : decode cX5_addCell 28 = .ok (.invokespecial 67, 3) := by decide +kernel
theorem dX5_addCell_31 : decode cX5_addCell 31 = .ok (.athrow, 1) := by decide +kernel
theorem dX5_addCell_32 : decode cX5_addCell 32 = .ok (.aload_n 0, 1) := by decide +kernel
theorem dX5_addCell_33 : decode cX5_addCell 33 = .ok (.invokevirtual 68, 3) := by decide +kernel
theorem dX5_addCell_36 : decode cX5_addCell 36 = .ok (.aload_n 3, 1) := by decide +kernel
theorem dX5_addCell_37 : decode cX5_addCell 37 = .ok (.iload_n 2, 1) := by decide +kernel
theorem dX5_addCell_38 : decode cX5_addCell 38 = .ok (.invokevirtual 96, 3) := by decide +kernel
theorem dX5_addCell_41 : decode cX5_addCell 41 = .ok (.aload_n 3, 1) := by decide +kernel
theorem dX5_addCell_42 : decode cX5_addCell 42 = .ok (.getfield 88, 3) := by decide +kernel
theorem dX5_addCell_45 : decode cX5_addCell 45 = .ok (.ireturn, 1) := by decide +kernel
theorem dX5_basinCount_0 : decode cX5_basinCount 0 = .ok (.aload_n 0, 1) := by decide +kernel
theorem dX5_basinCount_1 : decode cX5_basinCount 1 = .ok (.getfield 10, 3) := by decide +kernel
theorem dX5_basinCount_4 : decode cX5_basinCount 4 = .ok (.invokevirtual 39, 3) := by decide +kernel
theorem dX5_basinCount_7 : decode cX5_basinCount 7 = .ok (.ireturn, 1) := by decide +kernel
theorem dX5_cellCount_0 : decode cX5_cellCount 0 = .ok (.aload_n 0, 1) := by decide +kernel
theorem dX5_cellCount_1 : decode cX5_cellCount 1 = .ok (.iload_n 1, 1) := by decide +kernel
theorem dX5_cellCount_2 : decode cX5_cellCount 2 = .ok (.invokevirtual 80, 3) := by decide +kernel
theorem dX5_cellCount_5 : decode cX5_cellCount 5 = .ok (.getfield 84, 3) := by decide +kernel
theorem dX5_cellCount_8 : decode cX5_cellCount 8 = .ok (.getfield 88, 3) := by decide +kernel
theorem dX5_cellCount_11 : decode cX5_cellCount 11 = .ok (.ireturn, 1) := by decide +kernel
theorem dX5_capacityOf_0 : decode cX5_capacityOf 0 = .ok (.aload_n 0, 1) := by decide +kernel
theorem dX5_capacityOf_1 : decode cX5_capacityOf 1 = .ok (.iload_n 1, 1) := by decide +kernel
theorem dX5_capacityOf_2 : decode cX5_capacityOf 2 = .ok (.invokevirtual 80, 3) := by decide +kernel
theorem dX5_capacityOf_5 : decode cX5_capacityOf 5 = .ok (.invokevirtual 99, 3) := by decide +kernel
theorem dX5_capacityOf_8 : decode cX5_capacityOf 8 = .ok (.ireturn, 1) := by decide +kernel
theorem dX5_setHand_0 : decode cX5_setHand 0 = .ok (.aload_n 0, 1) := by decide +kernel
theorem dX5_setHand_1 : decode cX5_setHand 1 = .ok (.iload_n 1, 1) := by decide +kernel
theorem dX5_setHand_2 : decode cX5_setHand 2 = .ok (.invokevirtual 80, 3) := by decide +kernel
theorem dX5_setHand_5 : decode cX5_setHand 5 = .ok (.astore_n 3, 1) := by decide +kernel
theorem dX5_setHand_6 : decode cX5_setHand 6 = .ok (.iload_n 2, 1) := by decide +kernel
theorem dX5_setHand_7 : decode cX5_setHand 7 = .ok (.invokestatic 102, 3) := by decide +kernel
theorem dX5_setHand_10 : decode cX5_setHand 10 = .ok (.aload_n 3, 1) := by decide +kernel
theorem dX5_setHand_11 : decode cX5_setHand 11 = .ok (.getfield 105, 3) := by decide +kernel
theorem dX5_setHand_14 : decode cX5_setHand 14 = .ok (.istore 4, 2) := by decide +kernel
theorem dX5_setHand_16 : decode cX5_setHand 16 = .ok (.aload_n 3, 1) := by decide +kernel
theorem dX5_setHand_17 : decode cX5_setHand 17 = .ok (.iload_n 2, 1) := by decide +kernel
theorem dX5_setHand_18 : decode cX5_setHand 18 = .ok (.putfield 105, 3) := by decide +kernel
theorem dX5_setHand_21 : decode cX5_setHand 21 = .ok (.iload 4, 2) := by decide +kernel
theorem dX5_setHand_23 : decode cX5_setHand 23 = .ok (.ireturn, 1) := by decide +kernel
theorem dX5_addRule_0 : decode cX5_addRule 0 = .ok (.aload_n 0, 1) := by decide +kernel
theorem dX5_addRule_1 : decode cX5_addRule 1 = .ok (.iload_n 1, 1) := by decide +kernel
theorem dX5_addRule_2 : decode cX5_addRule 2 = .ok (.invokevirtual 108, 3) := by decide +kernel
theorem dX5_addRule_5 : decode cX5_addRule 5 = .ok (.aload_n 0, 1) := by decide +kernel
theorem dX5_addRule_6 : decode cX5_addRule 6 = .ok (.iload_n 2, 1) := by decide +kernel
theorem dX5_addRule_7 : decode cX5_addRule 7 = .ok (.invokevirtual 108, 3) := by decide +kernel
theorem dX5_addRule_10 : decode cX5_addRule 10 = .ok (.iload 4, 2) := by decide +kernel
theorem dX5_addRule_12 : decode cX5_addRule 12 = .ok (.iconst 0, 1) := by decide +kernel
theorem dX5_addRule_13 : decode cX5_addRule 13 = .ok (.bipush 40, 2) := by decide +kernel
theorem dX5_addRule_15 : decode cX5_addRule 15 = .ok (.invokestatic 43, 3) := by decide +kernel
theorem dX5_addRule_18 : decode cX5_addRule 18 = .ok (.ifCond .ne 13, 3) := by decide +kernel
theorem dX5_addRule_21 : decode cX5_addRule 21 = .ok (.new 54, 3) := by decide +kernel
theorem dX5_addRule_24 : decode cX5_addRule 24 = .ok (.dup, 1) := by decide +kernel
theorem dX5_addRule_25 : decode cX5_addRule 25 = .ok (.ldc 111, 2) := by decide +kernel
theorem dX5_addRule_27 : decode cX5_addRule 27 = .ok (.invokespecial 58, 3) := by decide +kernel
theorem dX5_addRule_30 : decode cX5_addRule 30 = .ok (.athrow, 1) := by decide +kernel
theorem dX5_addRule_31 : decode cX5_addRule 31 = .ok (.iload 5, 2) := by decide +kernel
theorem dX5_addRule_33 : decode cX5_addRule 33 = .ok (.invokestatic 102, 3) := by decide +kernel
theorem dX5_addRule_36 : decode cX5_addRule 36 = .ok (.aload_n 0, 1) := by decide +kernel
theorem dX5_addRule_37 : decode cX5_addRule 37 = .ok (.getfield 16, 3) := by decide +kernel
theorem dX5_addRule_40 : decode cX5_addRule 40 = .ok (.invokevirtual 39, 3) := by decide +kernel
theorem dX5_addRule_43 : decode cX5_addRule 43 = .ok (.bipush 12, 2) := by decide +kernel
theorem dX5_addRule_45 : decode cX5_addRule 45 = .ok (.if_icmp .lt 13, 3) := by decide +kernel
theorem dX5_addRule_48 : decode cX5_addRule 48 = .ok (.new 63, 3) := by decide +kernel
theorem dX5_addRule_51 : decode cX5_addRule 51 = .ok (.dup, 1) := by decide +kernel
theorem dX5_addRule_52 : decode cX5_addRule 52 = .ok (.ldc 113, 2) := by decide +kernel
theorem dX5_addRule_54 : decode cX5_addRule 54 = .ok (.invokespecial 67, 3) := by decide +kernel
theorem dX5_addRule_57 : decode cX5_addRule 57 = .ok (.athrow, 1) := by decide +kernel
theorem dX5_addRule_58 : decode cX5_addRule 58 = .ok (.aload_n 0, 1) := by decide +kernel
theorem dX5_addRule_59 : decode cX5_addRule 59 = .ok (.getfield 16, 3) := by decide +kernel
theorem dX5_addRule_62 : decode cX5_addRule 62 = .ok (.new 115, 3) := by decide +kernel
theorem dX5_addRule_65 : decode cX5_addRule 65 = .ok (.dup, 1) := by decide +kernel
theorem dX5_addRule_66 : decode cX5_addRule 66 = .ok (.iload_n 1, 1) := by decide +kernel
theorem dX5_addRule_67 : decode cX5_addRule 67 = .ok (.iload_n 2, 1) := by decide +kernel
theorem dX5_addRule_68 : decode cX5_addRule 68 = .ok (.iload_n 3, 1) := by decide +kernel
theorem dX5_addRule_69 : decode cX5_addRule 69 = .ok (.iload 4, 2) := by decide +kernel
theorem dX5_addRule_71 : decode cX5_addRule 71 = .ok (.iload 5, 2) := by decide +kernel
theorem dX5_addRule_73 : decode cX5_addRule 73 = .ok (.invokespecial 117, 3) := by decide +kernel
theorem dX5_addRule_76 : decode cX5_addRule 76 = .ok (.invokevirtual 76, 3) := by decide +kernel
theorem dX5_addRule_79 : decode cX5_addRule 79 = .ok (.pop, 1) := by decide +kernel
theorem dX5_addRule_80 : decode cX5_addRule 80 = .ok (.aload_n 0, 1) := by decide +kernel
theorem dX5_addRule_81 : decode cX5_addRule 81 = .ok (.getfield 16, 3) := by decide +kernel
theorem dX5_addRule_84 : decode cX5_addRule 84 = .ok (.invokevirtual 39, 3) := by decide +kernel
theorem dX5_addRule_87 : decode cX5_addRule 87 = .ok (.ireturn, 1) := by decide +kernel
theorem dX5_removeRule_0 : decode cX5_removeRule 0 = .ok (.aload_n 0, 1) := by decide +kernel
theorem dX5_removeRule_1 : decode cX5_removeRule 1 = .ok (.iload_n 1, 1) := by decide +kernel
theorem dX5_removeRule_2 : decode cX5_removeRule 2 = .ok (.invokevirtual 120, 3) := by decide +kernel
theorem dX5_removeRule_5 : decode cX5_removeRule 5 = .ok (.aload_n 0, 1) := by decide +kernel
theorem dX5_removeRule_6 : decode cX5_removeRule 6 = .ok (.getfield 16, 3) := by decide +kernel
theorem dX5_removeRule_9 : decode cX5_removeRule 9 = .ok (.iload_n 1, 1) := by decide +kernel
theorem dX5_removeRule_10 : decode cX5_removeRule 10 = .ok (.invokevirtual 123, 3) := by decide +kernel
theorem dX5_removeRule_13 : decode cX5_removeRule 13 = .ok (.pop, 1) := by decide +kernel
theorem dX5_removeRule_14 : decode cX5_removeRule 14 = .ok (.aload_n 0, 1) := by decide +kernel
theorem dX5_removeRule_15 : decode cX5_removeRule 15 = .ok (.getfield 16, 3) := by decide +kernel
theorem dX5_removeRule_18 : decode cX5_removeRule 18 = .ok (.invokevirtual 39, 3) := by decide +kernel
theorem dX5_removeRule_21 : decode cX5_removeRule 21 = .ok (.ireturn, 1) := by decide +kernel
theorem dX5_ruleCount_0 : decode cX5_ruleCount 0 = .ok (.aload_n 0, 1) := by decide +kernel
theorem dX5_ruleCount_1 : decode cX5_ruleCount 1 = .ok (.getfield 16, 3) := by decide +kernel
theorem dX5_ruleCount_4 : decode cX5_ruleCount 4 = .ok (.invokevirtual 39, 3) := by decide +kernel
theorem dX5_ruleCount_7 : decode cX5_ruleCount 7 = .ok (.ireturn, 1) := by decide +kernel
theorem dX5_doesHold_0 : decode cX5_doesHold 0 = .ok (.aload_n 0, 1) := by decide +kernel
theorem dX5_doesHold_1 : decode cX5_doesHold 1 = .ok (.iload_n 1, 1) := by decide +kernel
theorem dX5_doesHold_2 : decode cX5_doesHold 2 = .ok (.invokevirtual 120, 3) := by decide +kernel
theorem dX5_doesHold_5 : decode cX5_doesHold 5 = .ok (.aload_n 0, 1) := by decide +kernel
theorem dX5_doesHold_6 : decode cX5_doesHold 6 = .ok (.aload_n 0, 1) := by decide +kernel
theorem dX5_doesHold_7 : decode cX5_doesHold 7 = .ok (.getfield 25, 3) := by decide +kernel
theorem dX5_doesHold_10 : decode cX5_doesHold 10 = .ok (.aload_n 0, 1) := by decide +kernel
theorem dX5_doesHold_11 : decode cX5_doesHold 11 = .ok (.getfield 16, 3) := by decide +kernel
theorem dX5_doesHold_14 : decode cX5_doesHold 14 = .ok (.iload_n 1, 1) := by decide +kernel
theorem dX5_doesHold_15 : decode cX5_doesHold 15 = .ok (.invokevirtual 127, 3) := by decide +kernel
theorem dX5_doesHold_18 : decode cX5_doesHold 18 = .ok (.checkcast 115, 3) := by decide +kernel
theorem dX5_doesHold_21 : decode cX5_doesHold 21 = .ok (.invokevirtual 130, 3) := by decide +kernel
theorem dX5_doesHold_24 : decode cX5_doesHold 24 = .ok (.ireturn, 1) := by decide +kernel
theorem dX5_openingNow_0 : decode cX5_openingNow 0 = .ok (.aload_n 0, 1) := by decide +kernel
theorem dX5_openingNow_1 : decode cX5_openingNow 1 = .ok (.iload_n 1, 1) := by decide +kernel
theorem dX5_openingNow_2 : decode cX5_openingNow 2 = .ok (.invokevirtual 108, 3) := by decide +kernel
theorem dX5_openingNow_5 : decode cX5_openingNow 5 = .ok (.aload_n 0, 1) := by decide +kernel
theorem dX5_openingNow_6 : decode cX5_openingNow 6 = .ok (.aload_n 0, 1) := by decide +kernel
theorem dX5_openingNow_7 : decode cX5_openingNow 7 = .ok (.getfield 25, 3) := by decide +kernel
theorem dX5_openingNow_10 : decode cX5_openingNow 10 = .ok (.iload_n 1, 1) := by decide +kernel
theorem dX5_openingNow_11 : decode cX5_openingNow 11 = .ok (.invokevirtual 134, 3) := by decide +kernel
theorem dX5_openingNow_14 : decode cX5_openingNow 14 = .ok (.ireturn, 1) := by decide +kernel
theorem dX5_setRain_0 : decode cX5_setRain 0 = .ok (.aload_n 0, 1) := by decide +kernel
theorem dX5_setRain_1 : decode cX5_setRain 1 = .ok (.iload_n 1, 1) := by decide +kernel
theorem dX5_setRain_2 : decode cX5_setRain 2 = .ok (.invokevirtual 80, 3) := by decide +kernel
theorem dX5_setRain_5 : decode cX5_setRain 5 = .ok (.astore_n 3, 1) := by decide +kernel
theorem dX5_setRain_6 : decode cX5_setRain 6 = .ok (.iload_n 2, 1) := by decide +kernel
theorem dX5_setRain_7 : decode cX5_setRain 7 = .ok (.iconst 0, 1) := by decide +kernel
theorem dX5_setRain_8 : decode cX5_setRain 8 = .ok (.sipush 500, 3) := by decide +kernel
theorem dX5_setRain_11 : decode cX5_setRain 11 = .ok (.invokestatic 43, 3) := by decide +kernel
theorem dX5_setRain_14 : decode cX5_setRain 14 = .ok (.ifCond .ne 13, 3) := by decide +kernel
theorem dX5_setRain_17 : decode cX5_setRain 17 = .ok (.new 54, 3) := by decide +kernel
theorem dX5_setRain_20 : decode cX5_setRain 20 = .ok (.dup, 1) := by decide +kernel
theorem dX5_setRain_21 : decode cX5_setRain 21 = .ok (.ldc 138, 2) := by decide +kernel
theorem dX5_setRain_23 : decode cX5_setRain 23 = .ok (.invokespecial 58, 3) := by decide +kernel
theorem dX5_setRain_26 : decode cX5_setRain 26 = .ok (.athrow, 1) := by decide +kernel
theorem dX5_setRain_27 : decode cX5_setRain 27 = .ok (.aload_n 3, 1) := by decide +kernel
theorem dX5_setRain_28 : decode cX5_setRain 28 = .ok (.getfield 140, 3) := by decide +kernel
theorem dX5_setRain_31 : decode cX5_setRain 31 = .ok (.istore 4, 2) := by decide +kernel
theorem dX5_setRain_33 : decode cX5_setRain 33 = .ok (.aload_n 3, 1) := by decide +kernel
theorem dX5_setRain_34 : decode cX5_setRain 34 = .ok (.iload_n 2, 1) := by decide +kernel
theorem dX5_setRain_35 : decode cX5_setRain 35 = .ok (.putfield 140, 3) := by decide +kernel
theorem dX5_setRain_38 : decode cX5_setRain 38 = .ok (.iload 4, 2) := by decide +kernel
theorem dX5_setRain_40 : decode cX5_setRain 40 = .ok (.ireturn, 1) := by decide +kernel
theorem dX5_pass_0 : decode cX5_pass 0 = .ok (.iload_n 1, 1) := by decide +kernel
theorem dX5_pass_1 : decode cX5_pass 1 = .ok (.iconst 1, 1) := by decide +kernel
theorem dX5_pass_2 : decode cX5_pass 2 = .ok (.bipush 24, 2) := by decide +kernel
theorem dX5_pass_4 : decode cX5_pass 4 = .ok (.invokestatic 43, 3) := by decide +kernel
theorem dX5_pass_7 : decode cX5_pass 7 = .ok (.ifCond .ne 13, 3) := by decide +kernel
theorem dX5_pass_10 : decode cX5_pass 10 = .ok (.new 54, 3) := by decide +kernel
theorem dX5_pass_13 : decode cX5_pass 13 = .ok (.dup, 1) := by decide +kernel
theorem dX5_pass_14 : decode cX5_pass 14 = .ok (.ldc 143, 2) := by decide +kernel
theorem dX5_pass_16 : decode cX5_pass 16 = .ok (.invokespecial 58, 3) := by decide +kernel
theorem dX5_pass_19 : decode cX5_pass 19 = .ok (.athrow, 1) := by decide +kernel
theorem dX5_pass_20 : decode cX5_pass 20 = .ok (.aload_n 0, 1) := by decide +kernel
theorem dX5_pass_21 : decode cX5_pass 21 = .ok (.getfield 10, 3) := by decide +kernel
theorem dX5_pass_24 : decode cX5_pass 24 = .ok (.invokevirtual 145, 3) := by decide +kernel
theorem dX5_pass_27 : decode cX5_pass 27 = .ok (.ifCond .eq 13, 3) := by decide +kernel
theorem dX5_pass_30 : decode cX5_pass 30 = .ok (.new 63, 3) := by decide +kernel
theorem dX5_pass_33 : decode cX5_pass 33 = .ok (.dup, 1) := by decide +kernel
theorem dX5_pass_34 : decode cX5_pass 34 = .ok (.ldc 149, 2) := by decide +kernel
theorem dX5_pass_36 : decode cX5_pass 36 = .ok (.invokespecial 67, 3) := by decide +kernel
theorem dX5_pass_39 : decode cX5_pass 39 = .ok (.athrow, 1) := by decide +kernel
theorem dX5_pass_40 : decode cX5_pass 40 = .ok (.iload_n 1, 1) := by decide +kernel
theorem dX5_pass_41 : decode cX5_pass 41 = .ok (.bipush 60, 2) := by decide +kernel
theorem dX5_pass_43 : decode cX5_pass 43 = .ok (.aload_n 0, 1) := by decide +kernel
theorem dX5_pass_44 : decode cX5_pass 44 = .ok (.getfield 151, 3) := by decide +kernel
theorem dX5_pass_47 : decode cX5_pass 47 = .ok (.isub, 1) := by decide +kernel
theorem dX5_pass_48 : decode cX5_pass 48 = .ok (.if_icmp .le 13, 3) := by decide +kernel
theorem dX5_pass_51 : decode cX5_pass 51 = .ok (.new 63, 3) := by decide +kernel
theorem dX5_pass_54 : decode cX5_pass 54 = .ok (.dup, 1) := by decide +kernel
theorem dX5_pass_55 : decode cX5_pass 55 = .ok (.ldc 154, 2) := by decide +kernel
theorem dX5_pass_57 : decode cX5_pass 57 = .ok (.invokespecial 67, 3) := by decide +kernel
theorem dX5_pass_60 : decode cX5_pass 60 = .ok (.athrow, 1) := by decide +kernel
theorem dX5_pass_61 : decode cX5_pass 61 = .ok (.iconst 0, 1) := by decide +kernel
theorem dX5_pass_62 : decode cX5_pass 62 = .ok (.istore_n 2, 1) := by decide +kernel
theorem dX5_pass_63 : decode cX5_pass 63 = .ok (.iload_n 2, 1) := by decide +kernel
theorem dX5_pass_64 : decode cX5_pass 64 = .ok (.iload_n 1, 1) := by decide +kernel
theorem dX5_pass_65 : decode cX5_pass 65 = .ok (.if_icmp .ge 13, 3) := by decide +kernel
theorem dX5_pass_68 : decode cX5_pass 68 = .ok (.aload_n 0, 1) := by decide +kernel
theorem dX5_pass_69 : decode cX5_pass 69 = .ok (.invokevirtual 156, 3) := by decide +kernel
theorem dX5_pass_72 : decode cX5_pass 72 = .ok (.iinc 2 1, 3) := by decide +kernel
theorem dX5_pass_75 : decode cX5_pass 75 = .ok (.goto (-12), 3) := by decide +kernel
theorem dX5_pass_78 : decode cX5_pass 78 = .ok (.aload_n 0, 1) := by decide +kernel
theorem dX5_pass_79 : decode cX5_pass 79 = .ok (.getfield 151, 3) := by decide +kernel
theorem dX5_pass_82 : decode cX5_pass 82 = .ok (.ireturn, 1) := by decide +kernel
theorem dX5_clock_0 : decode cX5_clock 0 = .ok (.aload_n 0, 1) := by decide +kernel
theorem dX5_clock_1 : decode cX5_clock 1 = .ok (.getfield 151, 3) := by decide +kernel
theorem dX5_clock_4 : decode cX5_clock 4 = .ok (.ireturn, 1) := by decide +kernel
theorem dX5_volumeOf_0 : decode cX5_volumeOf 0 = .ok (.aload_n 0, 1) := by decide +kernel
theorem dX5_volumeOf_1 : decode cX5_volumeOf 1 = .ok (.iload_n 1, 1) := by decide +kernel
theorem dX5_volumeOf_2 : decode cX5_volumeOf 2 = .ok (.invokevirtual 108, 3) := by decide +kernel
theorem dX5_volumeOf_5 : decode cX5_volumeOf 5 = .ok (.aload_n 0, 1) := by decide +kernel
theorem dX5_volumeOf_6 : decode cX5_volumeOf 6 = .ok (.getfield 25, 3) := by decide +kernel
theorem dX5_volumeOf_9 : decode cX5_volumeOf 9 = .ok (.getfield 159, 3) := by decide +kernel
theorem dX5_volumeOf_12 : decode cX5_volumeOf 12 = .ok (.iload_n 1, 1) := by decide +kernel
theorem dX5_volumeOf_13 : decode cX5_volumeOf 13 = .ok (.iaload, 1) := by decide +kernel
theorem dX5_volumeOf_14 : decode cX5_volumeOf 14 = .ok (.ireturn, 1) := by decide +kernel
theorem dX5_levelOf_0 : decode cX5_levelOf 0 = .ok (.aload_n 0, 1) := by decide +kernel
theorem dX5_levelOf_1 : decode cX5_levelOf 1 = .ok (.iload_n 1, 1) := by decide +kernel
theorem dX5_levelOf_2 : decode cX5_levelOf 2 = .ok (.invokevirtual 108, 3) := by decide +kernel
theorem dX5_levelOf_5 : decode cX5_levelOf 5 = .ok (.aload_n 0, 1) := by decide +kernel
theorem dX5_levelOf_6 : decode cX5_levelOf 6 = .ok (.aload_n 0, 1) := by decide +kernel
theorem dX5_levelOf_7 : decode cX5_levelOf 7 = .ok (.getfield 25, 3) := by decide +kernel
theorem dX5_levelOf_10 : decode cX5_levelOf 10 = .ok (.iload_n 1, 1) := by decide +kernel
theorem dX5_levelOf_11 : decode cX5_levelOf 11 = .ok (.invokevirtual 163, 3) := by decide +kernel
theorem dX5_levelOf_14 : decode cX5_levelOf 14 = .ok (.ireturn, 1) := by decide +kernel
theorem dX5_streetVolume_0 : decode cX5_streetVolume 0 = .ok (.aload_n 0, 1) := by decide +kernel
theorem dX5_streetVolume_1 : decode cX5_streetVolume 1 = .ok (.iload_n 1, 1) := by decide +kernel
theorem dX5_streetVolume_2 : decode cX5_streetVolume 2 = .ok (.invokevirtual 108, 3) := by decide +kernel
theorem dX5_streetVolume_5 : decode cX5_streetVolume 5 = .ok (.aload_n 0, 1) := by decide +kernel
theorem dX5_streetVolume_6 : decode cX5_streetVolume 6 = .ok (.getfield 25, 3) := by decide +kernel
theorem dX5_streetVolume_9 : decode cX5_streetVolume 9 = .ok (.getfield 166, 3) := by decide +kernel
theorem dX5_streetVolume_12 : decode cX5_streetVolume 12 = .ok (.iload_n 1, 1) := by decide +kernel
theorem dX5_streetVolume_13 : decode cX5_streetVolume 13 = .ok (.iaload, 1) := by decide +kernel
theorem dX5_streetVolume_14 : decode cX5_streetVolume 14 = .ok (.ireturn, 1) := by decide +kernel
theorem dX5_rainTotal_0 : decode cX5_rainTotal 0 = .ok (.aload_n 0, 1) := by decide +kernel
theorem dX5_rainTotal_1 : decode cX5_rainTotal 1 = .ok (.getfield 169, 3) := by decide +kernel
theorem dX5_rainTotal_4 : decode cX5_rainTotal 4 = .ok (.ireturn, 1) := by decide +kernel
theorem dX5_riverTotal_0 : decode cX5_riverTotal 0 = .ok (.aload_n 0, 1) := by decide +kernel
theorem dX5_riverTotal_1 : decode cX5_riverTotal 1 = .ok (.getfield 25, 3) := by decide +kernel
theorem dX5_riverTotal_4 : decode cX5_riverTotal 4 = .ok (.getfield 172, 3) := by decide +kernel
theorem dX5_riverTotal_7 : decode cX5_riverTotal 7 = .ok (.ireturn, 1) := by decide +kernel
theorem dX5_heldTotal_0 : decode cX5_heldTotal 0 = .ok (.aload_n 0, 1) := by decide +kernel
theorem dX5_heldTotal_1 : decode cX5_heldTotal 1 = .ok (.getfield 25, 3) := by decide +kernel
theorem dX5_heldTotal_4 : decode cX5_heldTotal 4 = .ok (.invokevirtual 175, 3) := by decide +kernel
theorem dX5_heldTotal_7 : decode cX5_heldTotal 7 = .ok (.ireturn, 1) := by decide +kernel
theorem dX5_isBalanced_0 : decode cX5_isBalanced 0 = .ok (.aload_n 0, 1) := by decide +kernel
theorem dX5_isBalanced_1 : decode cX5_isBalanced 1 = .ok (.getfield 169, 3) := by decide +kernel
theorem dX5_isBalanced_4 : decode cX5_isBalanced 4 = .ok (.aload_n 0, 1) := by decide +kernel
theorem dX5_isBalanced_5 : decode cX5_isBalanced 5 = .ok (.getfield 25, 3) := by decide +kernel
theorem dX5_isBalanced_8 : decode cX5_isBalanced 8 = .ok (.invokevirtual 175, 3) := by decide +kernel
theorem dX5_isBalanced_11 : decode cX5_isBalanced 11 = .ok (.aload_n 0, 1) := by decide +kernel
theorem dX5_isBalanced_12 : decode cX5_isBalanced 12 = .ok (.getfield 25, 3) := by decide +kernel
theorem dX5_isBalanced_15 : decode cX5_isBalanced 15 = .ok (.getfield 172, 3) := by decide +kernel
theorem dX5_isBalanced_18 : decode cX5_isBalanced 18 = .ok (.iadd, 1) := by decide +kernel
theorem dX5_isBalanced_19 : decode cX5_isBalanced 19 = .ok (.if_icmp .ne 7, 3) := by decide +kernel
theorem dX5_isBalanced_22 : decode cX5_isBalanced 22 = .ok (.iconst 1, 1) := by decide +kernel
theorem dX5_isBalanced_23 : decode cX5_isBalanced 23 = .ok (.goto 4, 3) := by decide +kernel
theorem dX5_isBalanced_26 : decode cX5_isBalanced 26 = .ok (.iconst 0, 1) := by decide +kernel
theorem dX5_isBalanced_27 : decode cX5_isBalanced 27 = .ok (.ireturn, 1) := by decide +kernel
theorem dX5_depthAt_0 : decode cX5_depthAt 0 = .ok (.aload_n 0, 1) := by decide +kernel
theorem dX5_depthAt_1 : decode cX5_depthAt 1 = .ok (.iload_n 1, 1) := by decide +kernel
theorem dX5_depthAt_2 : decode cX5_depthAt 2 = .ok (.iload_n 2, 1) := by decide +kernel
theorem dX5_depthAt_3 : decode cX5_depthAt 3 = .ok (.invokevirtual 178, 3) := by decide +kernel
theorem dX5_depthAt_6 : decode cX5_depthAt 6 = .ok (.astore_n 3, 1) := by decide +kernel
theorem dX5_depthAt_7 : decode cX5_depthAt 7 = .ok (.aload_n 3, 1) := by decide +kernel
theorem dX5_depthAt_8 : decode cX5_depthAt 8 = .ok (.iload_n 2, 1) := by decide +kernel
theorem dX5_depthAt_9 : decode cX5_depthAt 9 = .ok (.aload_n 0, 1) := by decide +kernel
theorem dX5_depthAt_10 : decode cX5_depthAt 10 = .ok (.getfield 25, 3) := by decide +kernel
theorem dX5_depthAt_13 : decode cX5_depthAt 13 = .ok (.getfield 166, 3) := by decide +kernel
theorem dX5_depthAt_16 : decode cX5_depthAt 16 = .ok (.iload_n 1, 1) := by decide +kernel
theorem dX5_depthAt_17 : decode cX5_depthAt 17 = .ok (.iaload, 1) := by decide +kernel
theorem dX5_depthAt_18 : decode cX5_depthAt 18 = .ok (.invokevirtual 182, 3) := by decide +kernel
theorem dX5_depthAt_21 : decode cX5_depthAt 21 = .ok (.ireturn, 1) := by decide +kernel
theorem dX5_depthByPouring_0 : decode cX5_depthByPouring 0 = .ok (.aload_n 0, 1) := by decide +kernel
theorem dX5_depthByPouring_1 : decode cX5_depthByPouring 1 = .ok (.iload_n 1, 1) := by decide +kernel
theorem dX5_depthByPouring_2 : decode cX5_depthByPouring 2 = .ok (.iload_n 2, 1) := by decide +kernel
theorem dX5_depthByPouring_3 : decode cX5_depthByPouring 3 = .ok (.invokevirtual 178, 3) := by decide +kernel
theorem dX5_depthByPouring_6 : decode cX5_depthByPouring 6 = .ok (.astore_n 3, 1) := by decide +kernel
theorem dX5_depthByPouring_7 : decode cX5_depthByPouring 7 = .ok (.aload_n 3, 1) := by decide +kernel
theorem dX5_depthByPouring_8 : decode cX5_depthByPouring 8 = .ok (.iload_n 2, 1) := by decide +kernel
theorem dX5_depthByPouring_9 : decode cX5_depthByPouring 9 = .ok (.aload_n 0, 1) := by decide +kernel
theorem dX5_depthByPouring_10 : decode cX5_depthByPouring 10 = .ok (.getfield 25, 3) := by decide +kernel
theorem dX5_depthByPouring_13 : decode cX5_depthByPouring 13 = .ok (.getfield 166, 3) := by decide +kernel
theorem dX5_depthByPouring_16 : decode cX5_depthByPouring 16 = .ok (.iload_n 1, 1) := by decide +kernel
theorem dX5_depthByPouring_17 : decode cX5_depthByPouring 17 = .ok (.iaload, 1) := by decide +kernel
theorem dX5_depthByPouring_18 : decode cX5_depthByPouring 18 = .ok (.invokevirtual 186, 3) := by decide +kernel
theorem dX5_depthByPouring_21 : decode cX5_depthByPouring 21 = .ok (.ireturn, 1) := by decide +kernel
theorem dX5_depthThen_0 : decode cX5_depthThen 0 = .ok (.aload_n 0, 1) := by decide +kernel
theorem dX5_depthThen_1 : decode cX5_depthThen 1 = .ok (.iload_n 1, 1) := by decide +kernel
theorem dX5_depthThen_2 : decode cX5_depthThen 2 = .ok (.iload_n 2, 1) := by decide +kernel
theorem dX5_depthThen_3 : decode cX5_depthThen 3 = .ok (.invokevirtual 178, 3) := by decide +kernel
theorem dX5_depthThen_6 : decode cX5_depthThen 6 = .ok (.astore 4, 2) := by decide +kernel
theorem dX5_depthThen_8 : decode cX5_depthThen 8 = .ok (.aload_n 0, 1) := by decide +kernel
theorem dX5_depthThen_9 : decode cX5_depthThen 9 = .ok (.iload_n 3, 1) := by decide +kernel
theorem dX5_depthThen_10 : decode cX5_depthThen 10 = .ok (.invokevirtual 189, 3) := by decide +kernel
theorem dX5_depthThen_13 : decode cX5_depthThen 13 = .ok (.aload 4, 2) := by decide +kernel
theorem dX5_depthThen_15 : decode cX5_depthThen 15 = .ok (.iload_n 2, 1) := by decide +kernel
theorem dX5_depthThen_16 : decode cX5_depthThen 16 = .ok (.aload 4, 2) := by decide +kernel
theorem dX5_depthThen_18 : decode cX5_depthThen 18 = .ok (.getfield 192, 3) := by decide +kernel
theorem dX5_depthThen_21 : decode cX5_depthThen 21 = .ok (.iload_n 3, 1) := by decide +kernel
theorem dX5_depthThen_22 : decode cX5_depthThen 22 = .ok (.iaload, 1) := by decide +kernel
theorem dX5_depthThen_23 : decode cX5_depthThen 23 = .ok (.invokevirtual 182, 3) := by decide +kernel
theorem dX5_depthThen_26 : decode cX5_depthThen 26 = .ok (.ireturn, 1) := by decide +kernel
theorem dX5_wetCells_0 : decode cX5_wetCells 0 = .ok (.aload_n 0, 1) := by decide +kernel
theorem dX5_wetCells_1 : decode cX5_wetCells 1 = .ok (.iload_n 1, 1) := by decide +kernel
theorem dX5_wetCells_2 : decode cX5_wetCells 2 = .ok (.invokevirtual 80, 3) := by decide +kernel
theorem dX5_wetCells_5 : decode cX5_wetCells 5 = .ok (.getfield 84, 3) := by decide +kernel
theorem dX5_wetCells_8 : decode cX5_wetCells 8 = .ok (.aload_n 0, 1) := by decide +kernel
theorem dX5_wetCells_9 : decode cX5_wetCells 9 = .ok (.getfield 25, 3) := by decide +kernel
theorem dX5_wetCells_12 : decode cX5_wetCells 12 = .ok (.getfield 166, 3) := by decide +kernel
theorem dX5_wetCells_15 : decode cX5_wetCells 15 = .ok (.iload_n 1, 1) := by decide +kernel
theorem dX5_wetCells_16 : decode cX5_wetCells 16 = .ok (.iaload, 1) := by decide +kernel
theorem dX5_wetCells_17 : decode cX5_wetCells 17 = .ok (.invokevirtual 195, 3) := by decide +kernel
theorem dX5_wetCells_20 : decode cX5_wetCells 20 = .ok (.ireturn, 1) := by decide +kernel
theorem dX5_wetHours_0 : decode cX5_wetHours 0 = .ok (.aload_n 0, 1) := by decide +kernel
theorem dX5_wetHours_1 : decode cX5_wetHours 1 = .ok (.iload_n 1, 1) := by decide +kernel
theorem dX5_wetHours_2 : decode cX5_wetHours 2 = .ok (.iload_n 2, 1) := by decide +kernel
theorem dX5_wetHours_3 : decode cX5_wetHours 3 = .ok (.invokevirtual 178, 3) := by decide +kernel
theorem dX5_wetHours_6 : decode cX5_wetHours 6 = .ok (.astore_n 3, 1) := by decide +kernel
theorem dX5_wetHours_7 : decode cX5_wetHours 7 = .ok (.iconst 0, 1) := by decide +kernel
theorem dX5_wetHours_8 : decode cX5_wetHours 8 = .ok (.istore 4, 2) := by decide +kernel
theorem dX5_wetHours_10 : decode cX5_wetHours 10 = .ok (.iconst 1, 1) := by decide +kernel
theorem dX5_wetHours_11 : decode cX5_wetHours 11 = .ok (.istore 5, 2) := by decide +kernel
theorem dX5_wetHours_13 : decode cX5_wetHours 13 = .ok (.iload 5, 2) := by decide +kernel
theorem dX5_wetHours_15 : decode cX5_wetHours 15 = .ok (.aload_n 0, 1) := by decide +kernel
theorem dX5_wetHours_16 : decode cX5_wetHours 16 = .ok (.getfield 151, 3) := by decide +kernel
theorem dX5_wetHours_19 : decode cX5_wetHours 19 = .ok (.if_icmp .gt 27, 3) := by decide +kernel
theorem dX5_wetHours_22 : decode cX5_wetHours 22 = .ok (.aload_n 3, 1) := by decide +kernel
theorem dX5_wetHours_23 : decode cX5_wetHours 23 = .ok (.iload_n 2, 1) := by decide +kernel
theorem dX5_wetHours_24 : decode cX5_wetHours 24 = .ok (.aload_n 3, 1) := by decide +kernel
theorem dX5_wetHours_25 : decode cX5_wetHours 25 = .ok (.getfield 192, 3) := by decide +kernel
theorem dX5_wetHours_28 : decode cX5_wetHours 28 = .ok (.iload 5, 2) := by decide +kernel
theorem dX5_wetHours_30 : decode cX5_wetHours 30 = .ok (.iaload, 1) := by decide +kernel
theorem dX5_wetHours_31 : decode cX5_wetHours 31 = .ok (.invokevirtual 199, 3) := by decide +kernel
theorem dX5_wetHours_34 : decode cX5_wetHours 34 = .ok (.ifCond .eq 6, 3) := by decide +kernel
theorem dX5_wetHours_37 : decode cX5_wetHours 37 = .ok (.iinc 4 1, 3) := by decide +kernel
theorem dX5_wetHours_40 : decode cX5_wetHours 40 = .ok (.iinc 5 1, 3) := by decide +kernel
theorem dX5_wetHours_43 : decode cX5_wetHours 43 = .ok (.goto (-30), 3) := by decide +kernel
theorem dX5_wetHours_46 : decode cX5_wetHours 46 = .ok (.iload 4, 2) := by decide +kernel
theorem dX5_wetHours_48 : decode cX5_wetHours 48 = .ok (.ireturn, 1) := by decide +kernel
theorem dX5_floodedSoFar_0 : decode cX5_floodedSoFar 0 = .ok (.aload_n 0, 1) := by decide +kernel
theorem dX5_floodedSoFar_1 : decode cX5_floodedSoFar 1 = .ok (.getfield 203, 3) := by decide +kernel
theorem dX5_floodedSoFar_4 : decode cX5_floodedSoFar 4 = .ok (.ireturn, 1) := by decide +kernel
theorem dX5_addHouse_0 : decode cX5_addHouse 0 = .ok (.aload_n 0, 1) := by decide +kernel
theorem dX5_addHouse_1 : decode cX5_addHouse 1 = .ok (.iload_n 1, 1) := by decide +kernel
theorem dX5_addHouse_2 : decode cX5_addHouse 2 = .ok (.iload_n 2, 1) := by decide +kernel
theorem dX5_addHouse_3 : decode cX5_addHouse 3 = .ok (.invokevirtual 178, 3) := by decide +kernel
theorem dX5_addHouse_6 : decode cX5_addHouse 6 = .ok (.astore 5, 2) := by decide +kernel
theorem dX5_addHouse_8 : decode cX5_addHouse 8 = .ok (.iload_n 3, 1) := by decide +kernel
theorem dX5_addHouse_9 : decode cX5_addHouse 9 = .ok (.iconst 1, 1) := by decide +kernel
theorem dX5_addHouse_10 : decode cX5_addHouse 10 = .ok (.bipush 100, 2) := by decide +kernel
theorem dX5_addHouse_12 : decode cX5_addHouse 12 = .ok (.invokestatic 43, 3) := by decide +kernel
theorem dX5_addHouse_15 : decode cX5_addHouse 15 = .ok (.ifCond .eq 15, 3) := by decide +kernel
theorem dX5_addHouse_18 : decode cX5_addHouse 18 = .ok (.iload 4, 2) := by decide +kernel
theorem dX5_addHouse_20 : decode cX5_addHouse 20 = .ok (.iconst 0, 1) := by decide +kernel
theorem dX5_addHouse_21 : decode cX5_addHouse 21 = .ok (.sipush 5000, 3) := by decide +kernel
theorem dX5_addHouse_24 : decode cX5_addHouse 24 = .ok (.invokestatic 43, 3) := by decide +kernel
theorem dX5_addHouse_27 : decode cX5_addHouse 27 = .ok (.ifCond .ne 13, 3) := by decide +kernel
theorem dX5_addHouse_30 : decode cX5_addHouse 30 = .ok (.new 54, 3) := by decide +kernel
theorem dX5_addHouse_33 : decode cX5_addHouse 33 = .ok (.dup, 1) := by decide +kernel
theorem dX5_addHouse_34 : decode cX5_addHouse 34 = .ok (.ldc 206, 2) := by decide +kernel
theorem dX5_addHouse_36 : decode cX5_addHouse 36 = .ok (.invokespecial 58, 3) := by decide +kernel
theorem dX5_addHouse_39 : decode cX5_addHouse 39 = .ok (.athrow, 1) := by decide +kernel
theorem dX5_addHouse_40 : decode cX5_addHouse 40 = .ok (.aload_n 0, 1) := by decide +kernel
theorem dX5_addHouse_41 : decode cX5_addHouse 41 = .ok (.getfield 19, 3) := by decide +kernel
theorem dX5_addHouse_44 : decode cX5_addHouse 44 = .ok (.invokevirtual 39, 3) := by decide +kernel
theorem dX5_addHouse_47 : decode cX5_addHouse 47 = .ok (.istore 6, 2) := by decide +kernel
theorem dX5_addHouse_49 : decode cX5_addHouse 49 = .ok (.iload 6, 2) := by decide +kernel
theorem dX5_addHouse_51 : decode cX5_addHouse 51 = .ok (.bipush 10, 2) := by decide +kernel
theorem dX5_addHouse_53 : decode cX5_addHouse 53 = .ok (.if_icmp .lt 13, 3) := by decide +kernel
theorem dX5_addHouse_56 : decode cX5_addHouse 56 = .ok (.new 63, 3) := by decide +kernel
theorem dX5_addHouse_59 : decode cX5_addHouse 59 = .ok (.dup, 1) := by decide +kernel
theorem dX5_addHouse_60 : decode cX5_addHouse 60 = .ok (.ldc 208, 2) := by decide +kernel
theorem dX5_addHouse_62 : decode cX5_addHouse 62 = .ok (.invokespecial 67, 3) := by decide +kernel
theorem dX5_addHouse_65 : decode cX5_addHouse 65 = .ok (.athrow, 1) := by decide +kernel
theorem dX5_addHouse_66 : decode cX5_addHouse 66 = .ok (.aload_n 0, 1) := by decide +kernel
theorem dX5_addHouse_67 : decode cX5_addHouse 67 = .ok (.getfield 19, 3) := by decide +kernel
theorem dX5_addHouse_70 : decode cX5_addHouse 70 = .ok (.new 210, 3) := by decide +kernel
theorem dX5_addHouse_73 : decode cX5_addHouse 73 = .ok (.dup, 1) := by decide +kernel
theorem dX5_addHouse_74 : decode cX5_addHouse 74 = .ok (.aload 5, 2) := by decide +kernel
theorem dX5_addHouse_76 : decode cX5_addHouse 76 = .ok (.iload_n 2, 1) := by decide +kernel
theorem dX5_addHouse_77 : decode cX5_addHouse 77 = .ok (.iload_n 3, 1) := by decide +kernel
theorem dX5_addHouse_78 : decode cX5_addHouse 78 = .ok (.iload 4, 2) := by decide +kernel
theorem dX5_addHouse_80 : decode cX5_addHouse 80 = .ok (.invokespecial 212, 3) := by decide +kernel
theorem dX5_addHouse_83 : decode cX5_addHouse 83 = .ok (.invokevirtual 76, 3) := by decide +kernel
theorem dX5_addHouse_86 : decode cX5_addHouse 86 = .ok (.pop, 1) := by decide +kernel
theorem dX5_addHouse_87 : decode cX5_addHouse 87 = .ok (.iload 6, 2) := by decide +kernel
theorem dX5_addHouse_89 : decode cX5_addHouse 89 = .ok (.ireturn, 1) := by decide +kernel
theorem dX5_houseCount_0 : decode cX5_houseCount 0 = .ok (.aload_n 0, 1) := by decide +kernel
theorem dX5_houseCount_1 : decode cX5_houseCount 1 = .ok (.getfield 19, 3) := by decide +kernel
theorem dX5_houseCount_4 : decode cX5_houseCount 4 = .ok (.invokevirtual 39, 3) := by decide +kernel
theorem dX5_houseCount_7 : decode cX5_houseCount 7 = .ok (.ireturn, 1) := by decide +kernel
theorem dX5_wasWet_0 : decode cX5_wasWet 0 = .ok (.aload_n 0, 1) := by decide +kernel
theorem dX5_wasWet_1 : decode cX5_wasWet 1 = .ok (.iload_n 1, 1) := by decide +kernel
theorem dX5_wasWet_2 : decode cX5_wasWet 2 = .ok (.invokevirtual 215, 3) := by decide +kernel
theorem dX5_wasWet_5 : decode cX5_wasWet 5 = .ok (.astore_n 3, 1) := by decide +kernel
theorem dX5_wasWet_6 : decode cX5_wasWet 6 = .ok (.aload_n 0, 1) := by decide +kernel
theorem dX5_wasWet_7 : decode cX5_wasWet 7 = .ok (.iload_n 2, 1) := by decide +kernel
theorem dX5_wasWet_8 : decode cX5_wasWet 8 = .ok (.invokevirtual 189, 3) := by decide +kernel
theorem dX5_wasWet_11 : decode cX5_wasWet 11 = .ok (.aload_n 3, 1) := by decide +kernel
theorem dX5_wasWet_12 : decode cX5_wasWet 12 = .ok (.iload_n 2, 1) := by decide +kernel
theorem dX5_wasWet_13 : decode cX5_wasWet 13 = .ok (.invokevirtual 219, 3) := by decide +kernel
theorem dX5_wasWet_16 : decode cX5_wasWet 16 = .ok (.ireturn, 1) := by decide +kernel
theorem dX5_worthOf_0 : decode cX5_worthOf 0 = .ok (.aload_n 0, 1) := by decide +kernel
theorem dX5_worthOf_1 : decode cX5_worthOf 1 = .ok (.iload_n 1, 1) := by decide +kernel
theorem dX5_worthOf_2 : decode cX5_worthOf 2 = .ok (.invokevirtual 215, 3) := by decide +kernel
theorem dX5_worthOf_5 : decode cX5_worthOf 5 = .ok (.astore_n 3, 1) := by decide +kernel
theorem dX5_worthOf_6 : decode cX5_worthOf 6 = .ok (.aload_n 0, 1) := by decide +kernel
theorem dX5_worthOf_7 : decode cX5_worthOf 7 = .ok (.iload_n 2, 1) := by decide +kernel
theorem dX5_worthOf_8 : decode cX5_worthOf 8 = .ok (.invokevirtual 189, 3) := by decide +kernel
theorem dX5_worthOf_11 : decode cX5_worthOf 11 = .ok (.aload_n 3, 1) := by decide +kernel
theorem dX5_worthOf_12 : decode cX5_worthOf 12 = .ok (.iload_n 2, 1) := by decide +kernel
theorem dX5_worthOf_13 : decode cX5_worthOf 13 = .ok (.invokevirtual 223, 3) := by decide +kernel
theorem dX5_worthOf_16 : decode cX5_worthOf 16 = .ok (.ireturn, 1) := by decide +kernel
theorem dX5_claim_0 : decode cX5_claim 0 = .ok (.aload_n 0, 1) := by decide +kernel
theorem dX5_claim_1 : decode cX5_claim 1 = .ok (.iload_n 1, 1) := by decide +kernel
theorem dX5_claim_2 : decode cX5_claim 2 = .ok (.invokevirtual 215, 3) := by decide +kernel
theorem dX5_claim_5 : decode cX5_claim 5 = .ok (.astore_n 3, 1) := by decide +kernel
theorem dX5_claim_6 : decode cX5_claim 6 = .ok (.aload_n 0, 1) := by decide +kernel
theorem dX5_claim_7 : decode cX5_claim 7 = .ok (.iload_n 2, 1) := by decide +kernel
theorem dX5_claim_8 : decode cX5_claim 8 = .ok (.invokevirtual 189, 3) := by decide +kernel
theorem dX5_claim_11 : decode cX5_claim 11 = .ok (.aload_n 3, 1) := by decide +kernel
theorem dX5_claim_12 : decode cX5_claim 12 = .ok (.iload_n 2, 1) := by decide +kernel
theorem dX5_claim_13 : decode cX5_claim 13 = .ok (.invokevirtual 219, 3) := by decide +kernel
theorem dX5_claim_16 : decode cX5_claim 16 = .ok (.ifCond .ne 13, 3) := by decide +kernel
theorem dX5_claim_19 : decode cX5_claim 19 = .ok (.new 226, 3) := by decide +kernel
theorem dX5_claim_22 : decode cX5_claim 22 = .ok (.dup, 1) := by decide +kernel
theorem dX5_claim_23 : decode cX5_claim 23 = .ok (.ldc 228, 2) := by decide +kernel
theorem dX5_claim_25 : decode cX5_claim 25 = .ok (.invokespecial 230, 3) := by decide +kernel
theorem dX5_claim_28 : decode cX5_claim 28 = .ok (.athrow, 1) := by decide +kernel
theorem dX5_claim_29 : decode cX5_claim 29 = .ok (.aload_n 3, 1) := by decide +kernel
theorem dX5_claim_30 : decode cX5_claim 30 = .ok (.getfield 231, 3) := by decide +kernel
theorem dX5_claim_33 : decode cX5_claim 33 = .ok (.iload_n 2, 1) := by decide +kernel
theorem dX5_claim_34 : decode cX5_claim 34 = .ok (.baload, 1) := by decide +kernel
theorem dX5_claim_35 : decode cX5_claim 35 = .ok (.ifCond .eq 13, 3) := by decide +kernel
theorem dX5_claim_38 : decode cX5_claim 38 = .ok (.new 63, 3) := by decide +kernel
theorem dX5_claim_41 : decode cX5_claim 41 = .ok (.dup, 1) := by decide +kernel
theorem dX5_claim_42 : decode cX5_claim 42 = .ok (.ldc 235, 2) := by decide +kernel
theorem dX5_claim_44 : decode cX5_claim 44 = .ok (.invokespecial 67, 3) := by decide +kernel
theorem dX5_claim_47 : decode cX5_claim 47 = .ok (.athrow, 1) := by decide +kernel
theorem dX5_claim_48 : decode cX5_claim 48 = .ok (.aload_n 3, 1) := by decide +kernel
theorem dX5_claim_49 : decode cX5_claim 49 = .ok (.iload_n 2, 1) := by decide +kernel
theorem dX5_claim_50 : decode cX5_claim 50 = .ok (.invokevirtual 237, 3) := by decide +kernel
theorem dX5_claim_53 : decode cX5_claim 53 = .ok (.ireturn, 1) := by decide +kernel
theorem dX5_claimWorst_0 : decode cX5_claimWorst 0 = .ok (.aload_n 0, 1) := by decide +kernel
theorem dX5_claimWorst_1 : decode cX5_claimWorst 1 = .ok (.iload_n 1, 1) := by decide +kernel
theorem dX5_claimWorst_2 : decode cX5_claimWorst 2 = .ok (.invokevirtual 215, 3) := by decide +kernel
theorem dX5_claimWorst_5 : decode cX5_claimWorst 5 = .ok (.astore_n 2, 1) := by decide +kernel
theorem dX5_claimWorst_6 : decode cX5_claimWorst 6 = .ok (.aload_n 2, 1) := by decide +kernel
theorem dX5_claimWorst_7 : decode cX5_claimWorst 7 = .ok (.aload_n 0, 1) := by decide +kernel
theorem dX5_claimWorst_8 : decode cX5_claimWorst 8 = .ok (.getfield 151, 3) := by decide +kernel
theorem dX5_claimWorst_11 : decode cX5_claimWorst 11 = .ok (.invokevirtual 240, 3) := by decide +kernel
theorem dX5_claimWorst_14 : decode cX5_claimWorst 14 = .ok (.istore_n 3, 1) := by decide +kernel
theorem dX5_claimWorst_15 : decode cX5_claimWorst 15 = .ok (.iload_n 3, 1) := by decide +kernel
theorem dX5_claimWorst_16 : decode cX5_claimWorst 16 = .ok (.ifCond .ne 13, 3) := by decide +kernel
theorem dX5_claimWorst_19 : decode cX5_claimWorst 19 = .ok (.new 243, 3) := by decide +kernel
theorem dX5_claimWorst_22 : decode cX5_claimWorst 22 = .ok (.dup, 1) := by decide +kernel
theorem dX5_claimWorst_23 : decode cX5_claimWorst 23 = .ok (.ldc 245, 2) := by decide +kernel
theorem dX5_claimWorst_25 : decode cX5_claimWorst 25 = .ok (.invokespecial 247, 3) := by decide +kernel
theorem dX5_claimWorst_28 : decode cX5_claimWorst 28 = .ok (.athrow, 1) := by decide +kernel
theorem dX5_claimWorst_29 : decode cX5_claimWorst 29 = .ok (.aload_n 2, 1) := by decide +kernel
theorem dX5_claimWorst_30 : decode cX5_claimWorst 30 = .ok (.iload_n 3, 1) := by decide +kernel
theorem dX5_claimWorst_31 : decode cX5_claimWorst 31 = .ok (.invokevirtual 237, 3) := by decide +kernel
theorem dX5_claimWorst_34 : decode cX5_claimWorst 34 = .ok (.ireturn, 1) := by decide +kernel
theorem dX5_claimCount_0 : decode cX5_claimCount 0 = .ok (.aload_n 0, 1) := by decide +kernel
theorem dX5_claimCount_1 : decode cX5_claimCount 1 = .ok (.iload_n 1, 1) := by decide +kernel
theorem dX5_claimCount_2 : decode cX5_claimCount 2 = .ok (.invokevirtual 215, 3) := by decide +kernel
theorem dX5_claimCount_5 : decode cX5_claimCount 5 = .ok (.getfield 248, 3) := by decide +kernel
theorem dX5_claimCount_8 : decode cX5_claimCount 8 = .ok (.ireturn, 1) := by decide +kernel
theorem dX5_paidTo_0 : decode cX5_paidTo 0 = .ok (.aload_n 0, 1) := by decide +kernel
theorem dX5_paidTo_1 : decode cX5_paidTo 1 = .ok (.iload_n 1, 1) := by decide +kernel
theorem dX5_paidTo_2 : decode cX5_paidTo 2 = .ok (.invokevirtual 215, 3) := by decide +kernel
theorem dX5_paidTo_5 : decode cX5_paidTo 5 = .ok (.getfield 251, 3) := by decide +kernel
theorem dX5_paidTo_8 : decode cX5_paidTo 8 = .ok (.ireturn, 1) := by decide +kernel
theorem dX5_paidTotal_0 : decode cX5_paidTotal 0 = .ok (.lconst 0, 1) := by decide +kernel
theorem dX5_paidTotal_1 : decode cX5_paidTotal 1 = .ok (.lstore_n 1, 1) := by decide +kernel
theorem dX5_paidTotal_2 : decode cX5_paidTotal 2 = .ok (.iconst 0, 1) := by decide +kernel
theorem dX5_paidTotal_3 : decode cX5_paidTotal 3 = .ok (.istore_n 3, 1) := by decide +kernel
theorem dX5_paidTotal_4 : decode cX5_paidTotal 4 = .ok (.iload_n 3, 1) := by decide +kernel
theorem dX5_paidTotal_5 : decode cX5_paidTotal 5 = .ok (.aload_n 0, 1) := by decide +kernel
theorem dX5_paidTotal_6 : decode cX5_paidTotal 6 = .ok (.getfield 19, 3) := by decide +kernel
theorem dX5_paidTotal_9 : decode cX5_paidTotal 9 = .ok (.invokevirtual 39, 3) := by decide +kernel
theorem dX5_paidTotal_12 : decode cX5_paidTotal 12 = .ok (.if_icmp .ge 27, 3) := by decide +kernel
theorem dX5_paidTotal_15 : decode cX5_paidTotal 15 = .ok (.lload_n 1, 1) := by decide +kernel
theorem dX5_paidTotal_16 : decode cX5_paidTotal 16 = .ok (.aload_n 0, 1) := by decide +kernel
theorem dX5_paidTotal_17 : decode cX5_paidTotal 17 = .ok (.getfield 19, 3) := by decide +kernel
theorem dX5_paidTotal_20 : decode cX5_paidTotal 20 = .ok (.iload_n 3, 1) := by decide +kernel
theorem dX5_paidTotal_21 : decode cX5_paidTotal 21 = .ok (.invokevirtual 127, 3) := by decide +kernel
theorem dX5_paidTotal_24 : decode cX5_paidTotal 24 = .ok (.checkcast 210, 3) := by decide +kernel
theorem dX5_paidTotal_27 : decode cX5_paidTotal 27 = .ok (.getfield 251, 3) := by decide +kernel
theorem dX5_paidTotal_30 : decode cX5_paidTotal 30 = .ok (.i2l, 1) := by decide +kernel
theorem dX5_paidTotal_31 : decode cX5_paidTotal 31 = .ok (.ladd, 1) := by decide +kernel
theorem dX5_paidTotal_32 : decode cX5_paidTotal 32 = .ok (.lstore_n 1, 1) := by decide +kernel
theorem dX5_paidTotal_33 : decode cX5_paidTotal 33 = .ok (.iinc 3 1, 3) := by decide +kernel
theorem dX5_paidTotal_36 : decode cX5_paidTotal 36 = .ok (.goto (-32), 3) := by decide +kernel
theorem dX5_paidTotal_39 : decode cX5_paidTotal 39 = .ok (.lload_n 1, 1) := by decide +kernel
theorem dX5_paidTotal_40 : decode cX5_paidTotal 40 = .ok (.lreturn, 1) := by decide +kernel
theorem dX5_meanPayment_0 : decode cX5_meanPayment 0 = .ok (.iconst 0, 1) := by decide +kernel
theorem dX5_meanPayment_1 : decode cX5_meanPayment 1 = .ok (.istore_n 1, 1) := by decide +kernel
theorem dX5_meanPayment_2 : decode cX5_meanPayment 2 = .ok (.iconst 0, 1) := by decide +kernel
theorem dX5_meanPayment_3 : decode cX5_meanPayment 3 = .ok (.istore_n 2, 1) := by decide +kernel
theorem dX5_meanPayment_4 : decode cX5_meanPayment 4 = .ok (.iload_n 2, 1) := by decide +kernel
theorem dX5_meanPayment_5 : decode cX5_meanPayment 5 = .ok (.aload_n 0, 1) := by decide +kernel
theorem dX5_meanPayment_6 : decode cX5_meanPayment 6 = .ok (.getfield 19, 3) := by decide +kernel
theorem dX5_meanPayment_9 : decode cX5_meanPayment 9 = .ok (.invokevirtual 39, 3) := by decide +kernel
theorem dX5_meanPayment_12 : decode cX5_meanPayment 12 = .ok (.if_icmp .ge 26, 3) := by decide +kernel
theorem dX5_meanPayment_15 : decode cX5_meanPayment 15 = .ok (.iload_n 1, 1) := by decide +kernel
theorem dX5_meanPayment_16 : decode cX5_meanPayment 16 = .ok (.aload_n 0, 1) := by decide +kernel
theorem dX5_meanPayment_17 : decode cX5_meanPayment 17 = .ok (.getfield 19, 3) := by decide +kernel
theorem dX5_meanPayment_20 : decode cX5_meanPayment 20 = .ok (.iload_n 2, 1) := by decide +kernel
theorem dX5_meanPayment_21 : decode cX5_meanPayment 21 = .ok (.invokevirtual 127, 3) := by decide +kernel
theorem dX5_meanPayment_24 : decode cX5_meanPayment 24 = .ok (.checkcast 210, 3) := by decide +kernel
theorem dX5_meanPayment_27 : decode cX5_meanPayment 27 = .ok (.getfield 248, 3) := by decide +kernel
theorem dX5_meanPayment_30 : decode cX5_meanPayment 30 = .ok (.iadd, 1) := by decide +kernel
theorem dX5_meanPayment_31 : decode cX5_meanPayment 31 = .ok (.istore_n 1, 1) := by decide +kernel
theorem dX5_meanPayment_32 : decode cX5_meanPayment 32 = .ok (.iinc 2 1, 3) := by decide +kernel
theorem dX5_meanPayment_35 : decode cX5_meanPayment 35 = .ok (.goto (-31), 3) := by decide +kernel
theorem dX5_meanPayment_38 : decode cX5_meanPayment 38 = .ok (.iload_n 1, 1) := by decide +kernel
theorem dX5_meanPayment_39 : decode cX5_meanPayment 39 = .ok (.ifCond .ne 14, 3) := by decide +kernel
theorem dX5_meanPayment_42 : decode cX5_meanPayment 42 = .ok (.new 254, 3) := by decide +kernel
theorem dX5_meanPayment_45 : decode cX5_meanPayment 45 = .ok (.dup, 1) := by decide +kernel
theorem dX5_meanPayment_46 : decode cX5_meanPayment 46 = .ok (.ldc_w 256, 3) := by decide +kernel
theorem dX5_meanPayment_49 : decode cX5_meanPayment 49 = .ok (.invokespecial 258, 3) := by decide +kernel
theorem dX5_meanPayment_52 : decode cX5_meanPayment 52 = .ok (.athrow, 1) := by decide +kernel
theorem dX5_meanPayment_53 : decode cX5_meanPayment 53 = .ok (.aload_n 0, 1) := by decide +kernel
theorem dX5_meanPayment_54 : decode cX5_meanPayment 54 = .ok (.invokevirtual 259, 3) := by decide +kernel
theorem dX5_meanPayment_57 : decode cX5_meanPayment 57 = .ok (.l2d, 1) := by decide +kernel
theorem dX5_meanPayment_58 : decode cX5_meanPayment 58 = .ok (.iload_n 1, 1) := by decide +kernel
theorem dX5_meanPayment_59 : decode cX5_meanPayment 59 = .ok (.i2d, 1) := by decide +kernel
theorem dX5_meanPayment_60 : decode cX5_meanPayment 60 = .ok (.ddiv, 1) := by decide +kernel
theorem dX5_meanPayment_61 : decode cX5_meanPayment 61 = .ok (.dreturn, 1) := by decide +kernel
theorem dX5_floodedWith_0 : decode cX5_floodedWith 0 = .ok (.aload_n 0, 1) := by decide +kernel
theorem dX5_floodedWith_1 : decode cX5_floodedWith 1 = .ok (.iconst (-1), 1) := by decide +kernel
theorem dX5_floodedWith_2 : decode cX5_floodedWith 2 = .ok (.iconst 0, 1) := by decide +kernel
theorem dX5_floodedWith_3 : decode cX5_floodedWith 3 = .ok (.invokevirtual 263, 3) := by decide +kernel
theorem dX5_floodedWith_6 : decode cX5_floodedWith 6 = .ok (.ireturn, 1) := by decide +kernel
theorem dX5_floodedWithOpening_0 : decode cX5_floodedWithOpening 0 = .ok (.aload_n 0, 1) := by decide +kernel
theorem dX5_floodedWithOpening_1 : decode cX5_floodedWithOpening 1 = .ok (.iload_n 1, 1) := by decide +kernel
theorem dX5_floodedWithOpening_2 : decode cX5_floodedWithOpening 2 = .ok (.invokevirtual 108, 3) := by decide +kernel
theorem dX5_floodedWithOpening_5 : decode cX5_floodedWithOpening 5 = .ok (.iload_n 2, 1) := by decide +kernel
theorem dX5_floodedWithOpening_6 : decode cX5_floodedWithOpening 6 = .ok (.invokestatic 102, 3) := by decide +kernel
theorem dX5_floodedWithOpening_9 : decode cX5_floodedWithOpening 9 = .ok (.aload_n 0, 1) := by decide +kernel
theorem dX5_floodedWithOpening_10 : decode cX5_floodedWithOpening 10 = .ok (.iload_n 1, 1) := by decide +kernel
theorem dX5_floodedWithOpening_11 : decode cX5_floodedWithOpening 11 = .ok (.iload_n 2, 1) := by decide +kernel
theorem dX5_floodedWithOpening_12 : decode cX5_floodedWithOpening 12 = .ok (.invokevirtual 263, 3) := by decide +kernel
theorem dX5_floodedWithOpening_15 : decode cX5_floodedWithOpening 15 = .ok (.ireturn, 1) := by decide +kernel
theorem dX5_bestOpening_0 : decode cX5_bestOpening 0 = .ok (.aload_n 0, 1) := by decide +kernel
theorem dX5_bestOpening_1 : decode cX5_bestOpening 1 = .ok (.iload_n 1, 1) := by decide +kernel
theorem dX5_bestOpening_2 : decode cX5_bestOpening 2 = .ok (.invokevirtual 108, 3) := by decide +kernel
theorem dX5_bestOpening_5 : decode cX5_bestOpening 5 = .ok (.iconst 0, 1) := by decide +kernel
theorem dX5_bestOpening_6 : decode cX5_bestOpening 6 = .ok (.istore_n 2, 1) := by decide +kernel
theorem dX5_bestOpening_7 : decode cX5_bestOpening 7 = .ok (.aload_n 0, 1) := by decide +kernel
theorem dX5_bestOpening_8 : decode cX5_bestOpening 8 = .ok (.iload_n 1, 1) := by decide +kernel
theorem dX5_bestOpening_9 : decode cX5_bestOpening 9 = .ok (.iconst 0, 1) := by decide +kernel
theorem dX5_bestOpening_10 : decode cX5_bestOpening 10 = .ok (.invokevirtual 263, 3) := by decide +kernel
theorem dX5_bestOpening_13 : decode cX5_bestOpening 13 = .ok (.istore_n 3, 1) := by decide +kernel
theorem dX5_bestOpening_14 : decode cX5_bestOpening 14 = .ok (.iconst 1, 1) := by decide +kernel
theorem dX5_bestOpening_15 : decode cX5_bestOpening 15 = .ok (.istore 4, 2) := by decide +kernel
theorem dX5_bestOpening_17 : decode cX5_bestOpening 17 = .ok (.iload 4, 2) := by decide +kernel
theorem dX5_bestOpening_19 : decode cX5_bestOpening 19 = .ok (.bipush 10, 2) := by decide +kernel
theorem dX5_bestOpening_21 : decode cX5_bestOpening 21 = .ok (.if_icmp .gt 30, 3) := by decide +kernel
theorem dX5_bestOpening_24 : decode cX5_bestOpening 24 = .ok (.aload_n 0, 1) := by decide +kernel
theorem dX5_bestOpening_25 : decode cX5_bestOpening 25 = .ok (.iload_n 1, 1) := by decide +kernel
theorem dX5_bestOpening_26 : decode cX5_bestOpening 26 = .ok (.iload 4, 2) := by decide +kernel
theorem dX5_bestOpening_28 : decode cX5_bestOpening 28 = .ok (.invokevirtual 263, 3) := by decide +kernel
theorem dX5_bestOpening_31 : decode cX5_bestOpening 31 = .ok (.istore 5, 2) := by decide +kernel
theorem dX5_bestOpening_33 : decode cX5_bestOpening 33 = .ok (.iload 5, 2) := by decide +kernel
theorem dX5_bestOpening_35 : decode cX5_bestOpening 35 = .ok (.iload_n 3, 1) := by decide +kernel
theorem dX5_bestOpening_36 : decode cX5_bestOpening 36 = .ok (.if_icmp .ge 9, 3) := by decide +kernel
theorem dX5_bestOpening_39 : decode cX5_bestOpening 39 = .ok (.iload 5, 2) := by decide +kernel
theorem dX5_bestOpening_41 : decode cX5_bestOpening 41 = .ok (.istore_n 3, 1) := by decide +kernel
theorem dX5_bestOpening_42 : decode cX5_bestOpening 42 = .ok (.iload 4, 2) := by decide +kernel
theorem dX5_bestOpening_44 : decode cX5_bestOpening 44 = .ok (.istore_n 2, 1) := by decide +kernel
theorem dX5_bestOpening_45 : decode cX5_bestOpening 45 = .ok (.iinc 4 1, 3) := by decide +kernel
theorem dX5_bestOpening_48 : decode cX5_bestOpening 48 = .ok (.goto (-31), 3) := by decide +kernel
theorem dX5_bestOpening_51 : decode cX5_bestOpening 51 = .ok (.iload_n 2, 1) := by decide +kernel
theorem dX5_bestOpening_52 : decode cX5_bestOpening 52 = .ok (.ireturn, 1) := by decide +kernel
theorem dX5_writeRule_0 : decode cX5_writeRule 0 = .ok (.aload_n 0, 1) := by decide +kernel
theorem dX5_writeRule_1 : decode cX5_writeRule 1 = .ok (.iload_n 1, 1) := by decide +kernel
theorem dX5_writeRule_2 : decode cX5_writeRule 2 = .ok (.invokevirtual 120, 3) := by decide +kernel
theorem dX5_writeRule_5 : decode cX5_writeRule 5 = .ok (.aload_n 0, 1) := by decide +kernel
theorem dX5_writeRule_6 : decode cX5_writeRule 6 = .ok (.getfield 16, 3) := by decide +kernel
theorem dX5_writeRule_9 : decode cX5_writeRule 9 = .ok (.iload_n 1, 1) := by decide +kernel
theorem dX5_writeRule_10 : decode cX5_writeRule 10 = .ok (.invokevirtual 127, 3) := by decide +kernel
theorem dX5_writeRule_13 : decode cX5_writeRule 13 = .ok (.checkcast 115, 3) := by decide +kernel
theorem dX5_writeRule_16 : decode cX5_writeRule 16 = .ok (.astore_n 2, 1) := by decide +kernel
theorem dX5_writeRule_17 : decode cX5_writeRule 17 = .ok (.aload_n 0, 1) := by decide +kernel
theorem dX5_writeRule_18 : decode cX5_writeRule 18 = .ok (.getfield 35, 3) := by decide +kernel
theorem dX5_writeRule_21 : decode cX5_writeRule 21 = .ok (.iconst 0, 1) := by decide +kernel
theorem dX5_writeRule_22 : decode cX5_writeRule 22 = .ok (.invokevirtual 266, 3) := by decide +kernel
theorem dX5_writeRule_25 : decode cX5_writeRule 25 = .ok (.aload_n 0, 1) := by decide +kernel
theorem dX5_writeRule_26 : decode cX5_writeRule 26 = .ok (.getfield 35, 3) := by decide +kernel
theorem dX5_writeRule_29 : decode cX5_writeRule 29 = .ok (.aload_n 2, 1) := by decide +kernel
theorem dX5_writeRule_30 : decode cX5_writeRule 30 = .ok (.getfield 269, 3) := by decide +kernel
theorem dX5_writeRule_33 : decode cX5_writeRule 33 = .ok (.invokevirtual 272, 3) := by decide +kernel
theorem dX5_writeRule_36 : decode cX5_writeRule 36 = .ok (.bipush 58, 2) := by decide +kernel
theorem dX5_writeRule_38 : decode cX5_writeRule 38 = .ok (.invokevirtual 275, 3) := by decide +kernel
theorem dX5_writeRule_41 : decode cX5_writeRule 41 = .ok (.aload_n 2, 1) := by decide +kernel
theorem dX5_writeRule_42 : decode cX5_writeRule 42 = .ok (.getfield 278, 3) := by decide +kernel
theorem dX5_writeRule_45 : decode cX5_writeRule 45 = .ok (.invokevirtual 272, 3) := by decide +kernel
theorem dX5_writeRule_48 : decode cX5_writeRule 48 = .ok (.pop, 1) := by decide +kernel
theorem dX5_writeRule_49 : decode cX5_writeRule 49 = .ok (.aload_n 0, 1) := by decide +kernel
theorem dX5_writeRule_50 : decode cX5_writeRule 50 = .ok (.getfield 35, 3) := by decide +kernel
theorem dX5_writeRule_53 : decode cX5_writeRule 53 = .ok (.aload_n 2, 1) := by decide +kernel
theorem dX5_writeRule_54 : decode cX5_writeRule 54 = .ok (.getfield 281, 3) := by decide +kernel
theorem dX5_writeRule_57 : decode cX5_writeRule 57 = .ok (.ifCond .eq 8, 3) := by decide +kernel
theorem dX5_writeRule_60 : decode cX5_writeRule 60 = .ok (.bipush 62, 2) := by decide +kernel
theorem dX5_writeRule_62 : decode cX5_writeRule 62 = .ok (.goto 5, 3) := by decide +kernel
theorem dX5_writeRule_65 : decode cX5_writeRule 65 = .ok (.bipush 60, 2) := by decide +kernel
theorem dX5_writeRule_67 : decode cX5_writeRule 67 = .ok (.invokevirtual 275, 3) := by decide +kernel
theorem dX5_writeRule_70 : decode cX5_writeRule 70 = .ok (.aload_n 2, 1) := by decide +kernel
theorem dX5_writeRule_71 : decode cX5_writeRule 71 = .ok (.getfield 285, 3) := by decide +kernel
theorem dX5_writeRule_74 : decode cX5_writeRule 74 = .ok (.invokevirtual 272, 3) := by decide +kernel
theorem dX5_writeRule_77 : decode cX5_writeRule 77 = .ok (.pop, 1) := by decide +kernel
theorem dX5_writeRule_78 : decode cX5_writeRule 78 = .ok (.aload_n 0, 1) := by decide +kernel
theorem dX5_writeRule_79 : decode cX5_writeRule 79 = .ok (.getfield 35, 3) := by decide +kernel
theorem dX5_writeRule_82 : decode cX5_writeRule 82 = .ok (.bipush 61, 2) := by decide +kernel
theorem dX5_writeRule_84 : decode cX5_writeRule 84 = .ok (.invokevirtual 275, 3) := by decide +kernel
theorem dX5_writeRule_87 : decode cX5_writeRule 87 = .ok (.aload_n 2, 1) := by decide +kernel
theorem dX5_writeRule_88 : decode cX5_writeRule 88 = .ok (.getfield 288, 3) := by decide +kernel
theorem dX5_writeRule_91 : decode cX5_writeRule 91 = .ok (.invokevirtual 272, 3) := by decide +kernel
theorem dX5_writeRule_94 : decode cX5_writeRule 94 = .ok (.pop, 1) := by decide +kernel
theorem dX5_writeRule_95 : decode cX5_writeRule 95 = .ok (.aload_n 0, 1) := by decide +kernel
theorem dX5_writeRule_96 : decode cX5_writeRule 96 = .ok (.getfield 35, 3) := by decide +kernel
theorem dX5_writeRule_99 : decode cX5_writeRule 99 = .ok (.invokevirtual 291, 3) := by decide +kernel
theorem dX5_writeRule_102 : decode cX5_writeRule 102 = .ok (.ireturn, 1) := by decide +kernel
theorem dX5_lineAt_0 : decode cX5_lineAt 0 = .ok (.iload_n 1, 1) := by decide +kernel
theorem dX5_lineAt_1 : decode cX5_lineAt 1 = .ok (.iconst 0, 1) := by decide +kernel
theorem dX5_lineAt_2 : decode cX5_lineAt 2 = .ok (.aload_n 0, 1) := by decide +kernel
theorem dX5_lineAt_3 : decode cX5_lineAt 3 = .ok (.getfield 35, 3) := by decide +kernel
theorem dX5_lineAt_6 : decode cX5_lineAt 6 = .ok (.invokevirtual 291, 3) := by decide +kernel
theorem dX5_lineAt_9 : decode cX5_lineAt 9 = .ok (.iconst 1, 1) := by decide +kernel
theorem dX5_lineAt_10 : decode cX5_lineAt 10 = .ok (.isub, 1) := by decide +kernel
theorem dX5_lineAt_11 : decode cX5_lineAt 11 = .ok (.invokestatic 43, 3) := by decide +kernel
theorem dX5_lineAt_14 : decode cX5_lineAt 14 = .ok (.ifCond .ne 14, 3) := by decide +kernel
theorem dX5_lineAt_17 : decode cX5_lineAt 17 = .ok (.new 47, 3) := by decide +kernel
theorem dX5_lineAt_20 : decode cX5_lineAt 20 = .ok (.dup, 1) := by decide +kernel
theorem dX5_lineAt_21 : decode cX5_lineAt 21 = .ok (.ldc_w 294, 3) := by decide +kernel
theorem dX5_lineAt_24 : decode cX5_lineAt 24 = .ok (.invokespecial 51, 3) := by decide +kernel
theorem dX5_lineAt_27 : decode cX5_lineAt 27 = .ok (.athrow, 1) := by decide +kernel
theorem dX5_lineAt_28 : decode cX5_lineAt 28 = .ok (.aload_n 0, 1) := by decide +kernel
theorem dX5_lineAt_29 : decode cX5_lineAt 29 = .ok (.getfield 35, 3) := by decide +kernel
theorem dX5_lineAt_32 : decode cX5_lineAt 32 = .ok (.iload_n 1, 1) := by decide +kernel
theorem dX5_lineAt_33 : decode cX5_lineAt 33 = .ok (.invokevirtual 296, 3) := by decide +kernel
theorem dX5_lineAt_36 : decode cX5_lineAt 36 = .ok (.ireturn, 1) := by decide +kernel
theorem dX5_isWithin_0 : decode cX5_isWithin 0 = .ok (.iload_n 0, 1) := by decide +kernel
theorem dX5_isWithin_1 : decode cX5_isWithin 1 = .ok (.iload_n 1, 1) := by decide +kernel
theorem dX5_isWithin_2 : decode cX5_isWithin 2 = .ok (.if_icmp .lt 12, 3) := by decide +kernel
theorem dX5_isWithin_5 : decode cX5_isWithin 5 = .ok (.iload_n 0, 1) := by decide +kernel
theorem dX5_isWithin_6 : decode cX5_isWithin 6 = .ok (.iload_n 2, 1) := by decide +kernel
theorem dX5_isWithin_7 : decode cX5_isWithin 7 = .ok (.if_icmp .gt 7, 3) := by decide +kernel
theorem dX5_isWithin_10 : decode cX5_isWithin 10 = .ok (.iconst 1, 1) := by decide +kernel
theorem dX5_isWithin_11 : decode cX5_isWithin 11 = .ok (.goto 4, 3) := by decide +kernel
theorem dX5_isWithin_14 : decode cX5_isWithin 14 = .ok (.iconst 0, 1) := by decide +kernel
theorem dX5_isWithin_15 : decode cX5_isWithin 15 = .ok (.ireturn, 1) := by decide +kernel
theorem dX5_requireHeight_0 : decode cX5_requireHeight 0 = .ok (.iload_n 0, 1) := by decide +kernel
theorem dX5_requireHeight_1 : decode cX5_requireHeight 1 = .ok (.iconst 0, 1) := by decide +kernel
theorem dX5_requireHeight_2 : decode cX5_requireHeight 2 = .ok (.bipush 30, 2) := by decide +kernel
theorem dX5_requireHeight_4 : decode cX5_requireHeight 4 = .ok (.invokestatic 43, 3) := by decide +kernel
theorem dX5_requireHeight_7 : decode cX5_requireHeight 7 = .ok (.ifCond .ne 14, 3) := by decide +kernel
theorem dX5_requireHeight_10 : decode cX5_requireHeight 10 = .ok (.new 54, 3) := by decide +kernel
theorem dX5_requireHeight_13 : decode cX5_requireHeight 13 = .ok (.dup, 1) := by decide +kernel
theorem dX5_requireHeight_14 : decode cX5_requireHeight 14 = .ok (.ldc_w 300, 3) := by decide +kernel
theorem dX5_requireHeight_17 : decode cX5_requireHeight 17 = .ok (.invokespecial 58, 3) := by decide +kernel
theorem dX5_requireHeight_20 : decode cX5_requireHeight 20 = .ok (.athrow, 1) := by decide +kernel
theorem dX5_requireHeight_21 : decode cX5_requireHeight 21 = .ok (.return_, 1) := by decide +kernel
theorem dX5_requireOpening_0 : decode cX5_requireOpening 0 = .ok (.iload_n 0, 1) := by decide +kernel
theorem dX5_requireOpening_1 : decode cX5_requireOpening 1 = .ok (.iconst 0, 1) := by decide +kernel
theorem dX5_requireOpening_2 : decode cX5_requireOpening 2 = .ok (.bipush 10, 2) := by decide +kernel
theorem dX5_requireOpening_4 : decode cX5_requireOpening 4 = .ok (.invokestatic 43, 3) := by decide +kernel
theorem dX5_requireOpening_7 : decode cX5_requireOpening 7 = .ok (.ifCond .ne 14, 3) := by decide +kernel
theorem dX5_requireOpening_10 : decode cX5_requireOpening 10 = .ok (.new 54, 3) := by decide +kernel
theorem dX5_requireOpening_13 : decode cX5_requireOpening 13 = .ok (.dup, 1) := by decide +kernel
theorem dX5_requireOpening_14 : decode cX5_requireOpening 14 = .ok (.ldc_w 302, 3) := by decide +kernel
theorem dX5_requireOpening_17 : decode cX5_requireOpening 17 = .ok (.invokespecial 58, 3) := by decide +kernel
theorem dX5_requireOpening_20 : decode cX5_requireOpening 20 = .ok (.athrow, 1) := by decide +kernel
theorem dX5_requireOpening_21 : decode cX5_requireOpening 21 = .ok (.return_, 1) := by decide +kernel
theorem dX5_requireBeforeFirstHour_0 : decode cX5_requireBeforeFirstHour 0 = .ok (.aload_n 0, 1) := by decide +kernel
theorem dX5_requireBeforeFirstHour_1 : decode cX5_requireBeforeFirstHour 1 = .ok (.getfield 151, 3) := by decide +kernel
theorem dX5_requireBeforeFirstHour_4 : decode cX5_requireBeforeFirstHour 4 = .ok (.ifCond .le 14, 3) := by decide +kernel
theorem dX5_requireBeforeFirstHour_7 : decode cX5_requireBeforeFirstHour 7 = .ok (.new 63, 3) := by decide +kernel
theorem dX5_requireBeforeFirstHour_10 : decode cX5_requireBeforeFirstHour 10 = .ok (.dup, 1) := by decide +kernel
theorem dX5_requireBeforeFirstHour_11 : decode cX5_requireBeforeFirstHour 11 = .ok (.ldc_w 304, 3) := by decide +kernel
theorem dX5_requireBeforeFirstHour_14 : decode cX5_requireBeforeFirstHour 14 = .ok (.invokespecial 67, 3) := by decide +kernel
theorem dX5_requireBeforeFirstHour_17 : decode cX5_requireBeforeFirstHour 17 = .ok (.athrow, 1) := by decide +kernel
theorem dX5_requireBeforeFirstHour_18 : decode cX5_requireBeforeFirstHour 18 = .ok (.return_, 1) := by decide +kernel
theorem dX5_requireHour_0 : decode cX5_requireHour 0 = .ok (.iload_n 1, 1) := by decide +kernel
theorem dX5_requireHour_1 : decode cX5_requireHour 1 = .ok (.iconst 1, 1) := by decide +kernel
theorem dX5_requireHour_2 : decode cX5_requireHour 2 = .ok (.aload_n 0, 1) := by decide +kernel
theorem dX5_requireHour_3 : decode cX5_requireHour 3 = .ok (.getfield 151, 3) := by decide +kernel
theorem dX5_requireHour_6 : decode cX5_requireHour 6 = .ok (.invokestatic 43, 3) := by decide +kernel
theorem dX5_requireHour_9 : decode cX5_requireHour 9 = .ok (.ifCond .ne 14, 3) := by decide +kernel
theorem dX5_requireHour_12 : decode cX5_requireHour 12 = .ok (.new 54, 3) := by decide +kernel
theorem dX5_requireHour_15 : decode cX5_requireHour 15 = .ok (.dup, 1) := by decide +kernel
theorem dX5_requireHour_16 : decode cX5_requireHour 16 = .ok (.ldc_w 306, 3) := by decide +kernel
theorem dX5_requireHour_19 : decode cX5_requireHour 19 = .ok (.invokespecial 58, 3) := by decide +kernel
theorem dX5_requireHour_22 : decode cX5_requireHour 22 = .ok (.athrow, 1) := by decide +kernel
theorem dX5_requireHour_23 : decode cX5_requireHour 23 = .ok (.return_, 1) := by decide +kernel
theorem dX5_requireBasin_0 : decode cX5_requireBasin 0 = .ok (.iload_n 1, 1) := by decide +kernel
theorem dX5_requireBasin_1 : decode cX5_requireBasin 1 = .ok (.iconst 0, 1) := by decide +kernel
theorem dX5_requireBasin_2 : decode cX5_requireBasin 2 = .ok (.aload_n 0, 1) := by decide +kernel
theorem dX5_requireBasin_3 : decode cX5_requireBasin 3 = .ok (.getfield 10, 3) := by decide +kernel
theorem dX5_requireBasin_6 : decode cX5_requireBasin 6 = .ok (.invokevirtual 39, 3) := by decide +kernel
theorem dX5_requireBasin_9 : decode cX5_requireBasin 9 = .ok (.iconst 1, 1) := by decide +kernel
theorem dX5_requireBasin_10 : decode cX5_requireBasin 10 = .ok (.isub, 1) := by decide +kernel
theorem dX5_requireBasin_11 : decode cX5_requireBasin 11 = .ok (.invokestatic 43, 3) := by decide +kernel
theorem dX5_requireBasin_14 : decode cX5_requireBasin 14 = .ok (.ifCond .ne 14, 3) := by decide +kernel
theorem dX5_requireBasin_17 : decode cX5_requireBasin 17 = .ok (.new 47, 3) := by decide +kernel
theorem dX5_requireBasin_20 : decode cX5_requireBasin 20 = .ok (.dup, 1) := by decide +kernel
theorem dX5_requireBasin_21 : decode cX5_requireBasin 21 = .ok (.ldc_w 308, 3) := by decide +kernel
theorem dX5_requireBasin_24 : decode cX5_requireBasin 24 = .ok (.invokespecial 51, 3) := by decide +kernel
theorem dX5_requireBasin_27 : decode cX5_requireBasin 27 = .ok (.athrow, 1) := by decide +kernel
theorem dX5_requireBasin_28 : decode cX5_requireBasin 28 = .ok (.return_, 1) := by decide +kernel
theorem dX5_requireRule_0 : decode cX5_requireRule 0 = .ok (.iload_n 1, 1) := by decide +kernel
theorem dX5_requireRule_1 : decode cX5_requireRule 1 = .ok (.iconst 0, 1) := by decide +kernel
theorem dX5_requireRule_2 : decode cX5_requireRule 2 = .ok (.aload_n 0, 1) := by decide +kernel
theorem dX5_requireRule_3 : decode cX5_requireRule 3 = .ok (.getfield 16, 3) := by decide +kernel
theorem dX5_requireRule_6 : decode cX5_requireRule 6 = .ok (.invokevirtual 39, 3) := by decide +kernel
theorem dX5_requireRule_9 : decode cX5_requireRule 9 = .ok (.iconst 1, 1) := by decide +kernel
theorem dX5_requireRule_10 : decode cX5_requireRule 10 = .ok (.isub, 1) := by decide +kernel
theorem dX5_requireRule_11 : decode cX5_requireRule 11 = .ok (.invokestatic 43, 3) := by decide +kernel
theorem dX5_requireRule_14 : decode cX5_requireRule 14 = .ok (.ifCond .ne 14, 3) := by decide +kernel
theorem dX5_requireRule_17 : decode cX5_requireRule 17 = .ok (.new 47, 3) := by decide +kernel
theorem dX5_requireRule_20 : decode cX5_requireRule 20 = .ok (.dup, 1) := by decide +kernel
theorem dX5_requireRule_21 : decode cX5_requireRule 21 = .ok (.ldc_w 310, 3) := by decide +kernel
theorem dX5_requireRule_24 : decode cX5_requireRule 24 = .ok (.invokespecial 51, 3) := by decide +kernel
theorem dX5_requireRule_27 : decode cX5_requireRule 27 = .ok (.athrow, 1) := by decide +kernel
theorem dX5_requireRule_28 : decode cX5_requireRule 28 = .ok (.return_, 1) := by decide +kernel
theorem dX5_basinOf_0 : decode cX5_basinOf 0 = .ok (.aload_n 0, 1) := by decide +kernel
theorem dX5_basinOf_1 : decode cX5_basinOf 1 = .ok (.iload_n 1, 1) := by decide +kernel
theorem dX5_basinOf_2 : decode cX5_basinOf 2 = .ok (.invokevirtual 108, 3) := by decide +kernel
theorem dX5_basinOf_5 : decode cX5_basinOf 5 = .ok (.aload_n 0, 1) := by decide +kernel
theorem dX5_basinOf_6 : decode cX5_basinOf 6 = .ok (.getfield 10, 3) := by decide +kernel
theorem dX5_basinOf_9 : decode cX5_basinOf 9 = .ok (.iload_n 1, 1) := by decide +kernel
theorem dX5_basinOf_10 : decode cX5_basinOf 10 = .ok (.invokevirtual 127, 3) := by decide +kernel
theorem dX5_basinOf_13 : decode cX5_basinOf 13 = .ok (.checkcast 71, 3) := by decide +kernel
theorem dX5_basinOf_16 : decode cX5_basinOf 16 = .ok (.areturn, 1) := by decide +kernel
theorem dX5_streetWith_0 : decode cX5_streetWith 0 = .ok (.aload_n 0, 1) := by decide +kernel
theorem dX5_streetWith_1 : decode cX5_streetWith 1 = .ok (.iload_n 1, 1) := by decide +kernel
theorem dX5_streetWith_2 : decode cX5_streetWith 2 = .ok (.invokevirtual 80, 3) := by decide +kernel
theorem dX5_streetWith_5 : decode cX5_streetWith 5 = .ok (.getfield 84, 3) := by decide +kernel
theorem dX5_streetWith_8 : decode cX5_streetWith 8 = .ok (.astore_n 3, 1) := by decide +kernel
theorem dX5_streetWith_9 : decode cX5_streetWith 9 = .ok (.iload_n 2, 1) := by decide +kernel
theorem dX5_streetWith_10 : decode cX5_streetWith 10 = .ok (.iconst 0, 1) := by decide +kernel
theorem dX5_streetWith_11 : decode cX5_streetWith 11 = .ok (.aload_n 3, 1) := by decide +kernel
theorem dX5_streetWith_12 : decode cX5_streetWith 12 = .ok (.getfield 88, 3) := by decide +kernel
theorem dX5_streetWith_15 : decode cX5_streetWith 15 = .ok (.iconst 1, 1) := by decide +kernel
theorem dX5_streetWith_16 : decode cX5_streetWith 16 = .ok (.isub, 1) := by decide +kernel
theorem dX5_streetWith_17 : decode cX5_streetWith 17 = .ok (.invokestatic 43, 3) := by decide +kernel
theorem dX5_streetWith_20 : decode cX5_streetWith 20 = .ok (.ifCond .ne 14, 3) := by decide +kernel
theorem dX5_streetWith_23 : decode cX5_streetWith 23 = .ok (.new 47, 3) := by decide +kernel
theorem dX5_streetWith_26 : decode cX5_streetWith 26 = .ok (.dup, 1) := by decide +kernel
theorem dX5_streetWith_27 : decode cX5_streetWith 27 = .ok (.ldc_w 312, 3) := by decide +kernel
theorem dX5_streetWith_30 : decode cX5_streetWith 30 = .ok (.invokespecial 51, 3) := by decide +kernel
theorem dX5_streetWith_33 : decode cX5_streetWith 33 = .ok (.athrow, 1) := by decide +kernel
theorem dX5_streetWith_34 : decode cX5_streetWith 34 = .ok (.aload_n 3, 1) := by decide +kernel
theorem dX5_streetWith_35 : decode cX5_streetWith 35 = .ok (.areturn, 1) := by decide +kernel
theorem dX5_houseOf_0 : decode cX5_houseOf 0 = .ok (.iload_n 1, 1) := by decide +kernel
theorem dX5_houseOf_1 : decode cX5_houseOf 1 = .ok (.iconst 0, 1) := by decide +kernel
theorem dX5_houseOf_2 : decode cX5_houseOf 2 = .ok (.aload_n 0, 1) := by decide +kernel
theorem dX5_houseOf_3 : decode cX5_houseOf 3 = .ok (.getfield 19, 3) := by decide +kernel
theorem dX5_houseOf_6 : decode cX5_houseOf 6 = .ok (.invokevirtual 39, 3) := by decide +kernel
theorem dX5_houseOf_9 : decode cX5_houseOf 9 = .ok (.iconst 1, 1) := by decide +kernel
theorem dX5_houseOf_10 : decode cX5_houseOf 10 = .ok (.isub, 1) := by decide +kernel
theorem dX5_houseOf_11 : decode cX5_houseOf 11 = .ok (.invokestatic 43, 3) := by decide +kernel
theorem dX5_houseOf_14 : decode cX5_houseOf 14 = .ok (.ifCond .ne 14, 3) := by decide +kernel
theorem dX5_houseOf_17 : decode cX5_houseOf 17 = .ok (.new 47, 3) := by decide +kernel
theorem dX5_houseOf_20 : decode cX5_houseOf 20 = .ok (.dup, 1) := by decide +kernel
theorem dX5_houseOf_21 : decode cX5_houseOf 21 = .ok (.ldc_w 314, 3) := by decide +kernel
theorem dX5_houseOf_24 : decode cX5_houseOf 24 = .ok (.invokespecial 51, 3) := by decide +kernel
theorem dX5_houseOf_27 : decode cX5_houseOf 27 = .ok (.athrow, 1) := by decide +kernel
theorem dX5_houseOf_28 : decode cX5_houseOf 28 = .ok (.aload_n 0, 1) := by decide +kernel
theorem dX5_houseOf_29 : decode cX5_houseOf 29 = .ok (.getfield 19, 3) := by decide +kernel
theorem dX5_houseOf_32 : decode cX5_houseOf 32 = .ok (.iload_n 1, 1) := by decide +kernel
theorem dX5_houseOf_33 : decode cX5_houseOf 33 = .ok (.invokevirtual 127, 3) := by decide +kernel
theorem dX5_houseOf_36 : decode cX5_houseOf 36 = .ok (.checkcast 210, 3) := by decide +kernel
theorem dX5_houseOf_39 : decode cX5_houseOf 39 = .ok (.areturn, 1) := by decide +kernel
theorem dX5_passOneHour_0 : decode cX5_passOneHour 0 = .ok (.aload_n 0, 1) := by decide +kernel
theorem dX5_passOneHour_1 : decode cX5_passOneHour 1 = .ok (.getfield 151, 3) := by decide +kernel
theorem dX5_passOneHour_4 : decode cX5_passOneHour 4 = .ok (.iconst 1, 1) := by decide +kernel
theorem dX5_passOneHour_5 : decode cX5_passOneHour 5 = .ok (.iadd, 1) := by decide +kernel
theorem dX5_passOneHour_6 : decode cX5_passOneHour 6 = .ok (.istore_n 1, 1) := by decide +kernel
theorem dX5_passOneHour_7 : decode cX5_passOneHour 7 = .ok (.iconst 0, 1) := by decide +kernel
theorem dX5_passOneHour_8 : decode cX5_passOneHour 8 = .ok (.istore_n 2, 1) := by decide +kernel
theorem dX5_passOneHour_9 : decode cX5_passOneHour 9 = .ok (.iload_n 2, 1) := by decide +kernel
theorem dX5_passOneHour_10 : decode cX5_passOneHour 10 = .ok (.aload_n 0, 1) := by decide +kernel
theorem dX5_passOneHour_11 : decode cX5_passOneHour 11 = .ok (.getfield 10, 3) := by decide +kernel
theorem dX5_passOneHour_14 : decode cX5_passOneHour 14 = .ok (.invokevirtual 39, 3) := by decide +kernel
theorem dX5_passOneHour_17 : decode cX5_passOneHour 17 = .ok (.if_icmp .ge 44, 3) := by decide +kernel
theorem dX5_passOneHour_20 : decode cX5_passOneHour 20 = .ok (.aload_n 0, 1) := by decide +kernel
theorem dX5_passOneHour_21 : decode cX5_passOneHour 21 = .ok (.getfield 10, 3) := by decide +kernel
theorem dX5_passOneHour_24 : decode cX5_passOneHour 24 = .ok (.iload_n 2, 1) := by decide +kernel
theorem dX5_passOneHour_25 : decode cX5_passOneHour 25 = .ok (.invokevirtual 127, 3) := by decide +kernel
theorem dX5_passOneHour_28 : decode cX5_passOneHour 28 = .ok (.checkcast 71, 3) := by decide +kernel
theorem dX5_passOneHour_31 : decode cX5_passOneHour 31 = .ok (.astore_n 3, 1) := by decide +kernel
theorem dX5_passOneHour_32 : decode cX5_passOneHour 32 = .ok (.aload_n 3, 1) := by decide +kernel
theorem dX5_passOneHour_33 : decode cX5_passOneHour 33 = .ok (.getfield 316, 3) := by decide +kernel
theorem dX5_passOneHour_36 : decode cX5_passOneHour 36 = .ok (.iload_n 1, 1) := by decide +kernel
theorem dX5_passOneHour_37 : decode cX5_passOneHour 37 = .ok (.aload_n 3, 1) := by decide +kernel
theorem dX5_passOneHour_38 : decode cX5_passOneHour 38 = .ok (.getfield 140, 3) := by decide +kernel
theorem dX5_passOneHour_41 : decode cX5_passOneHour 41 = .ok (.iastore, 1) := by decide +kernel
theorem dX5_passOneHour_42 : decode cX5_passOneHour 42 = .ok (.aload_n 0, 1) := by decide +kernel
theorem dX5_passOneHour_43 : decode cX5_passOneHour 43 = .ok (.dup, 1) := by decide +kernel
theorem dX5_passOneHour_44 : decode cX5_passOneHour 44 = .ok (.getfield 169, 3) := by decide +kernel
theorem dX5_passOneHour_47 : decode cX5_passOneHour 47 = .ok (.aload_n 3, 1) := by decide +kernel
theorem dX5_passOneHour_48 : decode cX5_passOneHour 48 = .ok (.getfield 140, 3) := by decide +kernel
theorem dX5_passOneHour_51 : decode cX5_passOneHour 51 = .ok (.iadd, 1) := by decide +kernel
theorem dX5_passOneHour_52 : decode cX5_passOneHour 52 = .ok (.putfield 169, 3) := by decide +kernel
theorem dX5_passOneHour_55 : decode cX5_passOneHour 55 = .ok (.iinc 2 1, 3) := by decide +kernel
theorem dX5_passOneHour_58 : decode cX5_passOneHour 58 = .ok (.goto (-49), 3) := by decide +kernel
theorem dX5_passOneHour_61 : decode cX5_passOneHour 61 = .ok (.aload_n 0, 1) := by decide +kernel
theorem dX5_passOneHour_62 : decode cX5_passOneHour 62 = .ok (.aload_n 0, 1) := by decide +kernel
theorem dX5_passOneHour_63 : decode cX5_passOneHour 63 = .ok (.getfield 25, 3) := by decide +kernel
theorem dX5_passOneHour_66 : decode cX5_passOneHour 66 = .ok (.iload_n 1, 1) := by decide +kernel
theorem dX5_passOneHour_67 : decode cX5_passOneHour 67 = .ok (.iconst (-1), 1) := by decide +kernel
theorem dX5_passOneHour_68 : decode cX5_passOneHour 68 = .ok (.iconst 0, 1) := by decide +kernel
theorem dX5_passOneHour_69 : decode cX5_passOneHour 69 = .ok (.invokevirtual 319, 3) := by decide +kernel
theorem dX5_passOneHour_72 : decode cX5_passOneHour 72 = .ok (.iconst 0, 1) := by decide +kernel
theorem dX5_passOneHour_73 : decode cX5_passOneHour 73 = .ok (.istore_n 2, 1) := by decide +kernel
theorem dX5_passOneHour_74 : decode cX5_passOneHour 74 = .ok (.iload_n 2, 1) := by decide +kernel
theorem dX5_passOneHour_75 : decode cX5_passOneHour 75 = .ok (.aload_n 0, 1) := by decide +kernel
theorem dX5_passOneHour_76 : decode cX5_passOneHour 76 = .ok (.getfield 10, 3) := by decide +kernel
theorem dX5_passOneHour_79 : decode cX5_passOneHour 79 = .ok (.invokevirtual 39, 3) := by decide +kernel
theorem dX5_passOneHour_82 : decode cX5_passOneHour 82 = .ok (.if_icmp .ge 37, 3) := by decide +kernel
theorem dX5_passOneHour_85 : decode cX5_passOneHour 85 = .ok (.aload_n 0, 1) := by decide +kernel
theorem dX5_passOneHour_86 : decode cX5_passOneHour 86 = .ok (.getfield 10, 3) := by decide +kernel
theorem dX5_passOneHour_89 : decode cX5_passOneHour 89 = .ok (.iload_n 2, 1) := by decide +kernel
theorem dX5_passOneHour_90 : decode cX5_passOneHour 90 = .ok (.invokevirtual 127, 3) := by decide +kernel
theorem dX5_passOneHour_93 : decode cX5_passOneHour 93 = .ok (.checkcast 71, 3) := by decide +kernel
theorem dX5_passOneHour_96 : decode cX5_passOneHour 96 = .ok (.getfield 84, 3) := by decide +kernel
theorem dX5_passOneHour_99 : decode cX5_passOneHour 99 = .ok (.getfield 192, 3) := by decide +kernel
theorem dX5_passOneHour_102 : decode cX5_passOneHour 102 = .ok (.iload_n 1, 1) := by decide +kernel
theorem dX5_passOneHour_103 : decode cX5_passOneHour 103 = .ok (.aload_n 0, 1) := by decide +kernel
theorem dX5_passOneHour_104 : decode cX5_passOneHour 104 = .ok (.getfield 25, 3) := by decide +kernel
theorem dX5_passOneHour_107 : decode cX5_passOneHour 107 = .ok (.getfield 166, 3) := by decide +kernel
theorem dX5_passOneHour_110 : decode cX5_passOneHour 110 = .ok (.iload_n 2, 1) := by decide +kernel
theorem dX5_passOneHour_111 : decode cX5_passOneHour 111 = .ok (.iaload, 1) := by decide +kernel
theorem dX5_passOneHour_112 : decode cX5_passOneHour 112 = .ok (.iastore, 1) := by decide +kernel
theorem dX5_passOneHour_113 : decode cX5_passOneHour 113 = .ok (.iinc 2 1, 3) := by decide +kernel
theorem dX5_passOneHour_116 : decode cX5_passOneHour 116 = .ok (.goto (-42), 3) := by decide +kernel
theorem dX5_passOneHour_119 : decode cX5_passOneHour 119 = .ok (.aload_n 0, 1) := by decide +kernel
theorem dX5_passOneHour_120 : decode cX5_passOneHour 120 = .ok (.dup, 1) := by decide +kernel
theorem dX5_passOneHour_121 : decode cX5_passOneHour 121 = .ok (.getfield 203, 3) := by decide +kernel
theorem dX5_passOneHour_124 : decode cX5_passOneHour 124 = .ok (.aload_n 0, 1) := by decide +kernel
theorem dX5_passOneHour_125 : decode cX5_passOneHour 125 = .ok (.aload_n 0, 1) := by decide +kernel
theorem dX5_passOneHour_126 : decode cX5_passOneHour 126 = .ok (.getfield 25, 3) := by decide +kernel
theorem dX5_passOneHour_129 : decode cX5_passOneHour 129 = .ok (.invokevirtual 323, 3) := by decide +kernel
theorem dX5_passOneHour_132 : decode cX5_passOneHour 132 = .ok (.iadd, 1) := by decide +kernel
theorem dX5_passOneHour_133 : decode cX5_passOneHour 133 = .ok (.putfield 203, 3) := by decide +kernel
theorem dX5_passOneHour_136 : decode cX5_passOneHour 136 = .ok (.aload_n 0, 1) := by decide +kernel
theorem dX5_passOneHour_137 : decode cX5_passOneHour 137 = .ok (.iload_n 1, 1) := by decide +kernel
theorem dX5_passOneHour_138 : decode cX5_passOneHour 138 = .ok (.putfield 151, 3) := by decide +kernel
theorem dX5_passOneHour_141 : decode cX5_passOneHour 141 = .ok (.return_, 1) := by decide +kernel
theorem dX5_tryPastRain_0 : decode cX5_tryPastRain 0 = .ok (.aload_n 0, 1) := by decide +kernel
theorem dX5_tryPastRain_1 : decode cX5_tryPastRain 1 = .ok (.getfield 29, 3) := by decide +kernel
theorem dX5_tryPastRain_4 : decode cX5_tryPastRain 4 = .ok (.invokevirtual 327, 3) := by decide +kernel
theorem dX5_tryPastRain_7 : decode cX5_tryPastRain 7 = .ok (.iconst 0, 1) := by decide +kernel
theorem dX5_tryPastRain_8 : decode cX5_tryPastRain 8 = .ok (.istore_n 3, 1) := by decide +kernel
theorem dX5_tryPastRain_9 : decode cX5_tryPastRain 9 = .ok (.iconst 1, 1) := by decide +kernel
theorem dX5_tryPastRain_10 : decode cX5_tryPastRain 10 = .ok (.istore 4, 2) := by decide +kernel
theorem dX5_tryPastRain_12 : decode cX5_tryPastRain 12 = .ok (.iload 4, 2) := by decide +kernel
theorem dX5_tryPastRain_14 : decode cX5_tryPastRain 14 = .ok (.aload_n 0, 1) := by decide +kernel
theorem dX5_tryPastRain_15 : decode cX5_tryPastRain 15 = .ok (.getfield 151, 3) := by decide +kernel
theorem dX5_tryPastRain_18 : decode cX5_tryPastRain 18 = .ok (.if_icmp .gt 32, 3) := by decide +kernel
theorem dX5_tryPastRain_21 : decode cX5_tryPastRain 21 = .ok (.aload_n 0, 1) := by decide +kernel
theorem dX5_tryPastRain_22 : decode cX5_tryPastRain 22 = .ok (.aload_n 0, 1) := by decide +kernel
theorem dX5_tryPastRain_23 : decode cX5_tryPastRain 23 = .ok (.getfield 29, 3) := by decide +kernel
theorem dX5_tryPastRain_26 : decode cX5_tryPastRain 26 = .ok (.iload 4, 2) := by decide +kernel
theorem dX5_tryPastRain_28 : decode cX5_tryPastRain 28 = .ok (.iload_n 1, 1) := by decide +kernel
theorem dX5_tryPastRain_29 : decode cX5_tryPastRain 29 = .ok (.iload_n 2, 1) := by decide +kernel
theorem dX5_tryPastRain_30 : decode cX5_tryPastRain 30 = .ok (.invokevirtual 319, 3) := by decide +kernel
theorem dX5_tryPastRain_33 : decode cX5_tryPastRain 33 = .ok (.iload_n 3, 1) := by decide +kernel
theorem dX5_tryPastRain_34 : decode cX5_tryPastRain 34 = .ok (.aload_n 0, 1) := by decide +kernel
theorem dX5_tryPastRain_35 : decode cX5_tryPastRain 35 = .ok (.aload_n 0, 1) := by decide +kernel
theorem dX5_tryPastRain_36 : decode cX5_tryPastRain 36 = .ok (.getfield 29, 3) := by decide +kernel
theorem dX5_tryPastRain_39 : decode cX5_tryPastRain 39 = .ok (.invokevirtual 323, 3) := by decide +kernel
theorem dX5_tryPastRain_42 : decode cX5_tryPastRain 42 = .ok (.iadd, 1) := by decide +kernel
theorem dX5_tryPastRain_43 : decode cX5_tryPastRain 43 = .ok (.istore_n 3, 1) := by decide +kernel
theorem dX5_tryPastRain_44 : decode cX5_tryPastRain 44 = .ok (.iinc 4 1, 3) := by decide +kernel
theorem dX5_tryPastRain_47 : decode cX5_tryPastRain 47 = .ok (.goto (-35), 3) := by decide +kernel
theorem dX5_tryPastRain_50 : decode cX5_tryPastRain 50 = .ok (.iload_n 3, 1) := by decide +kernel
theorem dX5_tryPastRain_51 : decode cX5_tryPastRain 51 = .ok (.ireturn, 1) := by decide +kernel
theorem dX5_moveWater_0 : decode cX5_moveWater 0 = .ok (.iconst 0, 1) := by decide +kernel
theorem dX5_moveWater_1 : decode cX5_moveWater 1 = .ok (.istore 5, 2) := by decide +kernel
theorem dX5_moveWater_3 : decode cX5_moveWater 3 = .ok (.iload 5, 2) := by decide +kernel
theorem dX5_moveWater_5 : decode cX5_moveWater 5 = .ok (.aload_n 0, 1) := by decide +kernel
theorem dX5_moveWater_6 : decode cX5_moveWater 6 = .ok (.getfield 10, 3) := by decide +kernel
theorem dX5_moveWater_9 : decode cX5_moveWater 9 = .ok (.invokevirtual 39, 3) := by decide +kernel
theorem dX5_moveWater_12 : decode cX5_moveWater 12 = .ok (.if_icmp .ge 36, 3) := by decide +kernel
theorem dX5_moveWater_15 : decode cX5_moveWater 15 = .ok (.aload_n 1, 1) := by decide +kernel
theorem dX5_moveWater_16 : decode cX5_moveWater 16 = .ok (.getfield 159, 3) := by decide +kernel
theorem dX5_moveWater_19 : decode cX5_moveWater 19 = .ok (.iload 5, 2) := by decide +kernel
theorem dX5_moveWater_21 : decode cX5_moveWater 21 = .ok (.dup2, 1) := by decide +kernel
theorem dX5_moveWater_22 : decode cX5_moveWater 22 = .ok (.iaload, 1) := by decide +kernel
theorem dX5_moveWater_23 : decode cX5_moveWater 23 = .ok (.aload_n 0, 1) := by decide +kernel
theorem dX5_moveWater_24 : decode cX5_moveWater 24 = .ok (.getfield 10, 3) := by decide +kernel
theorem dX5_moveWater_27 : decode cX5_moveWater 27 = .ok (.iload 5, 2) := by decide +kernel
theorem dX5_moveWater_29 : decode cX5_moveWater 29 = .ok (.invokevirtual 127, 3) := by decide +kernel
theorem dX5_moveWater_32 : decode cX5_moveWater 32 = .ok (.checkcast 71, 3) := by decide +kernel
theorem dX5_moveWater_35 : decode cX5_moveWater 35 = .ok (.getfield 316, 3) := by decide +kernel
theorem dX5_moveWater_38 : decode cX5_moveWater 38 = .ok (.iload_n 2, 1) := by decide +kernel
theorem dX5_moveWater_39 : decode cX5_moveWater 39 = .ok (.iaload, 1) := by decide +kernel
theorem dX5_moveWater_40 : decode cX5_moveWater 40 = .ok (.iadd, 1) := by decide +kernel
theorem dX5_moveWater_41 : decode cX5_moveWater 41 = .ok (.iastore, 1) := by decide +kernel
theorem dX5_moveWater_42 : decode cX5_moveWater 42 = .ok (.iinc 5 1, 3) := by decide +kernel
theorem dX5_moveWater_45 : decode cX5_moveWater 45 = .ok (.goto (-42), 3) := by decide +kernel
theorem dX5_moveWater_48 : decode cX5_moveWater 48 = .ok (.iconst 0, 1) := by decide +kernel
theorem dX5_moveWater_49 : decode cX5_moveWater 49 = .ok (.istore 5, 2) := by decide +kernel
theorem dX5_moveWater_51 : decode cX5_moveWater 51 = .ok (.iload 5, 2) := by decide +kernel
theorem dX5_moveWater_53 : decode cX5_moveWater 53 = .ok (.aload_n 0, 1) := by decide +kernel
theorem dX5_moveWater_54 : decode cX5_moveWater 54 = .ok (.getfield 10, 3) := by decide +kernel
theorem dX5_moveWater_57 : decode cX5_moveWater 57 = .ok (.invokevirtual 39, 3) := by decide +kernel
theorem dX5_moveWater_60 : decode cX5_moveWater 60 = .ok (.if_icmp .ge 64, 3) := by decide +kernel
theorem dX5_moveWater_63 : decode cX5_moveWater 63 = .ok (.iload 5, 2) := by decide +kernel
theorem dX5_moveWater_65 : decode cX5_moveWater 65 = .ok (.iload_n 3, 1) := by decide +kernel
theorem dX5_moveWater_66 : decode cX5_moveWater 66 = .ok (.if_icmp .ne 8, 3) := by decide +kernel
theorem dX5_moveWater_69 : decode cX5_moveWater 69 = .ok (.iload 4, 2) := by decide +kernel
theorem dX5_moveWater_71 : decode cX5_moveWater 71 = .ok (.goto 10, 3) := by decide +kernel
theorem dX5_moveWater_74 : decode cX5_moveWater 74 = .ok (.aload_n 0, 1) := by decide +kernel
theorem dX5_moveWater_75 : decode cX5_moveWater 75 = .ok (.aload_n 1, 1) := by decide +kernel
theorem dX5_moveWater_76 : decode cX5_moveWater 76 = .ok (.iload 5, 2) := by decide +kernel
theorem dX5_moveWater_78 : decode cX5_moveWater 78 = .ok (.invokevirtual 134, 3) := by decide +kernel
theorem dX5_moveWater_81 : decode cX5_moveWater 81 = .ok (.istore 6, 2) := by decide +kernel
theorem dX5_moveWater_83 : decode cX5_moveWater 83 = .ok (.aload_n 1, 1) := by decide +kernel
theorem dX5_moveWater_84 : decode cX5_moveWater 84 = .ok (.getfield 330, 3) := by decide +kernel
theorem dX5_moveWater_87 : decode cX5_moveWater 87 = .ok (.iload 5, 2) := by decide +kernel
theorem dX5_moveWater_89 : decode cX5_moveWater 89 = .ok (.iload 6, 2) := by decide +kernel
theorem dX5_moveWater_91 : decode cX5_moveWater 91 = .ok (.aload_n 0, 1) := by decide +kernel
theorem dX5_moveWater_92 : decode cX5_moveWater 92 = .ok (.getfield 10, 3) := by decide +kernel
theorem dX5_moveWater_95 : decode cX5_moveWater 95 = .ok (.iload 5, 2) := by decide +kernel
theorem dX5_moveWater_97 : decode cX5_moveWater 97 = .ok (.invokevirtual 127, 3) := by decide +kernel
theorem dX5_moveWater_100 : decode cX5_moveWater 100 = .ok (.checkcast 71, 3) := by decide +kernel
theorem dX5_moveWater_103 : decode cX5_moveWater 103 = .ok (.getfield 333, 3) := by decide +kernel
theorem dX5_moveWater_106 : decode cX5_moveWater 106 = .ok (.imul, 1) := by decide +kernel
theorem dX5_moveWater_107 : decode cX5_moveWater 107 = .ok (.aload_n 1, 1) := by decide +kernel
theorem dX5_moveWater_108 : decode cX5_moveWater 108 = .ok (.getfield 159, 3) := by decide +kernel
theorem dX5_moveWater_111 : decode cX5_moveWater 111 = .ok (.iload 5, 2) := by decide +kernel
theorem dX5_moveWater_113 : decode cX5_moveWater 113 = .ok (.iaload, 1) := by decide +kernel
theorem dX5_moveWater_114 : decode cX5_moveWater 114 = .ok (.invokestatic 336, 3) := by decide +kernel
theorem dX5_moveWater_117 : decode cX5_moveWater 117 = .ok (.iastore, 1) := by decide +kernel
theorem dX5_moveWater_118 : decode cX5_moveWater 118 = .ok (.iinc 5 1, 3) := by decide +kernel
theorem dX5_moveWater_121 : decode cX5_moveWater 121 = .ok (.goto (-70), 3) := by decide +kernel
theorem dX5_moveWater_124 : decode cX5_moveWater 124 = .ok (.iconst 0, 1) := by decide +kernel
theorem dX5_moveWater_125 : decode cX5_moveWater 125 = .ok (.istore 5, 2) := by decide +kernel
theorem dX5_moveWater_127 : decode cX5_moveWater 127 = .ok (.iload 5, 2) := by decide +kernel
theorem dX5_moveWater_129 : decode cX5_moveWater 129 = .ok (.aload_n 0, 1) := by decide +kernel
theorem dX5_moveWater_130 : decode cX5_moveWater 130 = .ok (.getfield 10, 3) := by decide +kernel
theorem dX5_moveWater_133 : decode cX5_moveWater 133 = .ok (.invokevirtual 39, 3) := by decide +kernel
theorem dX5_moveWater_136 : decode cX5_moveWater 136 = .ok (.if_icmp .ge 30, 3) := by decide +kernel
theorem dX5_moveWater_139 : decode cX5_moveWater 139 = .ok (.aload_n 1, 1) := by decide +kernel
theorem dX5_moveWater_140 : decode cX5_moveWater 140 = .ok (.iload 5, 2) := by decide +kernel
theorem dX5_moveWater_142 : decode cX5_moveWater 142 = .ok (.aload_n 0, 1) := by decide +kernel
theorem dX5_moveWater_143 : decode cX5_moveWater 143 = .ok (.getfield 10, 3) := by decide +kernel
theorem dX5_moveWater_146 : decode cX5_moveWater 146 = .ok (.iload 5, 2) := by decide +kernel
theorem dX5_moveWater_148 : decode cX5_moveWater 148 = .ok (.invokevirtual 127, 3) := by decide +kernel
theorem dX5_moveWater_151 : decode cX5_moveWater 151 = .ok (.checkcast 71, 3) := by decide +kernel
theorem dX5_moveWater_154 : decode cX5_moveWater 154 = .ok (.getfield 341, 3) := by decide +kernel
theorem dX5_moveWater_157 : decode cX5_moveWater 157 = .ok (.invokevirtual 344, 3) := by decide +kernel
theorem dX5_moveWater_160 : decode cX5_moveWater 160 = .ok (.iinc 5 1, 3) := by decide +kernel
theorem dX5_moveWater_163 : decode cX5_moveWater 163 = .ok (.goto (-36), 3) := by decide +kernel
theorem dX5_moveWater_166 : decode cX5_moveWater 166 = .ok (.iconst 0, 1) := by decide +kernel
theorem dX5_moveWater_167 : decode cX5_moveWater 167 = .ok (.istore 5, 2) := by decide +kernel
theorem dX5_moveWater_169 : decode cX5_moveWater 169 = .ok (.iload 5, 2) := by decide +kernel
theorem dX5_moveWater_171 : decode cX5_moveWater 171 = .ok (.aload_n 0, 1) := by decide +kernel
theorem dX5_moveWater_172 : decode cX5_moveWater 172 = .ok (.getfield 10, 3) := by decide +kernel
theorem dX5_moveWater_175 : decode cX5_moveWater 175 = .ok (.invokevirtual 39, 3) := by decide +kernel
theorem dX5_moveWater_178 : decode cX5_moveWater 178 = .ok (.if_icmp .ge 30, 3) := by decide +kernel
theorem dX5_moveWater_181 : decode cX5_moveWater 181 = .ok (.aload_n 1, 1) := by decide +kernel
theorem dX5_moveWater_182 : decode cX5_moveWater 182 = .ok (.iload 5, 2) := by decide +kernel
theorem dX5_moveWater_184 : decode cX5_moveWater 184 = .ok (.aload_n 0, 1) := by decide +kernel
theorem dX5_moveWater_185 : decode cX5_moveWater 185 = .ok (.getfield 10, 3) := by decide +kernel
theorem dX5_moveWater_188 : decode cX5_moveWater 188 = .ok (.iload 5, 2) := by decide +kernel
theorem dX5_moveWater_190 : decode cX5_moveWater 190 = .ok (.invokevirtual 127, 3) := by decide +kernel
theorem dX5_moveWater_193 : decode cX5_moveWater 193 = .ok (.checkcast 71, 3) := by decide +kernel
theorem dX5_moveWater_196 : decode cX5_moveWater 196 = .ok (.invokevirtual 99, 3) := by decide +kernel
theorem dX5_moveWater_199 : decode cX5_moveWater 199 = .ok (.invokevirtual 348, 3) := by decide +kernel
theorem dX5_moveWater_202 : decode cX5_moveWater 202 = .ok (.iinc 5 1, 3) := by decide +kernel
theorem dX5_moveWater_205 : decode cX5_moveWater 205 = .ok (.goto (-36), 3) := by decide +kernel
theorem dX5_moveWater_208 : decode cX5_moveWater 208 = .ok (.return_, 1) := by decide +kernel
theorem dX5_openingBy_0 : decode cX5_openingBy 0 = .ok (.aload_n 0, 1) := by decide +kernel
theorem dX5_openingBy_1 : decode cX5_openingBy 1 = .ok (.getfield 16, 3) := by decide +kernel
theorem dX5_openingBy_4 : decode cX5_openingBy 4 = .ok (.invokevirtual 39, 3) := by decide +kernel
theorem dX5_openingBy_7 : decode cX5_openingBy 7 = .ok (.iconst 1, 1) := by decide +kernel
theorem dX5_openingBy_8 : decode cX5_openingBy 8 = .ok (.isub, 1) := by decide +kernel
theorem dX5_openingBy_9 : decode cX5_openingBy 9 = .ok (.istore_n 3, 1) := by decide +kernel
theorem dX5_openingBy_10 : decode cX5_openingBy 10 = .ok (.iload_n 3, 1) := by decide +kernel
theorem dX5_openingBy_11 : decode cX5_openingBy 11 = .ok (.ifCond .lt 47, 3) := by decide +kernel
theorem dX5_openingBy_14 : decode cX5_openingBy 14 = .ok (.aload_n 0, 1) := by decide +kernel
theorem dX5_openingBy_15 : decode cX5_openingBy 15 = .ok (.getfield 16, 3) := by decide +kernel
theorem dX5_openingBy_18 : decode cX5_openingBy 18 = .ok (.iload_n 3, 1) := by decide +kernel
theorem dX5_openingBy_19 : decode cX5_openingBy 19 = .ok (.invokevirtual 127, 3) := by decide +kernel
theorem dX5_openingBy_22 : decode cX5_openingBy 22 = .ok (.checkcast 115, 3) := by decide +kernel
theorem dX5_openingBy_25 : decode cX5_openingBy 25 = .ok (.astore 4, 2) := by decide +kernel
theorem dX5_openingBy_27 : decode cX5_openingBy 27 = .ok (.aload 4, 2) := by decide +kernel
theorem dX5_openingBy_29 : decode cX5_openingBy 29 = .ok (.getfield 269, 3) := by decide +kernel
theorem dX5_openingBy_32 : decode cX5_openingBy 32 = .ok (.iload_n 2, 1) := by decide +kernel
theorem dX5_openingBy_33 : decode cX5_openingBy 33 = .ok (.if_icmp .ne 19, 3) := by decide +kernel
theorem dX5_openingBy_36 : decode cX5_openingBy 36 = .ok (.aload_n 0, 1) := by decide +kernel
theorem dX5_openingBy_37 : decode cX5_openingBy 37 = .ok (.aload_n 1, 1) := by decide +kernel
theorem dX5_openingBy_38 : decode cX5_openingBy 38 = .ok (.aload 4, 2) := by decide +kernel
theorem dX5_openingBy_40 : decode cX5_openingBy 40 = .ok (.invokevirtual 130, 3) := by decide +kernel
theorem dX5_openingBy_43 : decode cX5_openingBy 43 = .ok (.ifCond .eq 9, 3) := by decide +kernel
theorem dX5_openingBy_46 : decode cX5_openingBy 46 = .ok (.aload 4, 2) := by decide +kernel
theorem dX5_openingBy_48 : decode cX5_openingBy 48 = .ok (.getfield 288, 3) := by decide +kernel
theorem dX5_openingBy_51 : decode cX5_openingBy 51 = .ok (.ireturn, 1) := by decide +kernel
theorem dX5_openingBy_52 : decode cX5_openingBy 52 = .ok (.iinc 3 (-1), 3) := by decide +kernel
theorem dX5_openingBy_55 : decode cX5_openingBy 55 = .ok (.goto (-45), 3) := by decide +kernel
theorem dX5_openingBy_58 : decode cX5_openingBy 58 = .ok (.aload_n 0, 1) := by decide +kernel
theorem dX5_openingBy_59 : decode cX5_openingBy 59 = .ok (.getfield 10, 3) := by decide +kernel
theorem dX5_openingBy_62 : decode cX5_openingBy 62 = .ok (.iload_n 2, 1) := by decide +kernel
theorem dX5_openingBy_63 : decode cX5_openingBy 63 = .ok (.invokevirtual 127, 3) := by decide +kernel
theorem dX5_openingBy_66 : decode cX5_openingBy 66 = .ok (.checkcast 71, 3) := by decide +kernel
theorem dX5_openingBy_69 : decode cX5_openingBy 69 = .ok (.getfield 105, 3) := by decide +kernel
theorem dX5_openingBy_72 : decode cX5_openingBy 72 = .ok (.ireturn, 1) := by decide +kernel
theorem dX5_holdsBy_0 : decode cX5_holdsBy 0 = .ok (.aload_n 2, 1) := by decide +kernel
theorem dX5_holdsBy_1 : decode cX5_holdsBy 1 = .ok (.getfield 281, 3) := by decide +kernel
theorem dX5_holdsBy_4 : decode cX5_holdsBy 4 = .ok (.aload_n 0, 1) := by decide +kernel
theorem dX5_holdsBy_5 : decode cX5_holdsBy 5 = .ok (.aload_n 1, 1) := by decide +kernel
theorem dX5_holdsBy_6 : decode cX5_holdsBy 6 = .ok (.aload_n 2, 1) := by decide +kernel
theorem dX5_holdsBy_7 : decode cX5_holdsBy 7 = .ok (.getfield 278, 3) := by decide +kernel
theorem dX5_holdsBy_10 : decode cX5_holdsBy 10 = .ok (.invokevirtual 163, 3) := by decide +kernel
theorem dX5_holdsBy_13 : decode cX5_holdsBy 13 = .ok (.aload_n 2, 1) := by decide +kernel
theorem dX5_holdsBy_14 : decode cX5_holdsBy 14 = .ok (.getfield 285, 3) := by decide +kernel
theorem dX5_holdsBy_17 : decode cX5_holdsBy 17 = .ok (.if_icmp .lt 7, 3) := by decide +kernel
theorem dX5_holdsBy_20 : decode cX5_holdsBy 20 = .ok (.iconst 1, 1) := by decide +kernel
theorem dX5_holdsBy_21 : decode cX5_holdsBy 21 = .ok (.goto 4, 3) := by decide +kernel
theorem dX5_holdsBy_24 : decode cX5_holdsBy 24 = .ok (.iconst 0, 1) := by decide +kernel
theorem dX5_holdsBy_25 : decode cX5_holdsBy 25 = .ok (.if_icmp .ne 7, 3) := by decide +kernel
theorem dX5_holdsBy_28 : decode cX5_holdsBy 28 = .ok (.iconst 1, 1) := by decide +kernel
theorem dX5_holdsBy_29 : decode cX5_holdsBy 29 = .ok (.goto 4, 3) := by decide +kernel
theorem dX5_holdsBy_32 : decode cX5_holdsBy 32 = .ok (.iconst 0, 1) := by decide +kernel
theorem dX5_holdsBy_33 : decode cX5_holdsBy 33 = .ok (.ireturn, 1) := by decide +kernel
theorem dX5_levelBy_0 : decode cX5_levelBy 0 = .ok (.aload_n 1, 1) := by decide +kernel
theorem dX5_levelBy_1 : decode cX5_levelBy 1 = .ok (.getfield 159, 3) := by decide +kernel
theorem dX5_levelBy_4 : decode cX5_levelBy 4 = .ok (.iload_n 2, 1) := by decide +kernel
theorem dX5_levelBy_5 : decode cX5_levelBy 5 = .ok (.iaload, 1) := by decide +kernel
theorem dX5_levelBy_6 : decode cX5_levelBy 6 = .ok (.aload_n 0, 1) := by decide +kernel
theorem dX5_levelBy_7 : decode cX5_levelBy 7 = .ok (.getfield 10, 3) := by decide +kernel
theorem dX5_levelBy_10 : decode cX5_levelBy 10 = .ok (.iload_n 2, 1) := by decide +kernel
theorem dX5_levelBy_11 : decode cX5_levelBy 11 = .ok (.invokevirtual 127, 3) := by decide +kernel
theorem dX5_levelBy_14 : decode cX5_levelBy 14 = .ok (.checkcast 71, 3) := by decide +kernel
theorem dX5_levelBy_17 : decode cX5_levelBy 17 = .ok (.getfield 351, 3) := by decide +kernel
theorem dX5_levelBy_20 : decode cX5_levelBy 20 = .ok (.idiv, 1) := by decide +kernel
theorem dX5_levelBy_21 : decode cX5_levelBy 21 = .ok (.ireturn, 1) := by decide +kernel
theorem dX5_wetCellsBy_0 : decode cX5_wetCellsBy 0 = .ok (.iconst 0, 1) := by decide +kernel
theorem dX5_wetCellsBy_1 : decode cX5_wetCellsBy 1 = .ok (.istore_n 2, 1) := by decide +kernel
theorem dX5_wetCellsBy_2 : decode cX5_wetCellsBy 2 = .ok (.iconst 0, 1) := by decide +kernel
theorem dX5_wetCellsBy_3 : decode cX5_wetCellsBy 3 = .ok (.istore_n 3, 1) := by decide +kernel
theorem dX5_wetCellsBy_4 : decode cX5_wetCellsBy 4 = .ok (.iload_n 3, 1) := by decide +kernel
theorem dX5_wetCellsBy_5 : decode cX5_wetCellsBy 5 = .ok (.aload_n 0, 1) := by decide +kernel
theorem dX5_wetCellsBy_6 : decode cX5_wetCellsBy 6 = .ok (.getfield 10, 3) := by decide +kernel
theorem dX5_wetCellsBy_9 : decode cX5_wetCellsBy 9 = .ok (.invokevirtual 39, 3) := by decide +kernel
theorem dX5_wetCellsBy_12 : decode cX5_wetCellsBy 12 = .ok (.if_icmp .ge 35, 3) := by decide +kernel
theorem dX5_wetCellsBy_15 : decode cX5_wetCellsBy 15 = .ok (.iload_n 2, 1) := by decide +kernel
theorem dX5_wetCellsBy_16 : decode cX5_wetCellsBy 16 = .ok (.aload_n 0, 1) := by decide +kernel
theorem dX5_wetCellsBy_17 : decode cX5_wetCellsBy 17 = .ok (.getfield 10, 3) := by decide +kernel
theorem dX5_wetCellsBy_20 : decode cX5_wetCellsBy 20 = .ok (.iload_n 3, 1) := by decide +kernel
theorem dX5_wetCellsBy_21 : decode cX5_wetCellsBy 21 = .ok (.invokevirtual 127, 3) := by decide +kernel
theorem dX5_wetCellsBy_24 : decode cX5_wetCellsBy 24 = .ok (.checkcast 71, 3) := by decide +kernel
theorem dX5_wetCellsBy_27 : decode cX5_wetCellsBy 27 = .ok (.getfield 84, 3) := by decide +kernel
theorem dX5_wetCellsBy_30 : decode cX5_wetCellsBy 30 = .ok (.aload_n 1, 1) := by decide +kernel
theorem dX5_wetCellsBy_31 : decode cX5_wetCellsBy 31 = .ok (.getfield 166, 3) := by decide +kernel
theorem dX5_wetCellsBy_34 : decode cX5_wetCellsBy 34 = .ok (.iload_n 3, 1) := by decide +kernel
theorem dX5_wetCellsBy_35 : decode cX5_wetCellsBy 35 = .ok (.iaload, 1) := by decide +kernel
theorem dX5_wetCellsBy_36 : decode cX5_wetCellsBy 36 = .ok (.invokevirtual 195, 3) := by decide +kernel
theorem dX5_wetCellsBy_39 : decode cX5_wetCellsBy 39 = .ok (.iadd, 1) := by decide +kernel
theorem dX5_wetCellsBy_40 : decode cX5_wetCellsBy 40 = .ok (.istore_n 2, 1) := by decide +kernel
theorem dX5_wetCellsBy_41 : decode cX5_wetCellsBy 41 = .ok (.iinc 3 1, 3) := by decide +kernel
theorem dX5_wetCellsBy_44 : decode cX5_wetCellsBy 44 = .ok (.goto (-40), 3) := by decide +kernel
theorem dX5_wetCellsBy_47 : decode cX5_wetCellsBy 47 = .ok (.iload_n 2, 1) := by decide +kernel
theorem dX5_wetCellsBy_48 : decode cX5_wetCellsBy 48 = .ok (.ireturn, 1) := by decide +kernel
end
section
theorem dX6_init_0 : decode cX6_init 0 = .ok (.aload_n 0, 1) := by decide +kernel
theorem dX6_init_1 : decode cX6_init 1 = .ok (.invokespecial 1, 3) := by decide +kernel
theorem dX6_init_4 : decode cX6_init 4 = .ok (.aload_n 0, 1) := by decide +kernel
theorem dX6_init_5 : decode cX6_init 5 = .ok (.bipush 6, 2) := by decide +kernel
theorem dX6_init_7 : decode cX6_init 7 = .ok (.newarray .int, 2) := by decide +kernel
theorem dX6_init_9 : decode cX6_init 9 = .ok (.putfield 7, 3) := by decide +kernel
theorem dX6_init_12 : decode cX6_init 12 = .ok (.aload_n 0, 1) := by decide +kernel
theorem dX6_init_13 : decode cX6_init 13 = .ok (.bipush 6, 2) := by decide +kernel
theorem dX6_init_15 : decode cX6_init 15 = .ok (.newarray .int, 2) := by decide +kernel
theorem dX6_init_17 : decode cX6_init 17 = .ok (.putfield 13, 3) := by decide +kernel
theorem dX6_init_20 : decode cX6_init 20 = .ok (.aload_n 0, 1) := by decide +kernel
theorem dX6_init_21 : decode cX6_init 21 = .ok (.bipush 6, 2) := by decide +kernel
theorem dX6_init_23 : decode cX6_init 23 = .ok (.newarray .int, 2) := by decide +kernel
theorem dX6_init_25 : decode cX6_init 25 = .ok (.putfield 16, 3) := by decide +kernel
theorem dX6_init_28 : decode cX6_init 28 = .ok (.aload_n 0, 1) := by decide +kernel
theorem dX6_init_29 : decode cX6_init 29 = .ok (.bipush 6, 2) := by decide +kernel
theorem dX6_init_31 : decode cX6_init 31 = .ok (.newarray .int, 2) := by decide +kernel
theorem dX6_init_33 : decode cX6_init 33 = .ok (.putfield 19, 3) := by decide +kernel
theorem dX6_init_36 : decode cX6_init 36 = .ok (.aload_n 0, 1) := by decide +kernel
theorem dX6_init_37 : decode cX6_init 37 = .ok (.bipush 6, 2) := by decide +kernel
theorem dX6_init_39 : decode cX6_init 39 = .ok (.newarray .int, 2) := by decide +kernel
theorem dX6_init_41 : decode cX6_init 41 = .ok (.putfield 22, 3) := by decide +kernel
theorem dX6_init_44 : decode cX6_init 44 = .ok (.aload_n 0, 1) := by decide +kernel
theorem dX6_init_45 : decode cX6_init 45 = .ok (.bipush 6, 2) := by decide +kernel
theorem dX6_init_47 : decode cX6_init 47 = .ok (.newarray .int, 2) := by decide +kernel
theorem dX6_init_49 : decode cX6_init 49 = .ok (.putfield 25, 3) := by decide +kernel
theorem dX6_init_52 : decode cX6_init 52 = .ok (.aload_n 0, 1) := by decide +kernel
theorem dX6_init_53 : decode cX6_init 53 = .ok (.bipush 6, 2) := by decide +kernel
theorem dX6_init_55 : decode cX6_init 55 = .ok (.newarray .int, 2) := by decide +kernel
theorem dX6_init_57 : decode cX6_init 57 = .ok (.putfield 28, 3) := by decide +kernel
theorem dX6_init_60 : decode cX6_init 60 = .ok (.aload_n 0, 1) := by decide +kernel
theorem dX6_init_61 : decode cX6_init 61 = .ok (.bipush 48, 2) := by decide +kernel
theorem dX6_init_63 : decode cX6_init 63 = .ok (.newarray .int, 2) := by decide +kernel
theorem dX6_init_65 : decode cX6_init 65 = .ok (.putfield 31, 3) := by decide +kernel
theorem dX6_init_68 : decode cX6_init 68 = .ok (.aload_n 0, 1) := by decide +kernel
theorem dX6_init_69 : decode cX6_init 69 = .ok (.bipush 6, 2) := by decide +kernel
theorem dX6_init_71 : decode cX6_init 71 = .ok (.newarray .int, 2) := by decide +kernel
theorem dX6_init_73 : decode cX6_init 73 = .ok (.putfield 34, 3) := by decide +kernel
theorem dX6_init_76 : decode cX6_init 76 = .ok (.aload_n 0, 1) := by decide +kernel
theorem dX6_init_77 : decode cX6_init 77 = .ok (.bipush 6, 2) := by decide +kernel
theorem dX6_init_79 : decode cX6_init 79 = .ok (.newarray .int, 2) := by decide +kernel
theorem dX6_init_81 : decode cX6_init 81 = .ok (.putfield 37, 3) := by decide +kernel
theorem dX6_init_84 : decode cX6_init 84 = .ok (.aload_n 0, 1) := by decide +kernel
theorem dX6_init_85 : decode cX6_init 85 = .ok (.bipush 6, 2) := by decide +kernel
theorem dX6_init_87 : decode cX6_init 87 = .ok (.newarray .int, 2) := by decide +kernel
theorem dX6_init_89 : decode cX6_init 89 = .ok (.putfield 40, 3) := by decide +kernel
theorem dX6_init_92 : decode cX6_init 92 = .ok (.aload_n 0, 1) := by decide +kernel
theorem dX6_init_93 : decode cX6_init 93 = .ok (.bipush 6, 2) := by decide +kernel
theorem dX6_init_95 : decode cX6_init 95 = .ok (.newarray .int, 2) := by decide +kernel
theorem dX6_init_97 : decode cX6_init 97 = .ok (.putfield 43, 3) := by decide +kernel
theorem dX6_init_100 : decode cX6_init 100 = .ok (.aload_n 0, 1) := by decide +kernel
theorem dX6_init_101 : decode cX6_init 101 = .ok (.bipush 6, 2) := by decide +kernel
theorem dX6_init_103 : decode cX6_init 103 = .ok (.newarray .int, 2) := by decide +kernel
theorem dX6_init_105 : decode cX6_init 105 = .ok (.putfield 46, 3) := by decide +kernel
theorem dX6_init_108 : decode cX6_init 108 = .ok (.aload_n 0, 1) := by decide +kernel
theorem dX6_init_109 : decode cX6_init 109 = .ok (.bipush 12, 2) := by decide +kernel
theorem dX6_init_111 : decode cX6_init 111 = .ok (.newarray .int, 2) := by decide +kernel
theorem dX6_init_113 : decode cX6_init 113 = .ok (.putfield 49, 3) := by decide +kernel
theorem dX6_init_116 : decode cX6_init 116 = .ok (.aload_n 0, 1) := by decide +kernel
theorem dX6_init_117 : decode cX6_init 117 = .ok (.bipush 12, 2) := by decide +kernel
theorem dX6_init_119 : decode cX6_init 119 = .ok (.newarray .int, 2) := by decide +kernel
theorem dX6_init_121 : decode cX6_init 121 = .ok (.putfield 52, 3) := by decide +kernel
theorem dX6_init_124 : decode cX6_init 124 = .ok (.aload_n 0, 1) := by decide +kernel
theorem dX6_init_125 : decode cX6_init 125 = .ok (.bipush 12, 2) := by decide +kernel
theorem dX6_init_127 : decode cX6_init 127 = .ok (.newarray .boolean, 2) := by decide +kernel
theorem dX6_init_129 : decode cX6_init 129 = .ok (.putfield 55, 3) := by decide +kernel
theorem dX6_init_132 : decode cX6_init 132 = .ok (.aload_n 0, 1) := by decide +kernel
theorem dX6_init_133 : decode cX6_init 133 = .ok (.bipush 12, 2) := by decide +kernel
theorem dX6_init_135 : decode cX6_init 135 = .ok (.newarray .int, 2) := by decide +kernel
theorem dX6_init_137 : decode cX6_init 137 = .ok (.putfield 59, 3) := by decide +kernel
theorem dX6_init_140 : decode cX6_init 140 = .ok (.aload_n 0, 1) := by decide +kernel
theorem dX6_init_141 : decode cX6_init 141 = .ok (.bipush 12, 2) := by decide +kernel
theorem dX6_init_143 : decode cX6_init 143 = .ok (.newarray .int, 2) := by decide +kernel
theorem dX6_init_145 : decode cX6_init 145 = .ok (.putfield 62, 3) := by decide +kernel
theorem dX6_init_148 : decode cX6_init 148 = .ok (.aload_n 0, 1) := by decide +kernel
theorem dX6_init_149 : decode cX6_init 149 = .ok (.sipush 360, 3) := by decide +kernel
theorem dX6_init_152 : decode cX6_init 152 = .ok (.newarray .int, 2) := by decide +kernel
theorem dX6_init_154 : decode cX6_init 154 = .ok (.putfield 65, 3) := by decide +kernel
theorem dX6_init_157 : decode cX6_init 157 = .ok (.aload_n 0, 1) := by decide +kernel
theorem dX6_init_158 : decode cX6_init 158 = .ok (.sipush 360, 3) := by decide +kernel
theorem dX6_init_161 : decode cX6_init 161 = .ok (.newarray .int, 2) := by decide +kernel
theorem dX6_init_163 : decode cX6_init 163 = .ok (.putfield 68, 3) := by decide +kernel
theorem dX6_init_166 : decode cX6_init 166 = .ok (.aload_n 0, 1) := by decide +kernel
theorem dX6_init_167 : decode cX6_init 167 = .ok (.bipush 10, 2) := by decide +kernel
theorem dX6_init_169 : decode cX6_init 169 = .ok (.newarray .int, 2) := by decide +kernel
theorem dX6_init_171 : decode cX6_init 171 = .ok (.putfield 71, 3) := by decide +kernel
theorem dX6_init_174 : decode cX6_init 174 = .ok (.aload_n 0, 1) := by decide +kernel
theorem dX6_init_175 : decode cX6_init 175 = .ok (.bipush 10, 2) := by decide +kernel
theorem dX6_init_177 : decode cX6_init 177 = .ok (.newarray .int, 2) := by decide +kernel
theorem dX6_init_179 : decode cX6_init 179 = .ok (.putfield 74, 3) := by decide +kernel
theorem dX6_init_182 : decode cX6_init 182 = .ok (.aload_n 0, 1) := by decide +kernel
theorem dX6_init_183 : decode cX6_init 183 = .ok (.bipush 10, 2) := by decide +kernel
theorem dX6_init_185 : decode cX6_init 185 = .ok (.newarray .int, 2) := by decide +kernel
theorem dX6_init_187 : decode cX6_init 187 = .ok (.putfield 77, 3) := by decide +kernel
theorem dX6_init_190 : decode cX6_init 190 = .ok (.aload_n 0, 1) := by decide +kernel
theorem dX6_init_191 : decode cX6_init 191 = .ok (.bipush 10, 2) := by decide +kernel
theorem dX6_init_193 : decode cX6_init 193 = .ok (.newarray .int, 2) := by decide +kernel
theorem dX6_init_195 : decode cX6_init 195 = .ok (.putfield 80, 3) := by decide +kernel
theorem dX6_init_198 : decode cX6_init 198 = .ok (.aload_n 0, 1) := by decide +kernel
theorem dX6_init_199 : decode cX6_init 199 = .ok (.bipush 10, 2) := by decide +kernel
theorem dX6_init_201 : decode cX6_init 201 = .ok (.newarray .int, 2) := by decide +kernel
theorem dX6_init_203 : decode cX6_init 203 = .ok (.putfield 83, 3) := by decide +kernel
theorem dX6_init_206 : decode cX6_init 206 = .ok (.aload_n 0, 1) := by decide +kernel
theorem dX6_init_207 : decode cX6_init 207 = .ok (.sipush 600, 3) := by decide +kernel
theorem dX6_init_210 : decode cX6_init 210 = .ok (.newarray .boolean, 2) := by decide +kernel
theorem dX6_init_212 : decode cX6_init 212 = .ok (.putfield 86, 3) := by decide +kernel
theorem dX6_init_215 : decode cX6_init 215 = .ok (.aload_n 0, 1) := by decide +kernel
theorem dX6_init_216 : decode cX6_init 216 = .ok (.iconst (-1), 1) := by decide +kernel
theorem dX6_init_217 : decode cX6_init 217 = .ok (.putfield 89, 3) := by decide +kernel
theorem dX6_init_220 : decode cX6_init 220 = .ok (.aload_n 0, 1) := by decide +kernel
theorem dX6_init_221 : decode cX6_init 221 = .ok (.bipush 20, 2) := by decide +kernel
theorem dX6_init_223 : decode cX6_init 223 = .ok (.newarray .char, 2) := by decide +kernel
theorem dX6_init_225 : decode cX6_init 225 = .ok (.putfield 93, 3) := by decide +kernel
theorem dX6_init_228 : decode cX6_init 228 = .ok (.return_, 1) := by decide +kernel
theorem dX6_thrown_0 : decode cX6_thrown 0 = .ok (.aload_n 0, 1) := by decide +kernel
theorem dX6_thrown_1 : decode cX6_thrown 1 = .ok (.getfield 97, 3) := by decide +kernel
theorem dX6_thrown_4 : decode cX6_thrown 4 = .ok (.ireturn, 1) := by decide +kernel
theorem dX6_fails_0 : decode cX6_fails 0 = .ok (.aload_n 0, 1) := by decide +kernel
theorem dX6_fails_1 : decode cX6_fails 1 = .ok (.iload_n 1, 1) := by decide +kernel
theorem dX6_fails_2 : decode cX6_fails 2 = .ok (.putfield 97, 3) := by decide +kernel
theorem dX6_fails_5 : decode cX6_fails 5 = .ok (.iload_n 1, 1) := by decide +kernel
theorem dX6_fails_6 : decode cX6_fails 6 = .ok (.ifCond .le 7, 3) := by decide +kernel
theorem dX6_fails_9 : decode cX6_fails 9 = .ok (.iconst 1, 1) := by decide +kernel
theorem dX6_fails_10 : decode cX6_fails 10 = .ok (.goto 4, 3) := by decide +kernel
theorem dX6_fails_13 : decode cX6_fails 13 = .ok (.iconst 0, 1) := by decide +kernel
theorem dX6_fails_14 : decode cX6_fails 14 = .ok (.ireturn, 1) := by decide +kernel
theorem dX6_tells_0 : decode cX6_tells 0 = .ok (.aload_n 0, 1) := by decide +kernel
theorem dX6_tells_1 : decode cX6_tells 1 = .ok (.iconst 0, 1) := by decide +kernel
theorem dX6_tells_2 : decode cX6_tells 2 = .ok (.putfield 97, 3) := by decide +kernel
theorem dX6_tells_5 : decode cX6_tells 5 = .ok (.iload_n 1, 1) := by decide +kernel
theorem dX6_tells_6 : decode cX6_tells 6 = .ok (.ireturn, 1) := by decide +kernel
theorem dX6_in_0 : decode cX6_in 0 = .ok (.iload_n 0, 1) := by decide +kernel
theorem dX6_in_1 : decode cX6_in 1 = .ok (.iload_n 1, 1) := by decide +kernel
theorem dX6_in_2 : decode cX6_in 2 = .ok (.if_icmp .lt 12, 3) := by decide +kernel
theorem dX6_in_5 : decode cX6_in 5 = .ok (.iload_n 0, 1) := by decide +kernel
theorem dX6_in_6 : decode cX6_in 6 = .ok (.iload_n 2, 1) := by decide +kernel
theorem dX6_in_7 : decode cX6_in 7 = .ok (.if_icmp .gt 7, 3) := by decide +kernel
theorem dX6_in_10 : decode cX6_in 10 = .ok (.iconst 1, 1) := by decide +kernel
theorem dX6_in_11 : decode cX6_in 11 = .ok (.goto 4, 3) := by decide +kernel
theorem dX6_in_14 : decode cX6_in 14 = .ok (.iconst 0, 1) := by decide +kernel
theorem dX6_in_15 : decode cX6_in 15 = .ok (.ireturn, 1) := by decide +kernel
theorem dX6_lesser_0 : decode cX6_lesser 0 = .ok (.iload_n 0, 1) := by decide +kernel
theorem dX6_lesser_1 : decode cX6_lesser 1 = .ok (.iload_n 1, 1) := by decide +kernel
theorem dX6_lesser_2 : decode cX6_lesser 2 = .ok (.if_icmp .ge 7, 3) := by decide +kernel
theorem dX6_lesser_5 : decode cX6_lesser 5 = .ok (.iload_n 0, 1) := by decide +kernel
theorem dX6_lesser_6 : decode cX6_lesser 6 = .ok (.goto 4, 3) := by decide +kernel
theorem dX6_lesser_9 : decode cX6_lesser 9 = .ok (.iload_n 1, 1) := by decide +kernel
theorem dX6_lesser_10 : decode cX6_lesser 10 = .ok (.ireturn, 1) := by decide +kernel
theorem dX6_isNone_0 : decode cX6_isNone 0 = .ok (.iload_n 1, 1) := by decide +kernel
theorem dX6_isNone_1 : decode cX6_isNone 1 = .ok (.iconst 0, 1) := by decide +kernel
theorem dX6_isNone_2 : decode cX6_isNone 2 = .ok (.aload_n 0, 1) := by decide +kernel
theorem dX6_isNone_3 : decode cX6_isNone 3 = .ok (.getfield 100, 3) := by decide +kernel
theorem dX6_isNone_6 : decode cX6_isNone 6 = .ok (.iconst 1, 1) := by decide +kernel
theorem dX6_isNone_7 : decode cX6_isNone 7 = .ok (.isub, 1) := by decide +kernel
theorem dX6_isNone_8 : decode cX6_isNone 8 = .ok (.invokestatic 103, 3) := by decide +kernel
theorem dX6_isNone_11 : decode cX6_isNone 11 = .ok (.ifCond .ne 7, 3) := by decide +kernel
theorem dX6_isNone_14 : decode cX6_isNone 14 = .ok (.iconst 1, 1) := by decide +kernel
theorem dX6_isNone_15 : decode cX6_isNone 15 = .ok (.goto 4, 3) := by decide +kernel
theorem dX6_isNone_18 : decode cX6_isNone 18 = .ok (.iconst 0, 1) := by decide +kernel
theorem dX6_isNone_19 : decode cX6_isNone 19 = .ok (.ireturn, 1) := by decide +kernel
theorem dX6_isNoCell_0 : decode cX6_isNoCell 0 = .ok (.aload_n 0, 1) := by decide +kernel
theorem dX6_isNoCell_1 : decode cX6_isNoCell 1 = .ok (.iload_n 1, 1) := by decide +kernel
theorem dX6_isNoCell_2 : decode cX6_isNoCell 2 = .ok (.invokevirtual 107, 3) := by decide +kernel
theorem dX6_isNoCell_5 : decode cX6_isNoCell 5 = .ok (.ifCond .ne 19, 3) := by decide +kernel
theorem dX6_isNoCell_8 : decode cX6_isNoCell 8 = .ok (.iload_n 2, 1) := by decide +kernel
theorem dX6_isNoCell_9 : decode cX6_isNoCell 9 = .ok (.iconst 0, 1) := by decide +kernel
theorem dX6_isNoCell_10 : decode cX6_isNoCell 10 = .ok (.aload_n 0, 1) := by decide +kernel
theorem dX6_isNoCell_11 : decode cX6_isNoCell 11 = .ok (.getfield 28, 3) := by decide +kernel
theorem dX6_isNoCell_14 : decode cX6_isNoCell 14 = .ok (.iload_n 1, 1) := by decide +kernel
theorem dX6_isNoCell_15 : decode cX6_isNoCell 15 = .ok (.iaload, 1) := by decide +kernel
theorem dX6_isNoCell_16 : decode cX6_isNoCell 16 = .ok (.iconst 1, 1) := by decide +kernel
theorem dX6_isNoCell_17 : decode cX6_isNoCell 17 = .ok (.isub, 1) := by decide +kernel
theorem dX6_isNoCell_18 : decode cX6_isNoCell 18 = .ok (.invokestatic 103, 3) := by decide +kernel
theorem dX6_isNoCell_21 : decode cX6_isNoCell 21 = .ok (.ifCond .ne 7, 3) := by decide +kernel
theorem dX6_isNoCell_24 : decode cX6_isNoCell 24 = .ok (.iconst 1, 1) := by decide +kernel
theorem dX6_isNoCell_25 : decode cX6_isNoCell 25 = .ok (.goto 4, 3) := by decide +kernel
theorem dX6_isNoCell_28 : decode cX6_isNoCell 28 = .ok (.iconst 0, 1) := by decide +kernel
theorem dX6_isNoCell_29 : decode cX6_isNoCell 29 = .ok (.ireturn, 1) := by decide +kernel
theorem dX6_isNoRule_0 : decode cX6_isNoRule 0 = .ok (.aload_n 0, 1) := by decide +kernel
theorem dX6_isNoRule_1 : decode cX6_isNoRule 1 = .ok (.iload_n 1, 1) := by decide +kernel
theorem dX6_isNoRule_2 : decode cX6_isNoRule 2 = .ok (.iconst 0, 1) := by decide +kernel
theorem dX6_isNoRule_3 : decode cX6_isNoRule 3 = .ok (.aload_n 0, 1) := by decide +kernel
theorem dX6_isNoRule_4 : decode cX6_isNoRule 4 = .ok (.getfield 111, 3) := by decide +kernel
theorem dX6_isNoRule_7 : decode cX6_isNoRule 7 = .ok (.iconst 1, 1) := by decide +kernel
theorem dX6_isNoRule_8 : decode cX6_isNoRule 8 = .ok (.isub, 1) := by decide +kernel
theorem dX6_isNoRule_9 : decode cX6_isNoRule 9 = .ok (.invokestatic 103, 3) := by decide +kernel
theorem dX6_isNoRule_12 : decode cX6_isNoRule 12 = .ok (.ifCond .eq 7, 3) := by decide +kernel
theorem dX6_isNoRule_15 : decode cX6_isNoRule 15 = .ok (.iconst 0, 1) := by decide +kernel
theorem dX6_isNoRule_16 : decode cX6_isNoRule 16 = .ok (.goto 4, 3) := by decide +kernel
theorem dX6_isNoRule_19 : decode cX6_isNoRule 19 = .ok (.iconst 1, 1) := by decide +kernel
theorem dX6_isNoRule_20 : decode cX6_isNoRule 20 = .ok (.invokevirtual 114, 3) := by decide +kernel
theorem dX6_isNoRule_23 : decode cX6_isNoRule 23 = .ok (.ireturn, 1) := by decide +kernel
theorem dX6_isNoHouse_0 : decode cX6_isNoHouse 0 = .ok (.iload_n 1, 1) := by decide +kernel
theorem dX6_isNoHouse_1 : decode cX6_isNoHouse 1 = .ok (.iconst 0, 1) := by decide +kernel
theorem dX6_isNoHouse_2 : decode cX6_isNoHouse 2 = .ok (.aload_n 0, 1) := by decide +kernel
theorem dX6_isNoHouse_3 : decode cX6_isNoHouse 3 = .ok (.getfield 117, 3) := by decide +kernel
theorem dX6_isNoHouse_6 : decode cX6_isNoHouse 6 = .ok (.iconst 1, 1) := by decide +kernel
theorem dX6_isNoHouse_7 : decode cX6_isNoHouse 7 = .ok (.isub, 1) := by decide +kernel
theorem dX6_isNoHouse_8 : decode cX6_isNoHouse 8 = .ok (.invokestatic 103, 3) := by decide +kernel
theorem dX6_isNoHouse_11 : decode cX6_isNoHouse 11 = .ok (.ifCond .ne 7, 3) := by decide +kernel
theorem dX6_isNoHouse_14 : decode cX6_isNoHouse 14 = .ok (.iconst 1, 1) := by decide +kernel
theorem dX6_isNoHouse_15 : decode cX6_isNoHouse 15 = .ok (.goto 4, 3) := by decide +kernel
theorem dX6_isNoHouse_18 : decode cX6_isNoHouse 18 = .ok (.iconst 0, 1) := by decide +kernel
theorem dX6_isNoHouse_19 : decode cX6_isNoHouse 19 = .ok (.ireturn, 1) := by decide +kernel
theorem dX6_addBasin_0 : decode cX6_addBasin 0 = .ok (.aload_n 0, 1) := by decide +kernel
theorem dX6_addBasin_1 : decode cX6_addBasin 1 = .ok (.getfield 100, 3) := by decide +kernel
theorem dX6_addBasin_4 : decode cX6_addBasin 4 = .ok (.ifCond .ne 17, 3) := by decide +kernel
theorem dX6_addBasin_7 : decode cX6_addBasin 7 = .ok (.iload 4, 2) := by decide +kernel
theorem dX6_addBasin_9 : decode cX6_addBasin 9 = .ok (.iconst (-1), 1) := by decide +kernel
theorem dX6_addBasin_10 : decode cX6_addBasin 10 = .ok (.if_icmp .eq 7, 3) := by decide +kernel
theorem dX6_addBasin_13 : decode cX6_addBasin 13 = .ok (.iconst 1, 1) := by decide +kernel
theorem dX6_addBasin_14 : decode cX6_addBasin 14 = .ok (.goto 13, 3) := by decide +kernel
theorem dX6_addBasin_17 : decode cX6_addBasin 17 = .ok (.iconst 0, 1) := by decide +kernel
theorem dX6_addBasin_18 : decode cX6_addBasin 18 = .ok (.goto 9, 3) := by decide +kernel
theorem dX6_addBasin_21 : decode cX6_addBasin 21 = .ok (.aload_n 0, 1) := by decide +kernel
theorem dX6_addBasin_22 : decode cX6_addBasin 22 = .ok (.iload 4, 2) := by decide +kernel
theorem dX6_addBasin_24 : decode cX6_addBasin 24 = .ok (.invokevirtual 107, 3) := by decide +kernel
theorem dX6_addBasin_27 : decode cX6_addBasin 27 = .ok (.istore 6, 2) := by decide +kernel
theorem dX6_addBasin_29 : decode cX6_addBasin 29 = .ok (.iload_n 1, 1) := by decide +kernel
theorem dX6_addBasin_30 : decode cX6_addBasin 30 = .ok (.iconst 1, 1) := by decide +kernel
theorem dX6_addBasin_31 : decode cX6_addBasin 31 = .ok (.bipush 50, 2) := by decide +kernel
theorem dX6_addBasin_33 : decode cX6_addBasin 33 = .ok (.invokestatic 103, 3) := by decide +kernel
theorem dX6_addBasin_36 : decode cX6_addBasin 36 = .ok (.ifCond .eq 38, 3) := by decide +kernel
theorem dX6_addBasin_39 : decode cX6_addBasin 39 = .ok (.iload_n 2, 1) := by decide +kernel
theorem dX6_addBasin_40 : decode cX6_addBasin 40 = .ok (.iconst 1, 1) := by decide +kernel
theorem dX6_addBasin_41 : decode cX6_addBasin 41 = .ok (.bipush 40, 2) := by decide +kernel
theorem dX6_addBasin_43 : decode cX6_addBasin 43 = .ok (.invokestatic 103, 3) := by decide +kernel
theorem dX6_addBasin_46 : decode cX6_addBasin 46 = .ok (.ifCond .eq 28, 3) := by decide +kernel
theorem dX6_addBasin_49 : decode cX6_addBasin 49 = .ok (.iload_n 3, 1) := by decide +kernel
theorem dX6_addBasin_50 : decode cX6_addBasin 50 = .ok (.iconst 0, 1) := by decide +kernel
theorem dX6_addBasin_51 : decode cX6_addBasin 51 = .ok (.bipush 20, 2) := by decide +kernel
theorem dX6_addBasin_53 : decode cX6_addBasin 53 = .ok (.invokestatic 103, 3) := by decide +kernel
theorem dX6_addBasin_56 : decode cX6_addBasin 56 = .ok (.ifCond .eq 18, 3) := by decide +kernel
theorem dX6_addBasin_59 : decode cX6_addBasin 59 = .ok (.iload 5, 2) := by decide +kernel
theorem dX6_addBasin_61 : decode cX6_addBasin 61 = .ok (.iconst 0, 1) := by decide +kernel
theorem dX6_addBasin_62 : decode cX6_addBasin 62 = .ok (.bipush 30, 2) := by decide +kernel
theorem dX6_addBasin_64 : decode cX6_addBasin 64 = .ok (.invokestatic 103, 3) := by decide +kernel
theorem dX6_addBasin_67 : decode cX6_addBasin 67 = .ok (.ifCond .eq 7, 3) := by decide +kernel
theorem dX6_addBasin_70 : decode cX6_addBasin 70 = .ok (.iconst 1, 1) := by decide +kernel
theorem dX6_addBasin_71 : decode cX6_addBasin 71 = .ok (.goto 4, 3) := by decide +kernel
theorem dX6_addBasin_74 : decode cX6_addBasin 74 = .ok (.iconst 0, 1) := by decide +kernel
theorem dX6_addBasin_75 : decode cX6_addBasin 75 = .ok (.istore 7, 2) := by decide +kernel
theorem dX6_addBasin_77 : decode cX6_addBasin 77 = .ok (.aload_n 0, 1) := by decide +kernel
theorem dX6_addBasin_78 : decode cX6_addBasin 78 = .ok (.iload 6, 2) := by decide +kernel
theorem dX6_addBasin_80 : decode cX6_addBasin 80 = .ok (.ifCond .eq 7, 3) := by decide +kernel
theorem dX6_addBasin_83 : decode cX6_addBasin 83 = .ok (.iconst 1, 1) := by decide +kernel
theorem dX6_addBasin_84 : decode cX6_addBasin 84 = .ok (.goto 33, 3) := by decide +kernel
theorem dX6_addBasin_87 : decode cX6_addBasin 87 = .ok (.iload 7, 2) := by decide +kernel
theorem dX6_addBasin_89 : decode cX6_addBasin 89 = .ok (.ifCond .ne 7, 3) := by decide +kernel
theorem dX6_addBasin_92 : decode cX6_addBasin 92 = .ok (.iconst 2, 1) := by decide +kernel
theorem dX6_addBasin_93 : decode cX6_addBasin 93 = .ok (.goto 24, 3) := by decide +kernel
theorem dX6_addBasin_96 : decode cX6_addBasin 96 = .ok (.aload_n 0, 1) := by decide +kernel
theorem dX6_addBasin_97 : decode cX6_addBasin 97 = .ok (.getfield 100, 3) := by decide +kernel
theorem dX6_addBasin_100 : decode cX6_addBasin 100 = .ok (.bipush 6, 2) := by decide +kernel
theorem dX6_addBasin_102 : decode cX6_addBasin 102 = .ok (.if_icmp .eq 10, 3) := by decide +kernel
theorem dX6_addBasin_105 : decode cX6_addBasin 105 = .ok (.aload_n 0, 1) := by decide +kernel
theorem dX6_addBasin_106 : decode cX6_addBasin 106 = .ok (.getfield 120, 3) := by decide +kernel
theorem dX6_addBasin_109 : decode cX6_addBasin 109 = .ok (.ifCond .le 7, 3) := by decide +kernel
theorem dX6_addBasin_112 : decode cX6_addBasin 112 = .ok (.iconst 3, 1) := by decide +kernel
theorem dX6_addBasin_113 : decode cX6_addBasin 113 = .ok (.goto 4, 3) := by decide +kernel
theorem dX6_addBasin_116 : decode cX6_addBasin 116 = .ok (.iconst 0, 1) := by decide +kernel
theorem dX6_addBasin_117 : decode cX6_addBasin 117 = .ok (.invokevirtual 114, 3) := by decide +kernel
theorem dX6_addBasin_120 : decode cX6_addBasin 120 = .ok (.ifCond .eq 5, 3) := by decide +kernel
theorem dX6_addBasin_123 : decode cX6_addBasin 123 = .ok (.iconst 0, 1) := by decide +kernel
theorem dX6_addBasin_124 : decode cX6_addBasin 124 = .ok (.ireturn, 1) := by decide +kernel
theorem dX6_addBasin_125 : decode cX6_addBasin 125 = .ok (.aload_n 0, 1) := by decide +kernel
theorem dX6_addBasin_126 : decode cX6_addBasin 126 = .ok (.getfield 7, 3) := by decide +kernel
theorem dX6_addBasin_129 : decode cX6_addBasin 129 = .ok (.aload_n 0, 1) := by decide +kernel
theorem dX6_addBasin_130 : decode cX6_addBasin 130 = .ok (.getfield 100, 3) := by decide +kernel
theorem dX6_addBasin_133 : decode cX6_addBasin 133 = .ok (.iload_n 1, 1) := by decide +kernel
theorem dX6_addBasin_134 : decode cX6_addBasin 134 = .ok (.iastore, 1) := by decide +kernel
theorem dX6_addBasin_135 : decode cX6_addBasin 135 = .ok (.aload_n 0, 1) := by decide +kernel
theorem dX6_addBasin_136 : decode cX6_addBasin 136 = .ok (.getfield 13, 3) := by decide +kernel
theorem dX6_addBasin_139 : decode cX6_addBasin 139 = .ok (.aload_n 0, 1) := by decide +kernel
theorem dX6_addBasin_140 : decode cX6_addBasin 140 = .ok (.getfield 100, 3) := by decide +kernel
theorem dX6_addBasin_143 : decode cX6_addBasin 143 = .ok (.iload_n 2, 1) := by decide +kernel
theorem dX6_addBasin_144 : decode cX6_addBasin 144 = .ok (.iastore, 1) := by decide +kernel
theorem dX6_addBasin_145 : decode cX6_addBasin 145 = .ok (.aload_n 0, 1) := by decide +kernel
theorem dX6_addBasin_146 : decode cX6_addBasin 146 = .ok (.getfield 16, 3) := by decide +kernel
theorem dX6_addBasin_149 : decode cX6_addBasin 149 = .ok (.aload_n 0, 1) := by decide +kernel
theorem dX6_addBasin_150 : decode cX6_addBasin 150 = .ok (.getfield 100, 3) := by decide +kernel
theorem dX6_addBasin_153 : decode cX6_addBasin 153 = .ok (.iload_n 3, 1) := by decide +kernel
theorem dX6_addBasin_154 : decode cX6_addBasin 154 = .ok (.iastore, 1) := by decide +kernel
theorem dX6_addBasin_155 : decode cX6_addBasin 155 = .ok (.aload_n 0, 1) := by decide +kernel
theorem dX6_addBasin_156 : decode cX6_addBasin 156 = .ok (.getfield 19, 3) := by decide +kernel
theorem dX6_addBasin_159 : decode cX6_addBasin 159 = .ok (.aload_n 0, 1) := by decide +kernel
theorem dX6_addBasin_160 : decode cX6_addBasin 160 = .ok (.getfield 100, 3) := by decide +kernel
theorem dX6_addBasin_163 : decode cX6_addBasin 163 = .ok (.iload 4, 2) := by decide +kernel
theorem dX6_addBasin_165 : decode cX6_addBasin 165 = .ok (.iastore, 1) := by decide +kernel
theorem dX6_addBasin_166 : decode cX6_addBasin 166 = .ok (.aload_n 0, 1) := by decide +kernel
theorem dX6_addBasin_167 : decode cX6_addBasin 167 = .ok (.getfield 31, 3) := by decide +kernel
theorem dX6_addBasin_170 : decode cX6_addBasin 170 = .ok (.bipush 8, 2) := by decide +kernel
theorem dX6_addBasin_172 : decode cX6_addBasin 172 = .ok (.aload_n 0, 1) := by decide +kernel
theorem dX6_addBasin_173 : decode cX6_addBasin 173 = .ok (.getfield 100, 3) := by decide +kernel
theorem dX6_addBasin_176 : decode cX6_addBasin 176 = .ok (.imul, 1) := by decide +kernel
theorem dX6_addBasin_177 : decode cX6_addBasin 177 = .ok (.iload 5, 2) := by decide +kernel
theorem dX6_addBasin_179 : decode cX6_addBasin 179 = .ok (.iastore, 1) := by decide +kernel
theorem dX6_addBasin_180 : decode cX6_addBasin 180 = .ok (.aload_n 0, 1) := by decide +kernel
theorem dX6_addBasin_181 : decode cX6_addBasin 181 = .ok (.getfield 28, 3) := by decide +kernel
theorem dX6_addBasin_184 : decode cX6_addBasin 184 = .ok (.aload_n 0, 1) := by decide +kernel
theorem dX6_addBasin_185 : decode cX6_addBasin 185 = .ok (.getfield 100, 3) := by decide +kernel
theorem dX6_addBasin_188 : decode cX6_addBasin 188 = .ok (.iconst 1, 1) := by decide +kernel
theorem dX6_addBasin_189 : decode cX6_addBasin 189 = .ok (.iastore, 1) := by decide +kernel
theorem dX6_addBasin_190 : decode cX6_addBasin 190 = .ok (.aload_n 0, 1) := by decide +kernel
theorem dX6_addBasin_191 : decode cX6_addBasin 191 = .ok (.dup, 1) := by decide +kernel
theorem dX6_addBasin_192 : decode cX6_addBasin 192 = .ok (.getfield 100, 3) := by decide +kernel
theorem dX6_addBasin_195 : decode cX6_addBasin 195 = .ok (.iconst 1, 1) := by decide +kernel
theorem dX6_addBasin_196 : decode cX6_addBasin 196 = .ok (.iadd, 1) := by decide +kernel
theorem dX6_addBasin_197 : decode cX6_addBasin 197 = .ok (.putfield 100, 3) := by decide +kernel
theorem dX6_addBasin_200 : decode cX6_addBasin 200 = .ok (.aload_n 0, 1) := by decide +kernel
theorem dX6_addBasin_201 : decode cX6_addBasin 201 = .ok (.getfield 100, 3) := by decide +kernel
theorem dX6_addBasin_204 : decode cX6_addBasin 204 = .ok (.iconst 1, 1) := by decide +kernel
theorem dX6_addBasin_205 : decode cX6_addBasin 205 = .ok (.isub, 1) := by decide +kernel
theorem dX6_addBasin_206 : decode cX6_addBasin 206 = .ok (.ireturn, 1) := by decide +kernel
theorem dX6_addCell_0 : decode cX6_addCell 0 = .ok (.aload_n 0, 1) := by decide +kernel
theorem dX6_addCell_1 : decode cX6_addCell 1 = .ok (.aload_n 0, 1) := by decide +kernel
theorem dX6_addCell_2 : decode cX6_addCell 2 = .ok (.iload_n 1, 1) := by decide +kernel
theorem dX6_addCell_3 : decode cX6_addCell 3 = .ok (.invokevirtual 107, 3) := by decide +kernel
theorem dX6_addCell_6 : decode cX6_addCell 6 = .ok (.ifCond .eq 7, 3) := by decide +kernel
theorem dX6_addCell_9 : decode cX6_addCell 9 = .ok (.iconst 1, 1) := by decide +kernel
theorem dX6_addCell_10 : decode cX6_addCell 10 = .ok (.goto 40, 3) := by decide +kernel
theorem dX6_addCell_13 : decode cX6_addCell 13 = .ok (.iload_n 2, 1) := by decide +kernel
theorem dX6_addCell_14 : decode cX6_addCell 14 = .ok (.iconst 0, 1) := by decide +kernel
theorem dX6_addCell_15 : decode cX6_addCell 15 = .ok (.bipush 30, 2) := by decide +kernel
theorem dX6_addCell_17 : decode cX6_addCell 17 = .ok (.invokestatic 103, 3) := by decide +kernel
theorem dX6_addCell_20 : decode cX6_addCell 20 = .ok (.ifCond .ne 7, 3) := by decide +kernel
theorem dX6_addCell_23 : decode cX6_addCell 23 = .ok (.iconst 2, 1) := by decide +kernel
theorem dX6_addCell_24 : decode cX6_addCell 24 = .ok (.goto 26, 3) := by decide +kernel
theorem dX6_addCell_27 : decode cX6_addCell 27 = .ok (.aload_n 0, 1) := by decide +kernel
theorem dX6_addCell_28 : decode cX6_addCell 28 = .ok (.getfield 28, 3) := by decide +kernel
theorem dX6_addCell_31 : decode cX6_addCell 31 = .ok (.iload_n 1, 1) := by decide +kernel
theorem dX6_addCell_32 : decode cX6_addCell 32 = .ok (.iaload, 1) := by decide +kernel
theorem dX6_addCell_33 : decode cX6_addCell 33 = .ok (.bipush 8, 2) := by decide +kernel
theorem dX6_addCell_35 : decode cX6_addCell 35 = .ok (.if_icmp .eq 10, 3) := by decide +kernel
theorem dX6_addCell_38 : decode cX6_addCell 38 = .ok (.aload_n 0, 1) := by decide +kernel
theorem dX6_addCell_39 : decode cX6_addCell 39 = .ok (.getfield 120, 3) := by decide +kernel
theorem dX6_addCell_42 : decode cX6_addCell 42 = .ok (.ifCond .le 7, 3) := by decide +kernel
theorem dX6_addCell_45 : decode cX6_addCell 45 = .ok (.iconst 3, 1) := by decide +kernel
theorem dX6_addCell_46 : decode cX6_addCell 46 = .ok (.goto 4, 3) := by decide +kernel
theorem dX6_addCell_49 : decode cX6_addCell 49 = .ok (.iconst 0, 1) := by decide +kernel
theorem dX6_addCell_50 : decode cX6_addCell 50 = .ok (.invokevirtual 114, 3) := by decide +kernel
theorem dX6_addCell_53 : decode cX6_addCell 53 = .ok (.ifCond .eq 5, 3) := by decide +kernel
theorem dX6_addCell_56 : decode cX6_addCell 56 = .ok (.iconst 0, 1) := by decide +kernel
theorem dX6_addCell_57 : decode cX6_addCell 57 = .ok (.ireturn, 1) := by decide +kernel
theorem dX6_addCell_58 : decode cX6_addCell 58 = .ok (.aload_n 0, 1) := by decide +kernel
theorem dX6_addCell_59 : decode cX6_addCell 59 = .ok (.getfield 31, 3) := by decide +kernel
theorem dX6_addCell_62 : decode cX6_addCell 62 = .ok (.bipush 8, 2) := by decide +kernel
theorem dX6_addCell_64 : decode cX6_addCell 64 = .ok (.iload_n 1, 1) := by decide +kernel
theorem dX6_addCell_65 : decode cX6_addCell 65 = .ok (.imul, 1) := by decide +kernel
theorem dX6_addCell_66 : decode cX6_addCell 66 = .ok (.aload_n 0, 1) := by decide +kernel
theorem dX6_addCell_67 : decode cX6_addCell 67 = .ok (.getfield 28, 3) := by decide +kernel
theorem dX6_addCell_70 : decode cX6_addCell 70 = .ok (.iload_n 1, 1) := by decide +kernel
theorem dX6_addCell_71 : decode cX6_addCell 71 = .ok (.iaload, 1) := by decide +kernel
theorem dX6_addCell_72 : decode cX6_addCell 72 = .ok (.iadd, 1) := by decide +kernel
theorem dX6_addCell_73 : decode cX6_addCell 73 = .ok (.iload_n 2, 1) := by decide +kernel
theorem dX6_addCell_74 : decode cX6_addCell 74 = .ok (.iastore, 1) := by decide +kernel
theorem dX6_addCell_75 : decode cX6_addCell 75 = .ok (.aload_n 0, 1) := by decide +kernel
theorem dX6_addCell_76 : decode cX6_addCell 76 = .ok (.getfield 28, 3) := by decide +kernel
theorem dX6_addCell_79 : decode cX6_addCell 79 = .ok (.iload_n 1, 1) := by decide +kernel
theorem dX6_addCell_80 : decode cX6_addCell 80 = .ok (.dup2, 1) := by decide +kernel
theorem dX6_addCell_81 : decode cX6_addCell 81 = .ok (.iaload, 1) := by decide +kernel
theorem dX6_addCell_82 : decode cX6_addCell 82 = .ok (.iconst 1, 1) := by decide +kernel
theorem dX6_addCell_83 : decode cX6_addCell 83 = .ok (.iadd, 1) := by decide +kernel
theorem dX6_addCell_84 : decode cX6_addCell 84 = .ok (.iastore, 1) := by decide +kernel
theorem dX6_addCell_85 : decode cX6_addCell 85 = .ok (.aload_n 0, 1) := by decide +kernel
theorem dX6_addCell_86 : decode cX6_addCell 86 = .ok (.getfield 28, 3) := by decide +kernel
theorem dX6_addCell_89 : decode cX6_addCell 89 = .ok (.iload_n 1, 1) := by decide +kernel
theorem dX6_addCell_90 : decode cX6_addCell 90 = .ok (.iaload, 1) := by decide +kernel
theorem dX6_addCell_91 : decode cX6_addCell 91 = .ok (.ireturn, 1) := by decide +kernel
theorem dX6_basinCount_0 : decode cX6_basinCount 0 = .ok (.aload_n 0, 1) := by decide +kernel
theorem dX6_basinCount_1 : decode cX6_basinCount 1 = .ok (.aload_n 0, 1) := by decide +kernel
theorem dX6_basinCount_2 : decode cX6_basinCount 2 = .ok (.getfield 100, 3) := by decide +kernel
theorem dX6_basinCount_5 : decode cX6_basinCount 5 = .ok (.invokevirtual 123, 3) := by decide +kernel
theorem dX6_basinCount_8 : decode cX6_basinCount 8 = .ok (.ireturn, 1) := by decide +kernel
theorem dX6_cellCount_0 : decode cX6_cellCount 0 = .ok (.aload_n 0, 1) := by decide +kernel
theorem dX6_cellCount_1 : decode cX6_cellCount 1 = .ok (.aload_n 0, 1) := by decide +kernel
theorem dX6_cellCount_2 : decode cX6_cellCount 2 = .ok (.iload_n 1, 1) := by decide +kernel
theorem dX6_cellCount_3 : decode cX6_cellCount 3 = .ok (.invokevirtual 107, 3) := by decide +kernel
theorem dX6_cellCount_6 : decode cX6_cellCount 6 = .ok (.ifCond .eq 7, 3) := by decide +kernel
theorem dX6_cellCount_9 : decode cX6_cellCount 9 = .ok (.iconst 1, 1) := by decide +kernel
theorem dX6_cellCount_10 : decode cX6_cellCount 10 = .ok (.goto 4, 3) := by decide +kernel
theorem dX6_cellCount_13 : decode cX6_cellCount 13 = .ok (.iconst 0, 1) := by decide +kernel
theorem dX6_cellCount_14 : decode cX6_cellCount 14 = .ok (.invokevirtual 114, 3) := by decide +kernel
theorem dX6_cellCount_17 : decode cX6_cellCount 17 = .ok (.ifCond .eq 7, 3) := by decide +kernel
theorem dX6_cellCount_20 : decode cX6_cellCount 20 = .ok (.iconst 0, 1) := by decide +kernel
theorem dX6_cellCount_21 : decode cX6_cellCount 21 = .ok (.goto 9, 3) := by decide +kernel
theorem dX6_cellCount_24 : decode cX6_cellCount 24 = .ok (.aload_n 0, 1) := by decide +kernel
theorem dX6_cellCount_25 : decode cX6_cellCount 25 = .ok (.getfield 28, 3) := by decide +kernel
theorem dX6_cellCount_28 : decode cX6_cellCount 28 = .ok (.iload_n 1, 1) := by decide +kernel
theorem dX6_cellCount_29 : decode cX6_cellCount 29 = .ok (.iaload, 1) := by decide +kernel
theorem dX6_cellCount_30 : decode cX6_cellCount 30 = .ok (.ireturn, 1) := by decide +kernel
theorem dX6_holds_0 : decode cX6_holds 0 = .ok (.aload_n 0, 1) := by decide +kernel
theorem dX6_holds_1 : decode cX6_holds 1 = .ok (.getfield 7, 3) := by decide +kernel
theorem dX6_holds_4 : decode cX6_holds 4 = .ok (.iload_n 1, 1) := by decide +kernel
theorem dX6_holds_5 : decode cX6_holds 5 = .ok (.iaload, 1) := by decide +kernel
theorem dX6_holds_6 : decode cX6_holds 6 = .ok (.aload_n 0, 1) := by decide +kernel
theorem dX6_holds_7 : decode cX6_holds 7 = .ok (.getfield 13, 3) := by decide +kernel
theorem dX6_holds_10 : decode cX6_holds 10 = .ok (.iload_n 1, 1) := by decide +kernel
theorem dX6_holds_11 : decode cX6_holds 11 = .ok (.iaload, 1) := by decide +kernel
theorem dX6_holds_12 : decode cX6_holds 12 = .ok (.imul, 1) := by decide +kernel
theorem dX6_holds_13 : decode cX6_holds 13 = .ok (.ireturn, 1) := by decide +kernel
theorem dX6_capacityOf_0 : decode cX6_capacityOf 0 = .ok (.aload_n 0, 1) := by decide +kernel
theorem dX6_capacityOf_1 : decode cX6_capacityOf 1 = .ok (.aload_n 0, 1) := by decide +kernel
theorem dX6_capacityOf_2 : decode cX6_capacityOf 2 = .ok (.iload_n 1, 1) := by decide +kernel
theorem dX6_capacityOf_3 : decode cX6_capacityOf 3 = .ok (.invokevirtual 107, 3) := by decide +kernel
theorem dX6_capacityOf_6 : decode cX6_capacityOf 6 = .ok (.ifCond .eq 7, 3) := by decide +kernel
theorem dX6_capacityOf_9 : decode cX6_capacityOf 9 = .ok (.iconst 1, 1) := by decide +kernel
theorem dX6_capacityOf_10 : decode cX6_capacityOf 10 = .ok (.goto 4, 3) := by decide +kernel
theorem dX6_capacityOf_13 : decode cX6_capacityOf 13 = .ok (.iconst 0, 1) := by decide +kernel
theorem dX6_capacityOf_14 : decode cX6_capacityOf 14 = .ok (.invokevirtual 114, 3) := by decide +kernel
theorem dX6_capacityOf_17 : decode cX6_capacityOf 17 = .ok (.ifCond .eq 7, 3) := by decide +kernel
theorem dX6_capacityOf_20 : decode cX6_capacityOf 20 = .ok (.iconst 0, 1) := by decide +kernel
theorem dX6_capacityOf_21 : decode cX6_capacityOf 21 = .ok (.goto 8, 3) := by decide +kernel
theorem dX6_capacityOf_24 : decode cX6_capacityOf 24 = .ok (.aload_n 0, 1) := by decide +kernel
theorem dX6_capacityOf_25 : decode cX6_capacityOf 25 = .ok (.iload_n 1, 1) := by decide +kernel
theorem dX6_capacityOf_26 : decode cX6_capacityOf 26 = .ok (.invokevirtual 127, 3) := by decide +kernel
theorem dX6_capacityOf_29 : decode cX6_capacityOf 29 = .ok (.ireturn, 1) := by decide +kernel
theorem dX6_setHand_0 : decode cX6_setHand 0 = .ok (.aload_n 0, 1) := by decide +kernel
theorem dX6_setHand_1 : decode cX6_setHand 1 = .ok (.aload_n 0, 1) := by decide +kernel
theorem dX6_setHand_2 : decode cX6_setHand 2 = .ok (.iload_n 1, 1) := by decide +kernel
theorem dX6_setHand_3 : decode cX6_setHand 3 = .ok (.invokevirtual 107, 3) := by decide +kernel
theorem dX6_setHand_6 : decode cX6_setHand 6 = .ok (.ifCond .eq 7, 3) := by decide +kernel
theorem dX6_setHand_9 : decode cX6_setHand 9 = .ok (.iconst 1, 1) := by decide +kernel
theorem dX6_setHand_10 : decode cX6_setHand 10 = .ok (.goto 18, 3) := by decide +kernel
theorem dX6_setHand_13 : decode cX6_setHand 13 = .ok (.iload_n 2, 1) := by decide +kernel
theorem dX6_setHand_14 : decode cX6_setHand 14 = .ok (.iconst 0, 1) := by decide +kernel
theorem dX6_setHand_15 : decode cX6_setHand 15 = .ok (.bipush 10, 2) := by decide +kernel
theorem dX6_setHand_17 : decode cX6_setHand 17 = .ok (.invokestatic 103, 3) := by decide +kernel
theorem dX6_setHand_20 : decode cX6_setHand 20 = .ok (.ifCond .eq 7, 3) := by decide +kernel
theorem dX6_setHand_23 : decode cX6_setHand 23 = .ok (.iconst 0, 1) := by decide +kernel
theorem dX6_setHand_24 : decode cX6_setHand 24 = .ok (.goto 4, 3) := by decide +kernel
theorem dX6_setHand_27 : decode cX6_setHand 27 = .ok (.iconst 2, 1) := by decide +kernel
theorem dX6_setHand_28 : decode cX6_setHand 28 = .ok (.invokevirtual 114, 3) := by decide +kernel
theorem dX6_setHand_31 : decode cX6_setHand 31 = .ok (.ifCond .eq 5, 3) := by decide +kernel
theorem dX6_setHand_34 : decode cX6_setHand 34 = .ok (.iconst 0, 1) := by decide +kernel
theorem dX6_setHand_35 : decode cX6_setHand 35 = .ok (.ireturn, 1) := by decide +kernel
theorem dX6_setHand_36 : decode cX6_setHand 36 = .ok (.aload_n 0, 1) := by decide +kernel
theorem dX6_setHand_37 : decode cX6_setHand 37 = .ok (.getfield 22, 3) := by decide +kernel
theorem dX6_setHand_40 : decode cX6_setHand 40 = .ok (.iload_n 1, 1) := by decide +kernel
theorem dX6_setHand_41 : decode cX6_setHand 41 = .ok (.iaload, 1) := by decide +kernel
theorem dX6_setHand_42 : decode cX6_setHand 42 = .ok (.istore_n 3, 1) := by decide +kernel
theorem dX6_setHand_43 : decode cX6_setHand 43 = .ok (.aload_n 0, 1) := by decide +kernel
theorem dX6_setHand_44 : decode cX6_setHand 44 = .ok (.getfield 22, 3) := by decide +kernel
theorem dX6_setHand_47 : decode cX6_setHand 47 = .ok (.iload_n 1, 1) := by decide +kernel
theorem dX6_setHand_48 : decode cX6_setHand 48 = .ok (.iload_n 2, 1) := by decide +kernel
theorem dX6_setHand_49 : decode cX6_setHand 49 = .ok (.iastore, 1) := by decide +kernel
theorem dX6_setHand_50 : decode cX6_setHand 50 = .ok (.iload_n 3, 1) := by decide +kernel
theorem dX6_setHand_51 : decode cX6_setHand 51 = .ok (.ireturn, 1) := by decide +kernel
theorem dX6_addRule_0 : decode cX6_addRule 0 = .ok (.aload_n 0, 1) := by decide +kernel
theorem dX6_addRule_1 : decode cX6_addRule 1 = .ok (.aload_n 0, 1) := by decide +kernel
theorem dX6_addRule_2 : decode cX6_addRule 2 = .ok (.iload_n 1, 1) := by decide +kernel
theorem dX6_addRule_3 : decode cX6_addRule 3 = .ok (.invokevirtual 107, 3) := by decide +kernel
theorem dX6_addRule_6 : decode cX6_addRule 6 = .ok (.ifCond .ne 11, 3) := by decide +kernel
theorem dX6_addRule_9 : decode cX6_addRule 9 = .ok (.aload_n 0, 1) := by decide +kernel
theorem dX6_addRule_10 : decode cX6_addRule 10 = .ok (.iload_n 2, 1) := by decide +kernel
theorem dX6_addRule_11 : decode cX6_addRule 11 = .ok (.invokevirtual 107, 3) := by decide +kernel
theorem dX6_addRule_14 : decode cX6_addRule 14 = .ok (.ifCond .eq 7, 3) := by decide +kernel
theorem dX6_addRule_17 : decode cX6_addRule 17 = .ok (.iconst 1, 1) := by decide +kernel
theorem dX6_addRule_18 : decode cX6_addRule 18 = .ok (.goto 43, 3) := by decide +kernel
theorem dX6_addRule_21 : decode cX6_addRule 21 = .ok (.iload 4, 2) := by decide +kernel
theorem dX6_addRule_23 : decode cX6_addRule 23 = .ok (.iconst 0, 1) := by decide +kernel
theorem dX6_addRule_24 : decode cX6_addRule 24 = .ok (.bipush 40, 2) := by decide +kernel
theorem dX6_addRule_26 : decode cX6_addRule 26 = .ok (.invokestatic 103, 3) := by decide +kernel
theorem dX6_addRule_29 : decode cX6_addRule 29 = .ok (.ifCond .eq 14, 3) := by decide +kernel
theorem dX6_addRule_32 : decode cX6_addRule 32 = .ok (.iload 5, 2) := by decide +kernel
theorem dX6_addRule_34 : decode cX6_addRule 34 = .ok (.iconst 0, 1) := by decide +kernel
theorem dX6_addRule_35 : decode cX6_addRule 35 = .ok (.bipush 10, 2) := by decide +kernel
theorem dX6_addRule_37 : decode cX6_addRule 37 = .ok (.invokestatic 103, 3) := by decide +kernel
theorem dX6_addRule_40 : decode cX6_addRule 40 = .ok (.ifCond .ne 7, 3) := by decide +kernel
theorem dX6_addRule_43 : decode cX6_addRule 43 = .ok (.iconst 2, 1) := by decide +kernel
theorem dX6_addRule_44 : decode cX6_addRule 44 = .ok (.goto 17, 3) := by decide +kernel
theorem dX6_addRule_47 : decode cX6_addRule 47 = .ok (.aload_n 0, 1) := by decide +kernel
theorem dX6_addRule_48 : decode cX6_addRule 48 = .ok (.getfield 111, 3) := by decide +kernel
theorem dX6_addRule_51 : decode cX6_addRule 51 = .ok (.bipush 12, 2) := by decide +kernel
theorem dX6_addRule_53 : decode cX6_addRule 53 = .ok (.if_icmp .ne 7, 3) := by decide +kernel
theorem dX6_addRule_56 : decode cX6_addRule 56 = .ok (.iconst 3, 1) := by decide +kernel
theorem dX6_addRule_57 : decode cX6_addRule 57 = .ok (.goto 4, 3) := by decide +kernel
theorem dX6_addRule_60 : decode cX6_addRule 60 = .ok (.iconst 0, 1) := by decide +kernel
theorem dX6_addRule_61 : decode cX6_addRule 61 = .ok (.invokevirtual 114, 3) := by decide +kernel
theorem dX6_addRule_64 : decode cX6_addRule 64 = .ok (.ifCond .eq 5, 3) := by decide +kernel
theorem dX6_addRule_67 : decode cX6_addRule 67 = .ok (.iconst 0, 1) := by decide +kernel
theorem dX6_addRule_68 : decode cX6_addRule 68 = .ok (.ireturn, 1) := by decide +kernel
theorem dX6_addRule_69 : decode cX6_addRule 69 = .ok (.aload_n 0, 1) := by decide +kernel
theorem dX6_addRule_70 : decode cX6_addRule 70 = .ok (.getfield 49, 3) := by decide +kernel
theorem dX6_addRule_73 : decode cX6_addRule 73 = .ok (.aload_n 0, 1) := by decide +kernel
theorem dX6_addRule_74 : decode cX6_addRule 74 = .ok (.getfield 111, 3) := by decide +kernel
theorem dX6_addRule_77 : decode cX6_addRule 77 = .ok (.iload_n 1, 1) := by decide +kernel
theorem dX6_addRule_78 : decode cX6_addRule 78 = .ok (.iastore, 1) := by decide +kernel
theorem dX6_addRule_79 : decode cX6_addRule 79 = .ok (.aload_n 0, 1) := by decide +kernel
theorem dX6_addRule_80 : decode cX6_addRule 80 = .ok (.getfield 52, 3) := by decide +kernel
theorem dX6_addRule_83 : decode cX6_addRule 83 = .ok (.aload_n 0, 1) := by decide +kernel
theorem dX6_addRule_84 : decode cX6_addRule 84 = .ok (.getfield 111, 3) := by decide +kernel
theorem dX6_addRule_87 : decode cX6_addRule 87 = .ok (.iload_n 2, 1) := by decide +kernel
theorem dX6_addRule_88 : decode cX6_addRule 88 = .ok (.iastore, 1) := by decide +kernel
theorem dX6_addRule_89 : decode cX6_addRule 89 = .ok (.aload_n 0, 1) := by decide +kernel
theorem dX6_addRule_90 : decode cX6_addRule 90 = .ok (.getfield 55, 3) := by decide +kernel
theorem dX6_addRule_93 : decode cX6_addRule 93 = .ok (.aload_n 0, 1) := by decide +kernel
theorem dX6_addRule_94 : decode cX6_addRule 94 = .ok (.getfield 111, 3) := by decide +kernel
theorem dX6_addRule_97 : decode cX6_addRule 97 = .ok (.iload_n 3, 1) := by decide +kernel
theorem dX6_addRule_98 : decode cX6_addRule 98 = .ok (.bastore, 1) := by decide +kernel
theorem dX6_addRule_99 : decode cX6_addRule 99 = .ok (.aload_n 0, 1) := by decide +kernel
theorem dX6_addRule_100 : decode cX6_addRule 100 = .ok (.getfield 59, 3) := by decide +kernel
theorem dX6_addRule_103 : decode cX6_addRule 103 = .ok (.aload_n 0, 1) := by decide +kernel
theorem dX6_addRule_104 : decode cX6_addRule 104 = .ok (.getfield 111, 3) := by decide +kernel
theorem dX6_addRule_107 : decode cX6_addRule 107 = .ok (.iload 4, 2) := by decide +kernel
theorem dX6_addRule_109 : decode cX6_addRule 109 = .ok (.iastore, 1) := by decide +kernel
theorem dX6_addRule_110 : decode cX6_addRule 110 = .ok (.aload_n 0, 1) := by decide +kernel
theorem dX6_addRule_111 : decode cX6_addRule 111 = .ok (.getfield 62, 3) := by decide +kernel
theorem dX6_addRule_114 : decode cX6_addRule 114 = .ok (.aload_n 0, 1) := by decide +kernel
theorem dX6_addRule_115 : decode cX6_addRule 115 = .ok (.getfield 111, 3) := by decide +kernel
theorem dX6_addRule_118 : decode cX6_addRule 118 = .ok (.iload 5, 2) := by decide +kernel
theorem dX6_addRule_120 : decode cX6_addRule 120 = .ok (.iastore, 1) := by decide +kernel
theorem dX6_addRule_121 : decode cX6_addRule 121 = .ok (.aload_n 0, 1) := by decide +kernel
theorem dX6_addRule_122 : decode cX6_addRule 122 = .ok (.dup, 1) := by decide +kernel
theorem dX6_addRule_123 : decode cX6_addRule 123 = .ok (.getfield 111, 3) := by decide +kernel
theorem dX6_addRule_126 : decode cX6_addRule 126 = .ok (.iconst 1, 1) := by decide +kernel
theorem dX6_addRule_127 : decode cX6_addRule 127 = .ok (.iadd, 1) := by decide +kernel
theorem dX6_addRule_128 : decode cX6_addRule 128 = .ok (.putfield 111, 3) := by decide +kernel
theorem dX6_addRule_131 : decode cX6_addRule 131 = .ok (.aload_n 0, 1) := by decide +kernel
theorem dX6_addRule_132 : decode cX6_addRule 132 = .ok (.getfield 111, 3) := by decide +kernel
theorem dX6_addRule_135 : decode cX6_addRule 135 = .ok (.ireturn, 1) := by decide +kernel
theorem dX6_removeRule_0 : decode cX6_removeRule 0 = .ok (.aload_n 0, 1) := by decide +kernel
theorem dX6_removeRule_1 : decode cX6_removeRule 1 = .ok (.iload_n 1, 1) := by decide +kernel
theorem dX6_removeRule_2 : decode cX6_removeRule 2 = .ok (.invokevirtual 130, 3) := by decide +kernel
theorem dX6_removeRule_5 : decode cX6_removeRule 5 = .ok (.ifCond .eq 5, 3) := by decide +kernel
theorem dX6_removeRule_8 : decode cX6_removeRule 8 = .ok (.iconst 0, 1) := by decide +kernel
theorem dX6_removeRule_9 : decode cX6_removeRule 9 = .ok (.ireturn, 1) := by decide +kernel
theorem dX6_removeRule_10 : decode cX6_removeRule 10 = .ok (.aload_n 0, 1) := by decide +kernel
theorem dX6_removeRule_11 : decode cX6_removeRule 11 = .ok (.dup, 1) := by decide +kernel
theorem dX6_removeRule_12 : decode cX6_removeRule 12 = .ok (.getfield 111, 3) := by decide +kernel
theorem dX6_removeRule_15 : decode cX6_removeRule 15 = .ok (.iconst 1, 1) := by decide +kernel
theorem dX6_removeRule_16 : decode cX6_removeRule 16 = .ok (.isub, 1) := by decide +kernel
theorem dX6_removeRule_17 : decode cX6_removeRule 17 = .ok (.putfield 111, 3) := by decide +kernel
theorem dX6_removeRule_20 : decode cX6_removeRule 20 = .ok (.iload_n 1, 1) := by decide +kernel
theorem dX6_removeRule_21 : decode cX6_removeRule 21 = .ok (.istore_n 2, 1) := by decide +kernel
theorem dX6_removeRule_22 : decode cX6_removeRule 22 = .ok (.iload_n 2, 1) := by decide +kernel
theorem dX6_removeRule_23 : decode cX6_removeRule 23 = .ok (.aload_n 0, 1) := by decide +kernel
theorem dX6_removeRule_24 : decode cX6_removeRule 24 = .ok (.getfield 111, 3) := by decide +kernel
theorem dX6_removeRule_27 : decode cX6_removeRule 27 = .ok (.if_icmp .ge 79, 3) := by decide +kernel
theorem dX6_removeRule_30 : decode cX6_removeRule 30 = .ok (.aload_n 0, 1) := by decide +kernel
theorem dX6_removeRule_31 : decode cX6_removeRule 31 = .ok (.getfield 49, 3) := by decide +kernel
theorem dX6_removeRule_34 : decode cX6_removeRule 34 = .ok (.iload_n 2, 1) := by decide +kernel
theorem dX6_removeRule_35 : decode cX6_removeRule 35 = .ok (.aload_n 0, 1) := by decide +kernel
theorem dX6_removeRule_36 : decode cX6_removeRule 36 = .ok (.getfield 49, 3) := by decide +kernel
theorem dX6_removeRule_39 : decode cX6_removeRule 39 = .ok (.iload_n 2, 1) := by decide +kernel
theorem dX6_removeRule_40 : decode cX6_removeRule 40 = .ok (.iconst 1, 1) := by decide +kernel
theorem dX6_removeRule_41 : decode cX6_removeRule 41 = .ok (.iadd, 1) := by decide +kernel
theorem dX6_removeRule_42 : decode cX6_removeRule 42 = .ok (.iaload, 1) := by decide +kernel
theorem dX6_removeRule_43 : decode cX6_removeRule 43 = .ok (.iastore, 1) := by decide +kernel
theorem dX6_removeRule_44 : decode cX6_removeRule 44 = .ok (.aload_n 0, 1) := by decide +kernel
theorem dX6_removeRule_45 : decode cX6_removeRule 45 = .ok (.getfield 52, 3) := by decide +kernel
theorem dX6_removeRule_48 : decode cX6_removeRule 48 = .ok (.iload_n 2, 1) := by decide +kernel
theorem dX6_removeRule_49 : decode cX6_removeRule 49 = .ok (.aload_n 0, 1) := by decide +kernel
theorem dX6_removeRule_50 : decode cX6_removeRule 50 = .ok (.getfield 52, 3) := by decide +kernel
theorem dX6_removeRule_53 : decode cX6_removeRule 53 = .ok (.iload_n 2, 1) := by decide +kernel
theorem dX6_removeRule_54 : decode cX6_removeRule 54 = .ok (.iconst 1, 1) := by decide +kernel
theorem dX6_removeRule_55 : decode cX6_removeRule 55 = .ok (.iadd, 1) := by decide +kernel
theorem dX6_removeRule_56 : decode cX6_removeRule 56 = .ok (.iaload, 1) := by decide +kernel
theorem dX6_removeRule_57 : decode cX6_removeRule 57 = .ok (.iastore, 1) := by decide +kernel
theorem dX6_removeRule_58 : decode cX6_removeRule 58 = .ok (.aload_n 0, 1) := by decide +kernel
theorem dX6_removeRule_59 : decode cX6_removeRule 59 = .ok (.getfield 55, 3) := by decide +kernel
theorem dX6_removeRule_62 : decode cX6_removeRule 62 = .ok (.iload_n 2, 1) := by decide +kernel
theorem dX6_removeRule_63 : decode cX6_removeRule 63 = .ok (.aload_n 0, 1) := by decide +kernel
theorem dX6_removeRule_64 : decode cX6_removeRule 64 = .ok (.getfield 55, 3) := by decide +kernel
theorem dX6_removeRule_67 : decode cX6_removeRule 67 = .ok (.iload_n 2, 1) := by decide +kernel
theorem dX6_removeRule_68 : decode cX6_removeRule 68 = .ok (.iconst 1, 1) := by decide +kernel
theorem dX6_removeRule_69 : decode cX6_removeRule 69 = .ok (.iadd, 1) := by decide +kernel
theorem dX6_removeRule_70 : decode cX6_removeRule 70 = .ok (.baload, 1) := by decide +kernel
theorem dX6_removeRule_71 : decode cX6_removeRule 71 = .ok (.bastore, 1) := by decide +kernel
theorem dX6_removeRule_72 : decode cX6_removeRule 72 = .ok (.aload_n 0, 1) := by decide +kernel
theorem dX6_removeRule_73 : decode cX6_removeRule 73 = .ok (.getfield 59, 3) := by decide +kernel
theorem dX6_removeRule_76 : decode cX6_removeRule 76 = .ok (.iload_n 2, 1) := by decide +kernel
theorem dX6_removeRule_77 : decode cX6_removeRule 77 = .ok (.aload_n 0, 1) := by decide +kernel
theorem dX6_removeRule_78 : decode cX6_removeRule 78 = .ok (.getfield 59, 3) := by decide +kernel
theorem dX6_removeRule_81 : decode cX6_removeRule 81 = .ok (.iload_n 2, 1) := by decide +kernel
theorem dX6_removeRule_82 : decode cX6_removeRule 82 = .ok (.iconst 1, 1) := by decide +kernel
theorem dX6_removeRule_83 : decode cX6_removeRule 83 = .ok (.iadd, 1) := by decide +kernel
theorem dX6_removeRule_84 : decode cX6_removeRule 84 = .ok (.iaload, 1) := by decide +kernel
theorem dX6_removeRule_85 : decode cX6_removeRule 85 = .ok (.iastore, 1) := by decide +kernel
theorem dX6_removeRule_86 : decode cX6_removeRule 86 = .ok (.aload_n 0, 1) := by decide +kernel
theorem dX6_removeRule_87 : decode cX6_removeRule 87 = .ok (.getfield 62, 3) := by decide +kernel
theorem dX6_removeRule_90 : decode cX6_removeRule 90 = .ok (.iload_n 2, 1) := by decide +kernel
theorem dX6_removeRule_91 : decode cX6_removeRule 91 = .ok (.aload_n 0, 1) := by decide +kernel
theorem dX6_removeRule_92 : decode cX6_removeRule 92 = .ok (.getfield 62, 3) := by decide +kernel
theorem dX6_removeRule_95 : decode cX6_removeRule 95 = .ok (.iload_n 2, 1) := by decide +kernel
theorem dX6_removeRule_96 : decode cX6_removeRule 96 = .ok (.iconst 1, 1) := by decide +kernel
theorem dX6_removeRule_97 : decode cX6_removeRule 97 = .ok (.iadd, 1) := by decide +kernel
theorem dX6_removeRule_98 : decode cX6_removeRule 98 = .ok (.iaload, 1) := by decide +kernel
theorem dX6_removeRule_99 : decode cX6_removeRule 99 = .ok (.iastore, 1) := by decide +kernel
theorem dX6_removeRule_100 : decode cX6_removeRule 100 = .ok (.iinc 2 1, 3) := by decide +kernel
theorem dX6_removeRule_103 : decode cX6_removeRule 103 = .ok (.goto (-81), 3) := by decide +kernel
theorem dX6_removeRule_106 : decode cX6_removeRule 106 = .ok (.aload_n 0, 1) := by decide +kernel
theorem dX6_removeRule_107 : decode cX6_removeRule 107 = .ok (.getfield 111, 3) := by decide +kernel
theorem dX6_removeRule_110 : decode cX6_removeRule 110 = .ok (.ireturn, 1) := by decide +kernel
theorem dX6_ruleCount_0 : decode cX6_ruleCount 0 = .ok (.aload_n 0, 1) := by decide +kernel
theorem dX6_ruleCount_1 : decode cX6_ruleCount 1 = .ok (.aload_n 0, 1) := by decide +kernel
theorem dX6_ruleCount_2 : decode cX6_ruleCount 2 = .ok (.getfield 111, 3) := by decide +kernel
theorem dX6_ruleCount_5 : decode cX6_ruleCount 5 = .ok (.invokevirtual 123, 3) := by decide +kernel
theorem dX6_ruleCount_8 : decode cX6_ruleCount 8 = .ok (.ireturn, 1) := by decide +kernel
theorem dX6_isTrue_0 : decode cX6_isTrue 0 = .ok (.aload_n 2, 1) := by decide +kernel
theorem dX6_isTrue_1 : decode cX6_isTrue 1 = .ok (.aload_n 0, 1) := by decide +kernel
theorem dX6_isTrue_2 : decode cX6_isTrue 2 = .ok (.getfield 52, 3) := by decide +kernel
theorem dX6_isTrue_5 : decode cX6_isTrue 5 = .ok (.iload_n 1, 1) := by decide +kernel
theorem dX6_isTrue_6 : decode cX6_isTrue 6 = .ok (.iaload, 1) := by decide +kernel
theorem dX6_isTrue_7 : decode cX6_isTrue 7 = .ok (.iaload, 1) := by decide +kernel
theorem dX6_isTrue_8 : decode cX6_isTrue 8 = .ok (.aload_n 0, 1) := by decide +kernel
theorem dX6_isTrue_9 : decode cX6_isTrue 9 = .ok (.getfield 7, 3) := by decide +kernel
theorem dX6_isTrue_12 : decode cX6_isTrue 12 = .ok (.aload_n 0, 1) := by decide +kernel
theorem dX6_isTrue_13 : decode cX6_isTrue 13 = .ok (.getfield 52, 3) := by decide +kernel
theorem dX6_isTrue_16 : decode cX6_isTrue 16 = .ok (.iload_n 1, 1) := by decide +kernel
theorem dX6_isTrue_17 : decode cX6_isTrue 17 = .ok (.iaload, 1) := by decide +kernel
theorem dX6_isTrue_18 : decode cX6_isTrue 18 = .ok (.iaload, 1) := by decide +kernel
theorem dX6_isTrue_19 : decode cX6_isTrue 19 = .ok (.idiv, 1) := by decide +kernel
theorem dX6_isTrue_20 : decode cX6_isTrue 20 = .ok (.aload_n 0, 1) := by decide +kernel
theorem dX6_isTrue_21 : decode cX6_isTrue 21 = .ok (.getfield 59, 3) := by decide +kernel
theorem dX6_isTrue_24 : decode cX6_isTrue 24 = .ok (.iload_n 1, 1) := by decide +kernel
theorem dX6_isTrue_25 : decode cX6_isTrue 25 = .ok (.iaload, 1) := by decide +kernel
theorem dX6_isTrue_26 : decode cX6_isTrue 26 = .ok (.if_icmp .lt 7, 3) := by decide +kernel
theorem dX6_isTrue_29 : decode cX6_isTrue 29 = .ok (.iconst 1, 1) := by decide +kernel
theorem dX6_isTrue_30 : decode cX6_isTrue 30 = .ok (.goto 4, 3) := by decide +kernel
theorem dX6_isTrue_33 : decode cX6_isTrue 33 = .ok (.iconst 0, 1) := by decide +kernel
theorem dX6_isTrue_34 : decode cX6_isTrue 34 = .ok (.aload_n 0, 1) := by decide +kernel
theorem dX6_isTrue_35 : decode cX6_isTrue 35 = .ok (.getfield 55, 3) := by decide +kernel
theorem dX6_isTrue_38 : decode cX6_isTrue 38 = .ok (.iload_n 1, 1) := by decide +kernel
theorem dX6_isTrue_39 : decode cX6_isTrue 39 = .ok (.baload, 1) := by decide +kernel
theorem dX6_isTrue_40 : decode cX6_isTrue 40 = .ok (.if_icmp .ne 7, 3) := by decide +kernel
theorem dX6_isTrue_43 : decode cX6_isTrue 43 = .ok (.iconst 1, 1) := by decide +kernel
theorem dX6_isTrue_44 : decode cX6_isTrue 44 = .ok (.goto 4, 3) := by decide +kernel
theorem dX6_isTrue_47 : decode cX6_isTrue 47 = .ok (.iconst 0, 1) := by decide +kernel
theorem dX6_isTrue_48 : decode cX6_isTrue 48 = .ok (.ireturn, 1) := by decide +kernel
theorem dX6_doesHold_0 : decode cX6_doesHold 0 = .ok (.aload_n 0, 1) := by decide +kernel
theorem dX6_doesHold_1 : decode cX6_doesHold 1 = .ok (.iload_n 1, 1) := by decide +kernel
theorem dX6_doesHold_2 : decode cX6_doesHold 2 = .ok (.invokevirtual 130, 3) := by decide +kernel
theorem dX6_doesHold_5 : decode cX6_doesHold 5 = .ok (.ifCond .ne 19, 3) := by decide +kernel
theorem dX6_doesHold_8 : decode cX6_doesHold 8 = .ok (.aload_n 0, 1) := by decide +kernel
theorem dX6_doesHold_9 : decode cX6_doesHold 9 = .ok (.iload_n 1, 1) := by decide +kernel
theorem dX6_doesHold_10 : decode cX6_doesHold 10 = .ok (.aload_n 0, 1) := by decide +kernel
theorem dX6_doesHold_11 : decode cX6_doesHold 11 = .ok (.getfield 34, 3) := by decide +kernel
theorem dX6_doesHold_14 : decode cX6_doesHold 14 = .ok (.invokevirtual 133, 3) := by decide +kernel
theorem dX6_doesHold_17 : decode cX6_doesHold 17 = .ok (.ifCond .eq 7, 3) := by decide +kernel
theorem dX6_doesHold_20 : decode cX6_doesHold 20 = .ok (.iconst 1, 1) := by decide +kernel
theorem dX6_doesHold_21 : decode cX6_doesHold 21 = .ok (.goto 4, 3) := by decide +kernel
theorem dX6_doesHold_24 : decode cX6_doesHold 24 = .ok (.iconst 0, 1) := by decide +kernel
theorem dX6_doesHold_25 : decode cX6_doesHold 25 = .ok (.ireturn, 1) := by decide +kernel
theorem dX6_opening_0 : decode cX6_opening 0 = .ok (.aload_n 0, 1) := by decide +kernel
theorem dX6_opening_1 : decode cX6_opening 1 = .ok (.getfield 22, 3) := by decide +kernel
theorem dX6_opening_4 : decode cX6_opening 4 = .ok (.iload_n 1, 1) := by decide +kernel
theorem dX6_opening_5 : decode cX6_opening 5 = .ok (.iaload, 1) := by decide +kernel
theorem dX6_opening_6 : decode cX6_opening 6 = .ok (.istore_n 3, 1) := by decide +kernel
theorem dX6_opening_7 : decode cX6_opening 7 = .ok (.iconst 0, 1) := by decide +kernel
theorem dX6_opening_8 : decode cX6_opening 8 = .ok (.istore 4, 2) := by decide +kernel
theorem dX6_opening_10 : decode cX6_opening 10 = .ok (.iload 4, 2) := by decide +kernel
theorem dX6_opening_12 : decode cX6_opening 12 = .ok (.aload_n 0, 1) := by decide +kernel
theorem dX6_opening_13 : decode cX6_opening 13 = .ok (.getfield 111, 3) := by decide +kernel
theorem dX6_opening_16 : decode cX6_opening 16 = .ok (.if_icmp .ge 38, 3) := by decide +kernel
theorem dX6_opening_19 : decode cX6_opening 19 = .ok (.aload_n 0, 1) := by decide +kernel
theorem dX6_opening_20 : decode cX6_opening 20 = .ok (.getfield 49, 3) := by decide +kernel
theorem dX6_opening_23 : decode cX6_opening 23 = .ok (.iload 4, 2) := by decide +kernel
theorem dX6_opening_25 : decode cX6_opening 25 = .ok (.iaload, 1) := by decide +kernel
theorem dX6_opening_26 : decode cX6_opening 26 = .ok (.iload_n 1, 1) := by decide +kernel
theorem dX6_opening_27 : decode cX6_opening 27 = .ok (.if_icmp .ne 21, 3) := by decide +kernel
theorem dX6_opening_30 : decode cX6_opening 30 = .ok (.aload_n 0, 1) := by decide +kernel
theorem dX6_opening_31 : decode cX6_opening 31 = .ok (.iload 4, 2) := by decide +kernel
theorem dX6_opening_33 : decode cX6_opening 33 = .ok (.aload_n 2, 1) := by decide +kernel
theorem dX6_opening_34 : decode cX6_opening 34 = .ok (.invokevirtual 133, 3) := by decide +kernel
theorem dX6_opening_37 : decode cX6_opening 37 = .ok (.ifCond .eq 11, 3) := by decide +kernel
theorem dX6_opening_40 : decode cX6_opening 40 = .ok (.aload_n 0, 1) := by decide +kernel
theorem dX6_opening_41 : decode cX6_opening 41 = .ok (.getfield 62, 3) := by decide +kernel
theorem dX6_opening_44 : decode cX6_opening 44 = .ok (.iload 4, 2) := by decide +kernel
theorem dX6_opening_46 : decode cX6_opening 46 = .ok (.iaload, 1) := by decide +kernel
theorem dX6_opening_47 : decode cX6_opening 47 = .ok (.istore_n 3, 1) := by decide +kernel
theorem dX6_opening_48 : decode cX6_opening 48 = .ok (.iinc 4 1, 3) := by decide +kernel
theorem dX6_opening_51 : decode cX6_opening 51 = .ok (.goto (-41), 3) := by decide +kernel
theorem dX6_opening_54 : decode cX6_opening 54 = .ok (.iload_n 1, 1) := by decide +kernel
theorem dX6_opening_55 : decode cX6_opening 55 = .ok (.aload_n 0, 1) := by decide +kernel
theorem dX6_opening_56 : decode cX6_opening 56 = .ok (.getfield 89, 3) := by decide +kernel
theorem dX6_opening_59 : decode cX6_opening 59 = .ok (.if_icmp .ne 10, 3) := by decide +kernel
theorem dX6_opening_62 : decode cX6_opening 62 = .ok (.aload_n 0, 1) := by decide +kernel
theorem dX6_opening_63 : decode cX6_opening 63 = .ok (.getfield 137, 3) := by decide +kernel
theorem dX6_opening_66 : decode cX6_opening 66 = .ok (.goto 4, 3) := by decide +kernel
theorem dX6_opening_69 : decode cX6_opening 69 = .ok (.iload_n 3, 1) := by decide +kernel
theorem dX6_opening_70 : decode cX6_opening 70 = .ok (.ireturn, 1) := by decide +kernel
theorem dX6_openingNow_0 : decode cX6_openingNow 0 = .ok (.aload_n 0, 1) := by decide +kernel
theorem dX6_openingNow_1 : decode cX6_openingNow 1 = .ok (.aload_n 0, 1) := by decide +kernel
theorem dX6_openingNow_2 : decode cX6_openingNow 2 = .ok (.iload_n 1, 1) := by decide +kernel
theorem dX6_openingNow_3 : decode cX6_openingNow 3 = .ok (.invokevirtual 107, 3) := by decide +kernel
theorem dX6_openingNow_6 : decode cX6_openingNow 6 = .ok (.ifCond .eq 7, 3) := by decide +kernel
theorem dX6_openingNow_9 : decode cX6_openingNow 9 = .ok (.iconst 1, 1) := by decide +kernel
theorem dX6_openingNow_10 : decode cX6_openingNow 10 = .ok (.goto 4, 3) := by decide +kernel
theorem dX6_openingNow_13 : decode cX6_openingNow 13 = .ok (.iconst 0, 1) := by decide +kernel
theorem dX6_openingNow_14 : decode cX6_openingNow 14 = .ok (.invokevirtual 114, 3) := by decide +kernel
theorem dX6_openingNow_17 : decode cX6_openingNow 17 = .ok (.ifCond .eq 7, 3) := by decide +kernel
theorem dX6_openingNow_20 : decode cX6_openingNow 20 = .ok (.iconst 0, 1) := by decide +kernel
theorem dX6_openingNow_21 : decode cX6_openingNow 21 = .ok (.goto 12, 3) := by decide +kernel
theorem dX6_openingNow_24 : decode cX6_openingNow 24 = .ok (.aload_n 0, 1) := by decide +kernel
theorem dX6_openingNow_25 : decode cX6_openingNow 25 = .ok (.iload_n 1, 1) := by decide +kernel
theorem dX6_openingNow_26 : decode cX6_openingNow 26 = .ok (.aload_n 0, 1) := by decide +kernel
theorem dX6_openingNow_27 : decode cX6_openingNow 27 = .ok (.getfield 34, 3) := by decide +kernel
theorem dX6_openingNow_30 : decode cX6_openingNow 30 = .ok (.invokevirtual 140, 3) := by decide +kernel
theorem dX6_openingNow_33 : decode cX6_openingNow 33 = .ok (.ireturn, 1) := by decide +kernel
theorem dX6_setRain_0 : decode cX6_setRain 0 = .ok (.aload_n 0, 1) := by decide +kernel
theorem dX6_setRain_1 : decode cX6_setRain 1 = .ok (.aload_n 0, 1) := by decide +kernel
theorem dX6_setRain_2 : decode cX6_setRain 2 = .ok (.iload_n 1, 1) := by decide +kernel
theorem dX6_setRain_3 : decode cX6_setRain 3 = .ok (.invokevirtual 107, 3) := by decide +kernel
theorem dX6_setRain_6 : decode cX6_setRain 6 = .ok (.ifCond .eq 7, 3) := by decide +kernel
theorem dX6_setRain_9 : decode cX6_setRain 9 = .ok (.iconst 1, 1) := by decide +kernel
theorem dX6_setRain_10 : decode cX6_setRain 10 = .ok (.goto 19, 3) := by decide +kernel
theorem dX6_setRain_13 : decode cX6_setRain 13 = .ok (.iload_n 2, 1) := by decide +kernel
theorem dX6_setRain_14 : decode cX6_setRain 14 = .ok (.iconst 0, 1) := by decide +kernel
theorem dX6_setRain_15 : decode cX6_setRain 15 = .ok (.sipush 500, 3) := by decide +kernel
theorem dX6_setRain_18 : decode cX6_setRain 18 = .ok (.invokestatic 103, 3) := by decide +kernel
theorem dX6_setRain_21 : decode cX6_setRain 21 = .ok (.ifCond .eq 7, 3) := by decide +kernel
theorem dX6_setRain_24 : decode cX6_setRain 24 = .ok (.iconst 0, 1) := by decide +kernel
theorem dX6_setRain_25 : decode cX6_setRain 25 = .ok (.goto 4, 3) := by decide +kernel
theorem dX6_setRain_28 : decode cX6_setRain 28 = .ok (.iconst 2, 1) := by decide +kernel
theorem dX6_setRain_29 : decode cX6_setRain 29 = .ok (.invokevirtual 114, 3) := by decide +kernel
theorem dX6_setRain_32 : decode cX6_setRain 32 = .ok (.ifCond .eq 5, 3) := by decide +kernel
theorem dX6_setRain_35 : decode cX6_setRain 35 = .ok (.iconst 0, 1) := by decide +kernel
theorem dX6_setRain_36 : decode cX6_setRain 36 = .ok (.ireturn, 1) := by decide +kernel
theorem dX6_setRain_37 : decode cX6_setRain 37 = .ok (.aload_n 0, 1) := by decide +kernel
theorem dX6_setRain_38 : decode cX6_setRain 38 = .ok (.getfield 25, 3) := by decide +kernel
theorem dX6_setRain_41 : decode cX6_setRain 41 = .ok (.iload_n 1, 1) := by decide +kernel
theorem dX6_setRain_42 : decode cX6_setRain 42 = .ok (.iaload, 1) := by decide +kernel
theorem dX6_setRain_43 : decode cX6_setRain 43 = .ok (.istore_n 3, 1) := by decide +kernel
theorem dX6_setRain_44 : decode cX6_setRain 44 = .ok (.aload_n 0, 1) := by decide +kernel
theorem dX6_setRain_45 : decode cX6_setRain 45 = .ok (.getfield 25, 3) := by decide +kernel
theorem dX6_setRain_48 : decode cX6_setRain 48 = .ok (.iload_n 1, 1) := by decide +kernel
theorem dX6_setRain_49 : decode cX6_setRain 49 = .ok (.iload_n 2, 1) := by decide +kernel
theorem dX6_setRain_50 : decode cX6_setRain 50 = .ok (.iastore, 1) := by decide +kernel
theorem dX6_setRain_51 : decode cX6_setRain 51 = .ok (.iload_n 3, 1) := by decide +kernel
theorem dX6_setRain_52 : decode cX6_setRain 52 = .ok (.ireturn, 1) := by decide +kernel
theorem dX6_flows_0 : decode cX6_flows 0 = .ok (.iconst 0, 1) := by decide +kernel
theorem dX6_flows_1 : decode cX6_flows 1 = .ok (.istore_n 3, 1) := by decide +kernel
theorem dX6_flows_2 : decode cX6_flows 2 = .ok (.iload_n 3, 1) := by decide +kernel
theorem dX6_flows_3 : decode cX6_flows 3 = .ok (.aload_n 0, 1) := by decide +kernel
theorem dX6_flows_4 : decode cX6_flows 4 = .ok (.getfield 100, 3) := by decide +kernel
theorem dX6_flows_7 : decode cX6_flows 7 = .ok (.if_icmp .ge 34, 3) := by decide +kernel
theorem dX6_flows_10 : decode cX6_flows 10 = .ok (.aload_n 0, 1) := by decide +kernel
theorem dX6_flows_11 : decode cX6_flows 11 = .ok (.getfield 46, 3) := by decide +kernel
theorem dX6_flows_14 : decode cX6_flows 14 = .ok (.iload_n 3, 1) := by decide +kernel
theorem dX6_flows_15 : decode cX6_flows 15 = .ok (.aload_n 0, 1) := by decide +kernel
theorem dX6_flows_16 : decode cX6_flows 16 = .ok (.iload_n 3, 1) := by decide +kernel
theorem dX6_flows_17 : decode cX6_flows 17 = .ok (.aload_n 1, 1) := by decide +kernel
theorem dX6_flows_18 : decode cX6_flows 18 = .ok (.invokevirtual 140, 3) := by decide +kernel
theorem dX6_flows_21 : decode cX6_flows 21 = .ok (.aload_n 0, 1) := by decide +kernel
theorem dX6_flows_22 : decode cX6_flows 22 = .ok (.getfield 16, 3) := by decide +kernel
theorem dX6_flows_25 : decode cX6_flows 25 = .ok (.iload_n 3, 1) := by decide +kernel
theorem dX6_flows_26 : decode cX6_flows 26 = .ok (.iaload, 1) := by decide +kernel
theorem dX6_flows_27 : decode cX6_flows 27 = .ok (.imul, 1) := by decide +kernel
theorem dX6_flows_28 : decode cX6_flows 28 = .ok (.aload_n 1, 1) := by decide +kernel
theorem dX6_flows_29 : decode cX6_flows 29 = .ok (.iload_n 3, 1) := by decide +kernel
theorem dX6_flows_30 : decode cX6_flows 30 = .ok (.iaload, 1) := by decide +kernel
theorem dX6_flows_31 : decode cX6_flows 31 = .ok (.invokestatic 144, 3) := by decide +kernel
theorem dX6_flows_34 : decode cX6_flows 34 = .ok (.iastore, 1) := by decide +kernel
theorem dX6_flows_35 : decode cX6_flows 35 = .ok (.iinc 3 1, 3) := by decide +kernel
theorem dX6_flows_38 : decode cX6_flows 38 = .ok (.goto (-36), 3) := by decide +kernel
theorem dX6_flows_41 : decode cX6_flows 41 = .ok (.iconst 0, 1) := by decide +kernel
theorem dX6_flows_42 : decode cX6_flows 42 = .ok (.istore_n 3, 1) := by decide +kernel
theorem dX6_flows_43 : decode cX6_flows 43 = .ok (.iload_n 3, 1) := by decide +kernel
theorem dX6_flows_44 : decode cX6_flows 44 = .ok (.aload_n 0, 1) := by decide +kernel
theorem dX6_flows_45 : decode cX6_flows 45 = .ok (.getfield 100, 3) := by decide +kernel
theorem dX6_flows_48 : decode cX6_flows 48 = .ok (.if_icmp .ge 42, 3) := by decide +kernel
theorem dX6_flows_51 : decode cX6_flows 51 = .ok (.aload_n 1, 1) := by decide +kernel
theorem dX6_flows_52 : decode cX6_flows 52 = .ok (.iload_n 3, 1) := by decide +kernel
theorem dX6_flows_53 : decode cX6_flows 53 = .ok (.dup2, 1) := by decide +kernel
theorem dX6_flows_54 : decode cX6_flows 54 = .ok (.iaload, 1) := by decide +kernel
theorem dX6_flows_55 : decode cX6_flows 55 = .ok (.aload_n 0, 1) := by decide +kernel
theorem dX6_flows_56 : decode cX6_flows 56 = .ok (.getfield 46, 3) := by decide +kernel
theorem dX6_flows_59 : decode cX6_flows 59 = .ok (.iload_n 3, 1) := by decide +kernel
theorem dX6_flows_60 : decode cX6_flows 60 = .ok (.iaload, 1) := by decide +kernel
theorem dX6_flows_61 : decode cX6_flows 61 = .ok (.isub, 1) := by decide +kernel
theorem dX6_flows_62 : decode cX6_flows 62 = .ok (.iastore, 1) := by decide +kernel
theorem dX6_flows_63 : decode cX6_flows 63 = .ok (.iload_n 3, 1) := by decide +kernel
theorem dX6_flows_64 : decode cX6_flows 64 = .ok (.ifCond .le 20, 3) := by decide +kernel
theorem dX6_flows_67 : decode cX6_flows 67 = .ok (.aload_n 1, 1) := by decide +kernel
theorem dX6_flows_68 : decode cX6_flows 68 = .ok (.aload_n 0, 1) := by decide +kernel
theorem dX6_flows_69 : decode cX6_flows 69 = .ok (.getfield 19, 3) := by decide +kernel
theorem dX6_flows_72 : decode cX6_flows 72 = .ok (.iload_n 3, 1) := by decide +kernel
theorem dX6_flows_73 : decode cX6_flows 73 = .ok (.iaload, 1) := by decide +kernel
theorem dX6_flows_74 : decode cX6_flows 74 = .ok (.dup2, 1) := by decide +kernel
theorem dX6_flows_75 : decode cX6_flows 75 = .ok (.iaload, 1) := by decide +kernel
theorem dX6_flows_76 : decode cX6_flows 76 = .ok (.aload_n 0, 1) := by decide +kernel
theorem dX6_flows_77 : decode cX6_flows 77 = .ok (.getfield 46, 3) := by decide +kernel
theorem dX6_flows_80 : decode cX6_flows 80 = .ok (.iload_n 3, 1) := by decide +kernel
theorem dX6_flows_81 : decode cX6_flows 81 = .ok (.iaload, 1) := by decide +kernel
theorem dX6_flows_82 : decode cX6_flows 82 = .ok (.iadd, 1) := by decide +kernel
theorem dX6_flows_83 : decode cX6_flows 83 = .ok (.iastore, 1) := by decide +kernel
theorem dX6_flows_84 : decode cX6_flows 84 = .ok (.iinc 3 1, 3) := by decide +kernel
theorem dX6_flows_87 : decode cX6_flows 87 = .ok (.goto (-44), 3) := by decide +kernel
theorem dX6_flows_90 : decode cX6_flows 90 = .ok (.iconst 0, 1) := by decide +kernel
theorem dX6_flows_91 : decode cX6_flows 91 = .ok (.istore_n 3, 1) := by decide +kernel
theorem dX6_flows_92 : decode cX6_flows 92 = .ok (.iload_n 3, 1) := by decide +kernel
theorem dX6_flows_93 : decode cX6_flows 93 = .ok (.aload_n 0, 1) := by decide +kernel
theorem dX6_flows_94 : decode cX6_flows 94 = .ok (.getfield 100, 3) := by decide +kernel
theorem dX6_flows_97 : decode cX6_flows 97 = .ok (.if_icmp .ge 66, 3) := by decide +kernel
theorem dX6_flows_100 : decode cX6_flows 100 = .ok (.aload_n 1, 1) := by decide +kernel
theorem dX6_flows_101 : decode cX6_flows 101 = .ok (.iload_n 3, 1) := by decide +kernel
theorem dX6_flows_102 : decode cX6_flows 102 = .ok (.iaload, 1) := by decide +kernel
theorem dX6_flows_103 : decode cX6_flows 103 = .ok (.aload_n 0, 1) := by decide +kernel
theorem dX6_flows_104 : decode cX6_flows 104 = .ok (.iload_n 3, 1) := by decide +kernel
theorem dX6_flows_105 : decode cX6_flows 105 = .ok (.invokevirtual 127, 3) := by decide +kernel
theorem dX6_flows_108 : decode cX6_flows 108 = .ok (.if_icmp .le 15, 3) := by decide +kernel
theorem dX6_flows_111 : decode cX6_flows 111 = .ok (.aload_n 1, 1) := by decide +kernel
theorem dX6_flows_112 : decode cX6_flows 112 = .ok (.iload_n 3, 1) := by decide +kernel
theorem dX6_flows_113 : decode cX6_flows 113 = .ok (.iaload, 1) := by decide +kernel
theorem dX6_flows_114 : decode cX6_flows 114 = .ok (.aload_n 0, 1) := by decide +kernel
theorem dX6_flows_115 : decode cX6_flows 115 = .ok (.iload_n 3, 1) := by decide +kernel
theorem dX6_flows_116 : decode cX6_flows 116 = .ok (.invokevirtual 127, 3) := by decide +kernel
theorem dX6_flows_119 : decode cX6_flows 119 = .ok (.isub, 1) := by decide +kernel
theorem dX6_flows_120 : decode cX6_flows 120 = .ok (.goto 19, 3) := by decide +kernel
theorem dX6_flows_123 : decode cX6_flows 123 = .ok (.aload_n 2, 1) := by decide +kernel
theorem dX6_flows_124 : decode cX6_flows 124 = .ok (.iload_n 3, 1) := by decide +kernel
theorem dX6_flows_125 : decode cX6_flows 125 = .ok (.iaload, 1) := by decide +kernel
theorem dX6_flows_126 : decode cX6_flows 126 = .ok (.aload_n 0, 1) := by decide +kernel
theorem dX6_flows_127 : decode cX6_flows 127 = .ok (.iload_n 3, 1) := by decide +kernel
theorem dX6_flows_128 : decode cX6_flows 128 = .ok (.invokevirtual 127, 3) := by decide +kernel
theorem dX6_flows_131 : decode cX6_flows 131 = .ok (.aload_n 1, 1) := by decide +kernel
theorem dX6_flows_132 : decode cX6_flows 132 = .ok (.iload_n 3, 1) := by decide +kernel
theorem dX6_flows_133 : decode cX6_flows 133 = .ok (.iaload, 1) := by decide +kernel
theorem dX6_flows_134 : decode cX6_flows 134 = .ok (.isub, 1) := by decide +kernel
theorem dX6_flows_135 : decode cX6_flows 135 = .ok (.invokestatic 144, 3) := by decide +kernel
theorem dX6_flows_138 : decode cX6_flows 138 = .ok (.ineg, 1) := by decide +kernel
theorem dX6_flows_139 : decode cX6_flows 139 = .ok (.istore 4, 2) := by decide +kernel
theorem dX6_flows_141 : decode cX6_flows 141 = .ok (.aload_n 1, 1) := by decide +kernel
theorem dX6_flows_142 : decode cX6_flows 142 = .ok (.iload_n 3, 1) := by decide +kernel
theorem dX6_flows_143 : decode cX6_flows 143 = .ok (.dup2, 1) := by decide +kernel
theorem dX6_flows_144 : decode cX6_flows 144 = .ok (.iaload, 1) := by decide +kernel
theorem dX6_flows_145 : decode cX6_flows 145 = .ok (.iload 4, 2) := by decide +kernel
theorem dX6_flows_147 : decode cX6_flows 147 = .ok (.isub, 1) := by decide +kernel
theorem dX6_flows_148 : decode cX6_flows 148 = .ok (.iastore, 1) := by decide +kernel
theorem dX6_flows_149 : decode cX6_flows 149 = .ok (.aload_n 2, 1) := by decide +kernel
theorem dX6_flows_150 : decode cX6_flows 150 = .ok (.iload_n 3, 1) := by decide +kernel
theorem dX6_flows_151 : decode cX6_flows 151 = .ok (.dup2, 1) := by decide +kernel
theorem dX6_flows_152 : decode cX6_flows 152 = .ok (.iaload, 1) := by decide +kernel
theorem dX6_flows_153 : decode cX6_flows 153 = .ok (.iload 4, 2) := by decide +kernel
theorem dX6_flows_155 : decode cX6_flows 155 = .ok (.iadd, 1) := by decide +kernel
theorem dX6_flows_156 : decode cX6_flows 156 = .ok (.iastore, 1) := by decide +kernel
theorem dX6_flows_157 : decode cX6_flows 157 = .ok (.iinc 3 1, 3) := by decide +kernel
theorem dX6_flows_160 : decode cX6_flows 160 = .ok (.goto (-68), 3) := by decide +kernel
theorem dX6_flows_163 : decode cX6_flows 163 = .ok (.aload_n 0, 1) := by decide +kernel
theorem dX6_flows_164 : decode cX6_flows 164 = .ok (.getfield 46, 3) := by decide +kernel
theorem dX6_flows_167 : decode cX6_flows 167 = .ok (.iconst 0, 1) := by decide +kernel
theorem dX6_flows_168 : decode cX6_flows 168 = .ok (.iaload, 1) := by decide +kernel
theorem dX6_flows_169 : decode cX6_flows 169 = .ok (.ireturn, 1) := by decide +kernel
theorem dX6_pass_0 : decode cX6_pass 0 = .ok (.aload_n 0, 1) := by decide +kernel
theorem dX6_pass_1 : decode cX6_pass 1 = .ok (.iload_n 1, 1) := by decide +kernel
theorem dX6_pass_2 : decode cX6_pass 2 = .ok (.iconst 1, 1) := by decide +kernel
theorem dX6_pass_3 : decode cX6_pass 3 = .ok (.bipush 24, 2) := by decide +kernel
theorem dX6_pass_5 : decode cX6_pass 5 = .ok (.invokestatic 103, 3) := by decide +kernel
theorem dX6_pass_8 : decode cX6_pass 8 = .ok (.ifCond .ne 7, 3) := by decide +kernel
theorem dX6_pass_11 : decode cX6_pass 11 = .ok (.iconst 1, 1) := by decide +kernel
theorem dX6_pass_12 : decode cX6_pass 12 = .ok (.goto 26, 3) := by decide +kernel
theorem dX6_pass_15 : decode cX6_pass 15 = .ok (.aload_n 0, 1) := by decide +kernel
theorem dX6_pass_16 : decode cX6_pass 16 = .ok (.getfield 100, 3) := by decide +kernel
theorem dX6_pass_19 : decode cX6_pass 19 = .ok (.ifCond .eq 14, 3) := by decide +kernel
theorem dX6_pass_22 : decode cX6_pass 22 = .ok (.aload_n 0, 1) := by decide +kernel
theorem dX6_pass_23 : decode cX6_pass 23 = .ok (.getfield 120, 3) := by decide +kernel
theorem dX6_pass_26 : decode cX6_pass 26 = .ok (.iload_n 1, 1) := by decide +kernel
theorem dX6_pass_27 : decode cX6_pass 27 = .ok (.iadd, 1) := by decide +kernel
theorem dX6_pass_28 : decode cX6_pass 28 = .ok (.bipush 60, 2) := by decide +kernel
theorem dX6_pass_30 : decode cX6_pass 30 = .ok (.if_icmp .le 7, 3) := by decide +kernel
theorem dX6_pass_33 : decode cX6_pass 33 = .ok (.iconst 2, 1) := by decide +kernel
theorem dX6_pass_34 : decode cX6_pass 34 = .ok (.goto 4, 3) := by decide +kernel
theorem dX6_pass_37 : decode cX6_pass 37 = .ok (.iconst 0, 1) := by decide +kernel
theorem dX6_pass_38 : decode cX6_pass 38 = .ok (.invokevirtual 114, 3) := by decide +kernel
theorem dX6_pass_41 : decode cX6_pass 41 = .ok (.ifCond .eq 5, 3) := by decide +kernel
theorem dX6_pass_44 : decode cX6_pass 44 = .ok (.iconst 0, 1) := by decide +kernel
theorem dX6_pass_45 : decode cX6_pass 45 = .ok (.ireturn, 1) := by decide +kernel
theorem dX6_pass_46 : decode cX6_pass 46 = .ok (.iconst 0, 1) := by decide +kernel
theorem dX6_pass_47 : decode cX6_pass 47 = .ok (.istore_n 2, 1) := by decide +kernel
theorem dX6_pass_48 : decode cX6_pass 48 = .ok (.iload_n 2, 1) := by decide +kernel
theorem dX6_pass_49 : decode cX6_pass 49 = .ok (.iload_n 1, 1) := by decide +kernel
theorem dX6_pass_50 : decode cX6_pass 50 = .ok (.if_icmp .ge 142, 3) := by decide +kernel
theorem dX6_pass_53 : decode cX6_pass 53 = .ok (.iconst 0, 1) := by decide +kernel
theorem dX6_pass_54 : decode cX6_pass 54 = .ok (.istore_n 3, 1) := by decide +kernel
theorem dX6_pass_55 : decode cX6_pass 55 = .ok (.iload_n 3, 1) := by decide +kernel
theorem dX6_pass_56 : decode cX6_pass 56 = .ok (.aload_n 0, 1) := by decide +kernel
theorem dX6_pass_57 : decode cX6_pass 57 = .ok (.getfield 100, 3) := by decide +kernel
theorem dX6_pass_60 : decode cX6_pass 60 = .ok (.if_icmp .ge 59, 3) := by decide +kernel
theorem dX6_pass_63 : decode cX6_pass 63 = .ok (.aload_n 0, 1) := by decide +kernel
theorem dX6_pass_64 : decode cX6_pass 64 = .ok (.getfield 34, 3) := by decide +kernel
theorem dX6_pass_67 : decode cX6_pass 67 = .ok (.iload_n 3, 1) := by decide +kernel
theorem dX6_pass_68 : decode cX6_pass 68 = .ok (.dup2, 1) := by decide +kernel
theorem dX6_pass_69 : decode cX6_pass 69 = .ok (.iaload, 1) := by decide +kernel
theorem dX6_pass_70 : decode cX6_pass 70 = .ok (.aload_n 0, 1) := by decide +kernel
theorem dX6_pass_71 : decode cX6_pass 71 = .ok (.getfield 25, 3) := by decide +kernel
theorem dX6_pass_74 : decode cX6_pass 74 = .ok (.iload_n 3, 1) := by decide +kernel
theorem dX6_pass_75 : decode cX6_pass 75 = .ok (.iaload, 1) := by decide +kernel
theorem dX6_pass_76 : decode cX6_pass 76 = .ok (.iadd, 1) := by decide +kernel
theorem dX6_pass_77 : decode cX6_pass 77 = .ok (.iastore, 1) := by decide +kernel
theorem dX6_pass_78 : decode cX6_pass 78 = .ok (.aload_n 0, 1) := by decide +kernel
theorem dX6_pass_79 : decode cX6_pass 79 = .ok (.dup, 1) := by decide +kernel
theorem dX6_pass_80 : decode cX6_pass 80 = .ok (.getfield 148, 3) := by decide +kernel
theorem dX6_pass_83 : decode cX6_pass 83 = .ok (.aload_n 0, 1) := by decide +kernel
theorem dX6_pass_84 : decode cX6_pass 84 = .ok (.getfield 25, 3) := by decide +kernel
theorem dX6_pass_87 : decode cX6_pass 87 = .ok (.iload_n 3, 1) := by decide +kernel
theorem dX6_pass_88 : decode cX6_pass 88 = .ok (.iaload, 1) := by decide +kernel
theorem dX6_pass_89 : decode cX6_pass 89 = .ok (.iadd, 1) := by decide +kernel
theorem dX6_pass_90 : decode cX6_pass 90 = .ok (.putfield 148, 3) := by decide +kernel
theorem dX6_pass_93 : decode cX6_pass 93 = .ok (.aload_n 0, 1) := by decide +kernel
theorem dX6_pass_94 : decode cX6_pass 94 = .ok (.getfield 65, 3) := by decide +kernel
theorem dX6_pass_97 : decode cX6_pass 97 = .ok (.bipush 6, 2) := by decide +kernel
theorem dX6_pass_99 : decode cX6_pass 99 = .ok (.aload_n 0, 1) := by decide +kernel
theorem dX6_pass_100 : decode cX6_pass 100 = .ok (.getfield 120, 3) := by decide +kernel
theorem dX6_pass_103 : decode cX6_pass 103 = .ok (.imul, 1) := by decide +kernel
theorem dX6_pass_104 : decode cX6_pass 104 = .ok (.iload_n 3, 1) := by decide +kernel
theorem dX6_pass_105 : decode cX6_pass 105 = .ok (.iadd, 1) := by decide +kernel
theorem dX6_pass_106 : decode cX6_pass 106 = .ok (.aload_n 0, 1) := by decide +kernel
theorem dX6_pass_107 : decode cX6_pass 107 = .ok (.getfield 25, 3) := by decide +kernel
theorem dX6_pass_110 : decode cX6_pass 110 = .ok (.iload_n 3, 1) := by decide +kernel
theorem dX6_pass_111 : decode cX6_pass 111 = .ok (.iaload, 1) := by decide +kernel
theorem dX6_pass_112 : decode cX6_pass 112 = .ok (.iastore, 1) := by decide +kernel
theorem dX6_pass_113 : decode cX6_pass 113 = .ok (.iinc 3 1, 3) := by decide +kernel
theorem dX6_pass_116 : decode cX6_pass 116 = .ok (.goto (-61), 3) := by decide +kernel
theorem dX6_pass_119 : decode cX6_pass 119 = .ok (.aload_n 0, 1) := by decide +kernel
theorem dX6_pass_120 : decode cX6_pass 120 = .ok (.dup, 1) := by decide +kernel
theorem dX6_pass_121 : decode cX6_pass 121 = .ok (.getfield 151, 3) := by decide +kernel
theorem dX6_pass_124 : decode cX6_pass 124 = .ok (.aload_n 0, 1) := by decide +kernel
theorem dX6_pass_125 : decode cX6_pass 125 = .ok (.aload_n 0, 1) := by decide +kernel
theorem dX6_pass_126 : decode cX6_pass 126 = .ok (.getfield 34, 3) := by decide +kernel
theorem dX6_pass_129 : decode cX6_pass 129 = .ok (.aload_n 0, 1) := by decide +kernel
theorem dX6_pass_130 : decode cX6_pass 130 = .ok (.getfield 37, 3) := by decide +kernel
theorem dX6_pass_133 : decode cX6_pass 133 = .ok (.invokevirtual 154, 3) := by decide +kernel
theorem dX6_pass_136 : decode cX6_pass 136 = .ok (.iadd, 1) := by decide +kernel
theorem dX6_pass_137 : decode cX6_pass 137 = .ok (.putfield 151, 3) := by decide +kernel
theorem dX6_pass_140 : decode cX6_pass 140 = .ok (.iconst 0, 1) := by decide +kernel
theorem dX6_pass_141 : decode cX6_pass 141 = .ok (.istore_n 3, 1) := by decide +kernel
theorem dX6_pass_142 : decode cX6_pass 142 = .ok (.iload_n 3, 1) := by decide +kernel
theorem dX6_pass_143 : decode cX6_pass 143 = .ok (.aload_n 0, 1) := by decide +kernel
theorem dX6_pass_144 : decode cX6_pass 144 = .ok (.getfield 100, 3) := by decide +kernel
theorem dX6_pass_147 : decode cX6_pass 147 = .ok (.if_icmp .ge 29, 3) := by decide +kernel
theorem dX6_pass_150 : decode cX6_pass 150 = .ok (.aload_n 0, 1) := by decide +kernel
theorem dX6_pass_151 : decode cX6_pass 151 = .ok (.getfield 68, 3) := by decide +kernel
theorem dX6_pass_154 : decode cX6_pass 154 = .ok (.bipush 6, 2) := by decide +kernel
theorem dX6_pass_156 : decode cX6_pass 156 = .ok (.aload_n 0, 1) := by decide +kernel
theorem dX6_pass_157 : decode cX6_pass 157 = .ok (.getfield 120, 3) := by decide +kernel
theorem dX6_pass_160 : decode cX6_pass 160 = .ok (.imul, 1) := by decide +kernel
theorem dX6_pass_161 : decode cX6_pass 161 = .ok (.iload_n 3, 1) := by decide +kernel
theorem dX6_pass_162 : decode cX6_pass 162 = .ok (.iadd, 1) := by decide +kernel
theorem dX6_pass_163 : decode cX6_pass 163 = .ok (.aload_n 0, 1) := by decide +kernel
theorem dX6_pass_164 : decode cX6_pass 164 = .ok (.getfield 37, 3) := by decide +kernel
theorem dX6_pass_167 : decode cX6_pass 167 = .ok (.iload_n 3, 1) := by decide +kernel
theorem dX6_pass_168 : decode cX6_pass 168 = .ok (.iaload, 1) := by decide +kernel
theorem dX6_pass_169 : decode cX6_pass 169 = .ok (.iastore, 1) := by decide +kernel
theorem dX6_pass_170 : decode cX6_pass 170 = .ok (.iinc 3 1, 3) := by decide +kernel
theorem dX6_pass_173 : decode cX6_pass 173 = .ok (.goto (-31), 3) := by decide +kernel
theorem dX6_pass_176 : decode cX6_pass 176 = .ok (.aload_n 0, 1) := by decide +kernel
theorem dX6_pass_177 : decode cX6_pass 177 = .ok (.dup, 1) := by decide +kernel
theorem dX6_pass_178 : decode cX6_pass 178 = .ok (.getfield 120, 3) := by decide +kernel
theorem dX6_pass_181 : decode cX6_pass 181 = .ok (.iconst 1, 1) := by decide +kernel
theorem dX6_pass_182 : decode cX6_pass 182 = .ok (.iadd, 1) := by decide +kernel
theorem dX6_pass_183 : decode cX6_pass 183 = .ok (.putfield 120, 3) := by decide +kernel
theorem dX6_pass_186 : decode cX6_pass 186 = .ok (.iinc 2 1, 3) := by decide +kernel
theorem dX6_pass_189 : decode cX6_pass 189 = .ok (.goto (-141), 3) := by decide +kernel
theorem dX6_pass_192 : decode cX6_pass 192 = .ok (.aload_n 0, 1) := by decide +kernel
theorem dX6_pass_193 : decode cX6_pass 193 = .ok (.getfield 120, 3) := by decide +kernel
theorem dX6_pass_196 : decode cX6_pass 196 = .ok (.ireturn, 1) := by decide +kernel
theorem dX6_clock_0 : decode cX6_clock 0 = .ok (.aload_n 0, 1) := by decide +kernel
theorem dX6_clock_1 : decode cX6_clock 1 = .ok (.aload_n 0, 1) := by decide +kernel
theorem dX6_clock_2 : decode cX6_clock 2 = .ok (.getfield 120, 3) := by decide +kernel
theorem dX6_clock_5 : decode cX6_clock 5 = .ok (.invokevirtual 123, 3) := by decide +kernel
theorem dX6_clock_8 : decode cX6_clock 8 = .ok (.ireturn, 1) := by decide +kernel
theorem dX6_volumeOf_0 : decode cX6_volumeOf 0 = .ok (.aload_n 0, 1) := by decide +kernel
theorem dX6_volumeOf_1 : decode cX6_volumeOf 1 = .ok (.aload_n 0, 1) := by decide +kernel
theorem dX6_volumeOf_2 : decode cX6_volumeOf 2 = .ok (.iload_n 1, 1) := by decide +kernel
theorem dX6_volumeOf_3 : decode cX6_volumeOf 3 = .ok (.invokevirtual 107, 3) := by decide +kernel
theorem dX6_volumeOf_6 : decode cX6_volumeOf 6 = .ok (.ifCond .eq 7, 3) := by decide +kernel
theorem dX6_volumeOf_9 : decode cX6_volumeOf 9 = .ok (.iconst 1, 1) := by decide +kernel
theorem dX6_volumeOf_10 : decode cX6_volumeOf 10 = .ok (.goto 4, 3) := by decide +kernel
theorem dX6_volumeOf_13 : decode cX6_volumeOf 13 = .ok (.iconst 0, 1) := by decide +kernel
theorem dX6_volumeOf_14 : decode cX6_volumeOf 14 = .ok (.invokevirtual 114, 3) := by decide +kernel
theorem dX6_volumeOf_17 : decode cX6_volumeOf 17 = .ok (.ifCond .eq 7, 3) := by decide +kernel
theorem dX6_volumeOf_20 : decode cX6_volumeOf 20 = .ok (.iconst 0, 1) := by decide +kernel
theorem dX6_volumeOf_21 : decode cX6_volumeOf 21 = .ok (.goto 9, 3) := by decide +kernel
theorem dX6_volumeOf_24 : decode cX6_volumeOf 24 = .ok (.aload_n 0, 1) := by decide +kernel
theorem dX6_volumeOf_25 : decode cX6_volumeOf 25 = .ok (.getfield 34, 3) := by decide +kernel
theorem dX6_volumeOf_28 : decode cX6_volumeOf 28 = .ok (.iload_n 1, 1) := by decide +kernel
theorem dX6_volumeOf_29 : decode cX6_volumeOf 29 = .ok (.iaload, 1) := by decide +kernel
theorem dX6_volumeOf_30 : decode cX6_volumeOf 30 = .ok (.ireturn, 1) := by decide +kernel
theorem dX6_levelOf_0 : decode cX6_levelOf 0 = .ok (.aload_n 0, 1) := by decide +kernel
theorem dX6_levelOf_1 : decode cX6_levelOf 1 = .ok (.aload_n 0, 1) := by decide +kernel
theorem dX6_levelOf_2 : decode cX6_levelOf 2 = .ok (.iload_n 1, 1) := by decide +kernel
theorem dX6_levelOf_3 : decode cX6_levelOf 3 = .ok (.invokevirtual 107, 3) := by decide +kernel
theorem dX6_levelOf_6 : decode cX6_levelOf 6 = .ok (.ifCond .eq 7, 3) := by decide +kernel
theorem dX6_levelOf_9 : decode cX6_levelOf 9 = .ok (.iconst 1, 1) := by decide +kernel
theorem dX6_levelOf_10 : decode cX6_levelOf 10 = .ok (.goto 4, 3) := by decide +kernel
theorem dX6_levelOf_13 : decode cX6_levelOf 13 = .ok (.iconst 0, 1) := by decide +kernel
theorem dX6_levelOf_14 : decode cX6_levelOf 14 = .ok (.invokevirtual 114, 3) := by decide +kernel
theorem dX6_levelOf_17 : decode cX6_levelOf 17 = .ok (.ifCond .eq 7, 3) := by decide +kernel
theorem dX6_levelOf_20 : decode cX6_levelOf 20 = .ok (.iconst 0, 1) := by decide +kernel
theorem dX6_levelOf_21 : decode cX6_levelOf 21 = .ok (.goto 16, 3) := by decide +kernel
theorem dX6_levelOf_24 : decode cX6_levelOf 24 = .ok (.aload_n 0, 1) := by decide +kernel
theorem dX6_levelOf_25 : decode cX6_levelOf 25 = .ok (.getfield 34, 3) := by decide +kernel
theorem dX6_levelOf_28 : decode cX6_levelOf 28 = .ok (.iload_n 1, 1) := by decide +kernel
theorem dX6_levelOf_29 : decode cX6_levelOf 29 = .ok (.iaload, 1) := by decide +kernel
theorem dX6_levelOf_30 : decode cX6_levelOf 30 = .ok (.aload_n 0, 1) := by decide +kernel
theorem dX6_levelOf_31 : decode cX6_levelOf 31 = .ok (.getfield 7, 3) := by decide +kernel
theorem dX6_levelOf_34 : decode cX6_levelOf 34 = .ok (.iload_n 1, 1) := by decide +kernel
theorem dX6_levelOf_35 : decode cX6_levelOf 35 = .ok (.iaload, 1) := by decide +kernel
theorem dX6_levelOf_36 : decode cX6_levelOf 36 = .ok (.idiv, 1) := by decide +kernel
theorem dX6_levelOf_37 : decode cX6_levelOf 37 = .ok (.ireturn, 1) := by decide +kernel
theorem dX6_streetVolume_0 : decode cX6_streetVolume 0 = .ok (.aload_n 0, 1) := by decide +kernel
theorem dX6_streetVolume_1 : decode cX6_streetVolume 1 = .ok (.aload_n 0, 1) := by decide +kernel
theorem dX6_streetVolume_2 : decode cX6_streetVolume 2 = .ok (.iload_n 1, 1) := by decide +kernel
theorem dX6_streetVolume_3 : decode cX6_streetVolume 3 = .ok (.invokevirtual 107, 3) := by decide +kernel
theorem dX6_streetVolume_6 : decode cX6_streetVolume 6 = .ok (.ifCond .eq 7, 3) := by decide +kernel
theorem dX6_streetVolume_9 : decode cX6_streetVolume 9 = .ok (.iconst 1, 1) := by decide +kernel
theorem dX6_streetVolume_10 : decode cX6_streetVolume 10 = .ok (.goto 4, 3) := by decide +kernel
theorem dX6_streetVolume_13 : decode cX6_streetVolume 13 = .ok (.iconst 0, 1) := by decide +kernel
theorem dX6_streetVolume_14 : decode cX6_streetVolume 14 = .ok (.invokevirtual 114, 3) := by decide +kernel
theorem dX6_streetVolume_17 : decode cX6_streetVolume 17 = .ok (.ifCond .eq 7, 3) := by decide +kernel
theorem dX6_streetVolume_20 : decode cX6_streetVolume 20 = .ok (.iconst 0, 1) := by decide +kernel
theorem dX6_streetVolume_21 : decode cX6_streetVolume 21 = .ok (.goto 9, 3) := by decide +kernel
theorem dX6_streetVolume_24 : decode cX6_streetVolume 24 = .ok (.aload_n 0, 1) := by decide +kernel
theorem dX6_streetVolume_25 : decode cX6_streetVolume 25 = .ok (.getfield 37, 3) := by decide +kernel
theorem dX6_streetVolume_28 : decode cX6_streetVolume 28 = .ok (.iload_n 1, 1) := by decide +kernel
theorem dX6_streetVolume_29 : decode cX6_streetVolume 29 = .ok (.iaload, 1) := by decide +kernel
theorem dX6_streetVolume_30 : decode cX6_streetVolume 30 = .ok (.ireturn, 1) := by decide +kernel
theorem dX6_rainTotal_0 : decode cX6_rainTotal 0 = .ok (.aload_n 0, 1) := by decide +kernel
theorem dX6_rainTotal_1 : decode cX6_rainTotal 1 = .ok (.aload_n 0, 1) := by decide +kernel
theorem dX6_rainTotal_2 : decode cX6_rainTotal 2 = .ok (.getfield 148, 3) := by decide +kernel
theorem dX6_rainTotal_5 : decode cX6_rainTotal 5 = .ok (.invokevirtual 123, 3) := by decide +kernel
theorem dX6_rainTotal_8 : decode cX6_rainTotal 8 = .ok (.ireturn, 1) := by decide +kernel
theorem dX6_riverTotal_0 : decode cX6_riverTotal 0 = .ok (.aload_n 0, 1) := by decide +kernel
theorem dX6_riverTotal_1 : decode cX6_riverTotal 1 = .ok (.aload_n 0, 1) := by decide +kernel
theorem dX6_riverTotal_2 : decode cX6_riverTotal 2 = .ok (.getfield 151, 3) := by decide +kernel
theorem dX6_riverTotal_5 : decode cX6_riverTotal 5 = .ok (.invokevirtual 123, 3) := by decide +kernel
theorem dX6_riverTotal_8 : decode cX6_riverTotal 8 = .ok (.ireturn, 1) := by decide +kernel
theorem dX6_held_0 : decode cX6_held 0 = .ok (.iconst 0, 1) := by decide +kernel
theorem dX6_held_1 : decode cX6_held 1 = .ok (.istore_n 1, 1) := by decide +kernel
theorem dX6_held_2 : decode cX6_held 2 = .ok (.iconst 0, 1) := by decide +kernel
theorem dX6_held_3 : decode cX6_held 3 = .ok (.istore_n 2, 1) := by decide +kernel
theorem dX6_held_4 : decode cX6_held 4 = .ok (.iload_n 2, 1) := by decide +kernel
theorem dX6_held_5 : decode cX6_held 5 = .ok (.aload_n 0, 1) := by decide +kernel
theorem dX6_held_6 : decode cX6_held 6 = .ok (.getfield 100, 3) := by decide +kernel
theorem dX6_held_9 : decode cX6_held 9 = .ok (.if_icmp .ge 25, 3) := by decide +kernel
theorem dX6_held_12 : decode cX6_held 12 = .ok (.iload_n 1, 1) := by decide +kernel
theorem dX6_held_13 : decode cX6_held 13 = .ok (.aload_n 0, 1) := by decide +kernel
theorem dX6_held_14 : decode cX6_held 14 = .ok (.getfield 34, 3) := by decide +kernel
theorem dX6_held_17 : decode cX6_held 17 = .ok (.iload_n 2, 1) := by decide +kernel
theorem dX6_held_18 : decode cX6_held 18 = .ok (.iaload, 1) := by decide +kernel
theorem dX6_held_19 : decode cX6_held 19 = .ok (.aload_n 0, 1) := by decide +kernel
theorem dX6_held_20 : decode cX6_held 20 = .ok (.getfield 37, 3) := by decide +kernel
theorem dX6_held_23 : decode cX6_held 23 = .ok (.iload_n 2, 1) := by decide +kernel
theorem dX6_held_24 : decode cX6_held 24 = .ok (.iaload, 1) := by decide +kernel
theorem dX6_held_25 : decode cX6_held 25 = .ok (.iadd, 1) := by decide +kernel
theorem dX6_held_26 : decode cX6_held 26 = .ok (.iadd, 1) := by decide +kernel
theorem dX6_held_27 : decode cX6_held 27 = .ok (.istore_n 1, 1) := by decide +kernel
theorem dX6_held_28 : decode cX6_held 28 = .ok (.iinc 2 1, 3) := by decide +kernel
theorem dX6_held_31 : decode cX6_held 31 = .ok (.goto (-27), 3) := by decide +kernel
theorem dX6_held_34 : decode cX6_held 34 = .ok (.iload_n 1, 1) := by decide +kernel
theorem dX6_held_35 : decode cX6_held 35 = .ok (.ireturn, 1) := by decide +kernel
theorem dX6_heldTotal_0 : decode cX6_heldTotal 0 = .ok (.aload_n 0, 1) := by decide +kernel
theorem dX6_heldTotal_1 : decode cX6_heldTotal 1 = .ok (.aload_n 0, 1) := by decide +kernel
theorem dX6_heldTotal_2 : decode cX6_heldTotal 2 = .ok (.invokevirtual 158, 3) := by decide +kernel
theorem dX6_heldTotal_5 : decode cX6_heldTotal 5 = .ok (.invokevirtual 123, 3) := by decide +kernel
theorem dX6_heldTotal_8 : decode cX6_heldTotal 8 = .ok (.ireturn, 1) := by decide +kernel
theorem dX6_isBalanced_0 : decode cX6_isBalanced 0 = .ok (.aload_n 0, 1) := by decide +kernel
theorem dX6_isBalanced_1 : decode cX6_isBalanced 1 = .ok (.iconst 0, 1) := by decide +kernel
theorem dX6_isBalanced_2 : decode cX6_isBalanced 2 = .ok (.putfield 97, 3) := by decide +kernel
theorem dX6_isBalanced_5 : decode cX6_isBalanced 5 = .ok (.aload_n 0, 1) := by decide +kernel
theorem dX6_isBalanced_6 : decode cX6_isBalanced 6 = .ok (.getfield 148, 3) := by decide +kernel
theorem dX6_isBalanced_9 : decode cX6_isBalanced 9 = .ok (.aload_n 0, 1) := by decide +kernel
theorem dX6_isBalanced_10 : decode cX6_isBalanced 10 = .ok (.invokevirtual 158, 3) := by decide +kernel
theorem dX6_isBalanced_13 : decode cX6_isBalanced 13 = .ok (.aload_n 0, 1) := by decide +kernel
theorem dX6_isBalanced_14 : decode cX6_isBalanced 14 = .ok (.getfield 151, 3) := by decide +kernel
theorem dX6_isBalanced_17 : decode cX6_isBalanced 17 = .ok (.iadd, 1) := by decide +kernel
theorem dX6_isBalanced_18 : decode cX6_isBalanced 18 = .ok (.if_icmp .ne 7, 3) := by decide +kernel
theorem dX6_isBalanced_21 : decode cX6_isBalanced 21 = .ok (.iconst 1, 1) := by decide +kernel
theorem dX6_isBalanced_22 : decode cX6_isBalanced 22 = .ok (.goto 4, 3) := by decide +kernel
theorem dX6_isBalanced_25 : decode cX6_isBalanced 25 = .ok (.iconst 0, 1) := by decide +kernel
theorem dX6_isBalanced_26 : decode cX6_isBalanced 26 = .ok (.ireturn, 1) := by decide +kernel
theorem dX6_upTo_0 : decode cX6_upTo 0 = .ok (.iconst 0, 1) := by decide +kernel
theorem dX6_upTo_1 : decode cX6_upTo 1 = .ok (.istore_n 3, 1) := by decide +kernel
theorem dX6_upTo_2 : decode cX6_upTo 2 = .ok (.bipush 8, 2) := by decide +kernel
theorem dX6_upTo_4 : decode cX6_upTo 4 = .ok (.iload_n 1, 1) := by decide +kernel
theorem dX6_upTo_5 : decode cX6_upTo 5 = .ok (.imul, 1) := by decide +kernel
theorem dX6_upTo_6 : decode cX6_upTo 6 = .ok (.istore 4, 2) := by decide +kernel
theorem dX6_upTo_8 : decode cX6_upTo 8 = .ok (.iload 4, 2) := by decide +kernel
theorem dX6_upTo_10 : decode cX6_upTo 10 = .ok (.bipush 8, 2) := by decide +kernel
theorem dX6_upTo_12 : decode cX6_upTo 12 = .ok (.iload_n 1, 1) := by decide +kernel
theorem dX6_upTo_13 : decode cX6_upTo 13 = .ok (.imul, 1) := by decide +kernel
theorem dX6_upTo_14 : decode cX6_upTo 14 = .ok (.aload_n 0, 1) := by decide +kernel
theorem dX6_upTo_15 : decode cX6_upTo 15 = .ok (.getfield 28, 3) := by decide +kernel
theorem dX6_upTo_18 : decode cX6_upTo 18 = .ok (.iload_n 1, 1) := by decide +kernel
theorem dX6_upTo_19 : decode cX6_upTo 19 = .ok (.iaload, 1) := by decide +kernel
theorem dX6_upTo_20 : decode cX6_upTo 20 = .ok (.iadd, 1) := by decide +kernel
theorem dX6_upTo_21 : decode cX6_upTo 21 = .ok (.if_icmp .ge 36, 3) := by decide +kernel
theorem dX6_upTo_24 : decode cX6_upTo 24 = .ok (.iload_n 3, 1) := by decide +kernel
theorem dX6_upTo_25 : decode cX6_upTo 25 = .ok (.aload_n 0, 1) := by decide +kernel
theorem dX6_upTo_26 : decode cX6_upTo 26 = .ok (.getfield 31, 3) := by decide +kernel
theorem dX6_upTo_29 : decode cX6_upTo 29 = .ok (.iload 4, 2) := by decide +kernel
theorem dX6_upTo_31 : decode cX6_upTo 31 = .ok (.iaload, 1) := by decide +kernel
theorem dX6_upTo_32 : decode cX6_upTo 32 = .ok (.iload_n 2, 1) := by decide +kernel
theorem dX6_upTo_33 : decode cX6_upTo 33 = .ok (.if_icmp .ge 15, 3) := by decide +kernel
theorem dX6_upTo_36 : decode cX6_upTo 36 = .ok (.iload_n 2, 1) := by decide +kernel
theorem dX6_upTo_37 : decode cX6_upTo 37 = .ok (.aload_n 0, 1) := by decide +kernel
theorem dX6_upTo_38 : decode cX6_upTo 38 = .ok (.getfield 31, 3) := by decide +kernel
theorem dX6_upTo_41 : decode cX6_upTo 41 = .ok (.iload 4, 2) := by decide +kernel
theorem dX6_upTo_43 : decode cX6_upTo 43 = .ok (.iaload, 1) := by decide +kernel
theorem dX6_upTo_44 : decode cX6_upTo 44 = .ok (.isub, 1) := by decide +kernel
theorem dX6_upTo_45 : decode cX6_upTo 45 = .ok (.goto 4, 3) := by decide +kernel
theorem dX6_upTo_48 : decode cX6_upTo 48 = .ok (.iconst 0, 1) := by decide +kernel
theorem dX6_upTo_49 : decode cX6_upTo 49 = .ok (.iadd, 1) := by decide +kernel
theorem dX6_upTo_50 : decode cX6_upTo 50 = .ok (.istore_n 3, 1) := by decide +kernel
theorem dX6_upTo_51 : decode cX6_upTo 51 = .ok (.iinc 4 1, 3) := by decide +kernel
theorem dX6_upTo_54 : decode cX6_upTo 54 = .ok (.goto (-46), 3) := by decide +kernel
theorem dX6_upTo_57 : decode cX6_upTo 57 = .ok (.iload_n 3, 1) := by decide +kernel
theorem dX6_upTo_58 : decode cX6_upTo 58 = .ok (.ireturn, 1) := by decide +kernel
theorem dX6_heightOf_0 : decode cX6_heightOf 0 = .ok (.iconst 0, 1) := by decide +kernel
theorem dX6_heightOf_1 : decode cX6_heightOf 1 = .ok (.istore_n 3, 1) := by decide +kernel
theorem dX6_heightOf_2 : decode cX6_heightOf 2 = .ok (.iload_n 2, 1) := by decide +kernel
theorem dX6_heightOf_3 : decode cX6_heightOf 3 = .ok (.bipush 31, 2) := by decide +kernel
theorem dX6_heightOf_5 : decode cX6_heightOf 5 = .ok (.iadd, 1) := by decide +kernel
theorem dX6_heightOf_6 : decode cX6_heightOf 6 = .ok (.istore 4, 2) := by decide +kernel
theorem dX6_heightOf_8 : decode cX6_heightOf 8 = .ok (.iload 4, 2) := by decide +kernel
theorem dX6_heightOf_10 : decode cX6_heightOf 10 = .ok (.iload_n 3, 1) := by decide +kernel
theorem dX6_heightOf_11 : decode cX6_heightOf 11 = .ok (.isub, 1) := by decide +kernel
theorem dX6_heightOf_12 : decode cX6_heightOf 12 = .ok (.iconst 1, 1) := by decide +kernel
theorem dX6_heightOf_13 : decode cX6_heightOf 13 = .ok (.if_icmp .le 35, 3) := by decide +kernel
theorem dX6_heightOf_16 : decode cX6_heightOf 16 = .ok (.iload_n 3, 1) := by decide +kernel
theorem dX6_heightOf_17 : decode cX6_heightOf 17 = .ok (.iload 4, 2) := by decide +kernel
theorem dX6_heightOf_19 : decode cX6_heightOf 19 = .ok (.iadd, 1) := by decide +kernel
theorem dX6_heightOf_20 : decode cX6_heightOf 20 = .ok (.iconst 2, 1) := by decide +kernel
theorem dX6_heightOf_21 : decode cX6_heightOf 21 = .ok (.idiv, 1) := by decide +kernel
theorem dX6_heightOf_22 : decode cX6_heightOf 22 = .ok (.istore 5, 2) := by decide +kernel
theorem dX6_heightOf_24 : decode cX6_heightOf 24 = .ok (.aload_n 0, 1) := by decide +kernel
theorem dX6_heightOf_25 : decode cX6_heightOf 25 = .ok (.iload_n 1, 1) := by decide +kernel
theorem dX6_heightOf_26 : decode cX6_heightOf 26 = .ok (.iload 5, 2) := by decide +kernel
theorem dX6_heightOf_28 : decode cX6_heightOf 28 = .ok (.invokevirtual 162, 3) := by decide +kernel
theorem dX6_heightOf_31 : decode cX6_heightOf 31 = .ok (.iload_n 2, 1) := by decide +kernel
theorem dX6_heightOf_32 : decode cX6_heightOf 32 = .ok (.if_icmp .gt 9, 3) := by decide +kernel
theorem dX6_heightOf_35 : decode cX6_heightOf 35 = .ok (.iload 5, 2) := by decide +kernel
theorem dX6_heightOf_37 : decode cX6_heightOf 37 = .ok (.istore_n 3, 1) := by decide +kernel
theorem dX6_heightOf_38 : decode cX6_heightOf 38 = .ok (.goto 7, 3) := by decide +kernel
theorem dX6_heightOf_41 : decode cX6_heightOf 41 = .ok (.iload 5, 2) := by decide +kernel
theorem dX6_heightOf_43 : decode cX6_heightOf 43 = .ok (.istore 4, 2) := by decide +kernel
theorem dX6_heightOf_45 : decode cX6_heightOf 45 = .ok (.goto (-37), 3) := by decide +kernel
theorem dX6_heightOf_48 : decode cX6_heightOf 48 = .ok (.iload_n 3, 1) := by decide +kernel
theorem dX6_heightOf_49 : decode cX6_heightOf 49 = .ok (.ireturn, 1) := by decide +kernel
theorem dX6_depth_0 : decode cX6_depth 0 = .ok (.aload_n 0, 1) := by decide +kernel
theorem dX6_depth_1 : decode cX6_depth 1 = .ok (.iload_n 1, 1) := by decide +kernel
theorem dX6_depth_2 : decode cX6_depth 2 = .ok (.iload_n 3, 1) := by decide +kernel
theorem dX6_depth_3 : decode cX6_depth 3 = .ok (.invokevirtual 165, 3) := by decide +kernel
theorem dX6_depth_6 : decode cX6_depth 6 = .ok (.istore 4, 2) := by decide +kernel
theorem dX6_depth_8 : decode cX6_depth 8 = .ok (.iload_n 3, 1) := by decide +kernel
theorem dX6_depth_9 : decode cX6_depth 9 = .ok (.aload_n 0, 1) := by decide +kernel
theorem dX6_depth_10 : decode cX6_depth 10 = .ok (.iload_n 1, 1) := by decide +kernel
theorem dX6_depth_11 : decode cX6_depth 11 = .ok (.iload 4, 2) := by decide +kernel
theorem dX6_depth_13 : decode cX6_depth 13 = .ok (.invokevirtual 162, 3) := by decide +kernel
theorem dX6_depth_16 : decode cX6_depth 16 = .ok (.isub, 1) := by decide +kernel
theorem dX6_depth_17 : decode cX6_depth 17 = .ok (.istore 5, 2) := by decide +kernel
theorem dX6_depth_19 : decode cX6_depth 19 = .ok (.bipush 8, 2) := by decide +kernel
theorem dX6_depth_21 : decode cX6_depth 21 = .ok (.iload_n 1, 1) := by decide +kernel
theorem dX6_depth_22 : decode cX6_depth 22 = .ok (.imul, 1) := by decide +kernel
theorem dX6_depth_23 : decode cX6_depth 23 = .ok (.istore 6, 2) := by decide +kernel
theorem dX6_depth_25 : decode cX6_depth 25 = .ok (.aload_n 0, 1) := by decide +kernel
theorem dX6_depth_26 : decode cX6_depth 26 = .ok (.getfield 31, 3) := by decide +kernel
theorem dX6_depth_29 : decode cX6_depth 29 = .ok (.iload 6, 2) := by decide +kernel
theorem dX6_depth_31 : decode cX6_depth 31 = .ok (.iload_n 2, 1) := by decide +kernel
theorem dX6_depth_32 : decode cX6_depth 32 = .ok (.iadd, 1) := by decide +kernel
theorem dX6_depth_33 : decode cX6_depth 33 = .ok (.iaload, 1) := by decide +kernel
theorem dX6_depth_34 : decode cX6_depth 34 = .ok (.iload 4, 2) := by decide +kernel
theorem dX6_depth_36 : decode cX6_depth 36 = .ok (.if_icmp .le 5, 3) := by decide +kernel
theorem dX6_depth_39 : decode cX6_depth 39 = .ok (.iconst 0, 1) := by decide +kernel
theorem dX6_depth_40 : decode cX6_depth 40 = .ok (.ireturn, 1) := by decide +kernel
theorem dX6_depth_41 : decode cX6_depth 41 = .ok (.iload 6, 2) := by decide +kernel
theorem dX6_depth_43 : decode cX6_depth 43 = .ok (.istore 7, 2) := by decide +kernel
theorem dX6_depth_45 : decode cX6_depth 45 = .ok (.iload 7, 2) := by decide +kernel
theorem dX6_depth_47 : decode cX6_depth 47 = .ok (.iload 6, 2) := by decide +kernel
theorem dX6_depth_49 : decode cX6_depth 49 = .ok (.iload_n 2, 1) := by decide +kernel
theorem dX6_depth_50 : decode cX6_depth 50 = .ok (.iadd, 1) := by decide +kernel
theorem dX6_depth_51 : decode cX6_depth 51 = .ok (.if_icmp .ge 31, 3) := by decide +kernel
theorem dX6_depth_54 : decode cX6_depth 54 = .ok (.iload 5, 2) := by decide +kernel
theorem dX6_depth_56 : decode cX6_depth 56 = .ok (.aload_n 0, 1) := by decide +kernel
theorem dX6_depth_57 : decode cX6_depth 57 = .ok (.getfield 31, 3) := by decide +kernel
theorem dX6_depth_60 : decode cX6_depth 60 = .ok (.iload 7, 2) := by decide +kernel
theorem dX6_depth_62 : decode cX6_depth 62 = .ok (.iaload, 1) := by decide +kernel
theorem dX6_depth_63 : decode cX6_depth 63 = .ok (.iload 4, 2) := by decide +kernel
theorem dX6_depth_65 : decode cX6_depth 65 = .ok (.if_icmp .gt 7, 3) := by decide +kernel
theorem dX6_depth_68 : decode cX6_depth 68 = .ok (.iconst 1, 1) := by decide +kernel
theorem dX6_depth_69 : decode cX6_depth 69 = .ok (.goto 4, 3) := by decide +kernel
theorem dX6_depth_72 : decode cX6_depth 72 = .ok (.iconst 0, 1) := by decide +kernel
theorem dX6_depth_73 : decode cX6_depth 73 = .ok (.isub, 1) := by decide +kernel
theorem dX6_depth_74 : decode cX6_depth 74 = .ok (.istore 5, 2) := by decide +kernel
theorem dX6_depth_76 : decode cX6_depth 76 = .ok (.iinc 7 1, 3) := by decide +kernel
theorem dX6_depth_79 : decode cX6_depth 79 = .ok (.goto (-34), 3) := by decide +kernel
theorem dX6_depth_82 : decode cX6_depth 82 = .ok (.iload 4, 2) := by decide +kernel
theorem dX6_depth_84 : decode cX6_depth 84 = .ok (.aload_n 0, 1) := by decide +kernel
theorem dX6_depth_85 : decode cX6_depth 85 = .ok (.getfield 31, 3) := by decide +kernel
theorem dX6_depth_88 : decode cX6_depth 88 = .ok (.iload 6, 2) := by decide +kernel
theorem dX6_depth_90 : decode cX6_depth 90 = .ok (.iload_n 2, 1) := by decide +kernel
theorem dX6_depth_91 : decode cX6_depth 91 = .ok (.iadd, 1) := by decide +kernel
theorem dX6_depth_92 : decode cX6_depth 92 = .ok (.iaload, 1) := by decide +kernel
theorem dX6_depth_93 : decode cX6_depth 93 = .ok (.isub, 1) := by decide +kernel
theorem dX6_depth_94 : decode cX6_depth 94 = .ok (.iload 5, 2) := by decide +kernel
theorem dX6_depth_96 : decode cX6_depth 96 = .ok (.ifCond .le 7, 3) := by decide +kernel
theorem dX6_depth_99 : decode cX6_depth 99 = .ok (.iconst 1, 1) := by decide +kernel
theorem dX6_depth_100 : decode cX6_depth 100 = .ok (.goto 4, 3) := by decide +kernel
theorem dX6_depth_103 : decode cX6_depth 103 = .ok (.iconst 0, 1) := by decide +kernel
theorem dX6_depth_104 : decode cX6_depth 104 = .ok (.iadd, 1) := by decide +kernel
theorem dX6_depth_105 : decode cX6_depth 105 = .ok (.ireturn, 1) := by decide +kernel
theorem dX6_deep_0 : decode cX6_deep 0 = .ok (.aload_n 0, 1) := by decide +kernel
theorem dX6_deep_1 : decode cX6_deep 1 = .ok (.aload_n 0, 1) := by decide +kernel
theorem dX6_deep_2 : decode cX6_deep 2 = .ok (.iload_n 1, 1) := by decide +kernel
theorem dX6_deep_3 : decode cX6_deep 3 = .ok (.iload_n 2, 1) := by decide +kernel
theorem dX6_deep_4 : decode cX6_deep 4 = .ok (.invokevirtual 168, 3) := by decide +kernel
theorem dX6_deep_7 : decode cX6_deep 7 = .ok (.ifCond .eq 7, 3) := by decide +kernel
theorem dX6_deep_10 : decode cX6_deep 10 = .ok (.iconst 1, 1) := by decide +kernel
theorem dX6_deep_11 : decode cX6_deep 11 = .ok (.goto 4, 3) := by decide +kernel
theorem dX6_deep_14 : decode cX6_deep 14 = .ok (.iconst 0, 1) := by decide +kernel
theorem dX6_deep_15 : decode cX6_deep 15 = .ok (.invokevirtual 114, 3) := by decide +kernel
theorem dX6_deep_18 : decode cX6_deep 18 = .ok (.ifCond .eq 7, 3) := by decide +kernel
theorem dX6_deep_21 : decode cX6_deep 21 = .ok (.iconst 0, 1) := by decide +kernel
theorem dX6_deep_22 : decode cX6_deep 22 = .ok (.goto 15, 3) := by decide +kernel
theorem dX6_deep_25 : decode cX6_deep 25 = .ok (.aload_n 0, 1) := by decide +kernel
theorem dX6_deep_26 : decode cX6_deep 26 = .ok (.iload_n 1, 1) := by decide +kernel
theorem dX6_deep_27 : decode cX6_deep 27 = .ok (.iload_n 2, 1) := by decide +kernel
theorem dX6_deep_28 : decode cX6_deep 28 = .ok (.aload_n 0, 1) := by decide +kernel
theorem dX6_deep_29 : decode cX6_deep 29 = .ok (.getfield 37, 3) := by decide +kernel
theorem dX6_deep_32 : decode cX6_deep 32 = .ok (.iload_n 1, 1) := by decide +kernel
theorem dX6_deep_33 : decode cX6_deep 33 = .ok (.iaload, 1) := by decide +kernel
theorem dX6_deep_34 : decode cX6_deep 34 = .ok (.invokevirtual 172, 3) := by decide +kernel
theorem dX6_deep_37 : decode cX6_deep 37 = .ok (.ireturn, 1) := by decide +kernel
theorem dX6_depthAt_0 : decode cX6_depthAt 0 = .ok (.aload_n 0, 1) := by decide +kernel
theorem dX6_depthAt_1 : decode cX6_depthAt 1 = .ok (.iload_n 1, 1) := by decide +kernel
theorem dX6_depthAt_2 : decode cX6_depthAt 2 = .ok (.iload_n 2, 1) := by decide +kernel
theorem dX6_depthAt_3 : decode cX6_depthAt 3 = .ok (.invokevirtual 176, 3) := by decide +kernel
theorem dX6_depthAt_6 : decode cX6_depthAt 6 = .ok (.ireturn, 1) := by decide +kernel
theorem dX6_depthByPouring_0 : decode cX6_depthByPouring 0 = .ok (.aload_n 0, 1) := by decide +kernel
theorem dX6_depthByPouring_1 : decode cX6_depthByPouring 1 = .ok (.iload_n 1, 1) := by decide +kernel
theorem dX6_depthByPouring_2 : decode cX6_depthByPouring 2 = .ok (.iload_n 2, 1) := by decide +kernel
theorem dX6_depthByPouring_3 : decode cX6_depthByPouring 3 = .ok (.invokevirtual 176, 3) := by decide +kernel
theorem dX6_depthByPouring_6 : decode cX6_depthByPouring 6 = .ok (.ireturn, 1) := by decide +kernel
theorem dX6_then_0 : decode cX6_then 0 = .ok (.aload_n 0, 1) := by decide +kernel
theorem dX6_then_1 : decode cX6_then 1 = .ok (.iload_n 1, 1) := by decide +kernel
theorem dX6_then_2 : decode cX6_then 2 = .ok (.iload_n 2, 1) := by decide +kernel
theorem dX6_then_3 : decode cX6_then 3 = .ok (.aload_n 0, 1) := by decide +kernel
theorem dX6_then_4 : decode cX6_then 4 = .ok (.getfield 68, 3) := by decide +kernel
theorem dX6_then_7 : decode cX6_then 7 = .ok (.bipush 6, 2) := by decide +kernel
theorem dX6_then_9 : decode cX6_then 9 = .ok (.iload_n 3, 1) := by decide +kernel
theorem dX6_then_10 : decode cX6_then 10 = .ok (.iconst 1, 1) := by decide +kernel
theorem dX6_then_11 : decode cX6_then 11 = .ok (.isub, 1) := by decide +kernel
theorem dX6_then_12 : decode cX6_then 12 = .ok (.imul, 1) := by decide +kernel
theorem dX6_then_13 : decode cX6_then 13 = .ok (.iload_n 1, 1) := by decide +kernel
theorem dX6_then_14 : decode cX6_then 14 = .ok (.iadd, 1) := by decide +kernel
theorem dX6_then_15 : decode cX6_then 15 = .ok (.iaload, 1) := by decide +kernel
theorem dX6_then_16 : decode cX6_then 16 = .ok (.invokevirtual 172, 3) := by decide +kernel
theorem dX6_then_19 : decode cX6_then 19 = .ok (.ireturn, 1) := by decide +kernel
theorem dX6_depthThen_0 : decode cX6_depthThen 0 = .ok (.aload_n 0, 1) := by decide +kernel
theorem dX6_depthThen_1 : decode cX6_depthThen 1 = .ok (.aload_n 0, 1) := by decide +kernel
theorem dX6_depthThen_2 : decode cX6_depthThen 2 = .ok (.iload_n 1, 1) := by decide +kernel
theorem dX6_depthThen_3 : decode cX6_depthThen 3 = .ok (.iload_n 2, 1) := by decide +kernel
theorem dX6_depthThen_4 : decode cX6_depthThen 4 = .ok (.invokevirtual 168, 3) := by decide +kernel
theorem dX6_depthThen_7 : decode cX6_depthThen 7 = .ok (.ifCond .eq 7, 3) := by decide +kernel
theorem dX6_depthThen_10 : decode cX6_depthThen 10 = .ok (.iconst 1, 1) := by decide +kernel
theorem dX6_depthThen_11 : decode cX6_depthThen 11 = .ok (.goto 20, 3) := by decide +kernel
theorem dX6_depthThen_14 : decode cX6_depthThen 14 = .ok (.iload_n 3, 1) := by decide +kernel
theorem dX6_depthThen_15 : decode cX6_depthThen 15 = .ok (.iconst 1, 1) := by decide +kernel
theorem dX6_depthThen_16 : decode cX6_depthThen 16 = .ok (.aload_n 0, 1) := by decide +kernel
theorem dX6_depthThen_17 : decode cX6_depthThen 17 = .ok (.getfield 120, 3) := by decide +kernel
theorem dX6_depthThen_20 : decode cX6_depthThen 20 = .ok (.invokestatic 103, 3) := by decide +kernel
theorem dX6_depthThen_23 : decode cX6_depthThen 23 = .ok (.ifCond .eq 7, 3) := by decide +kernel
theorem dX6_depthThen_26 : decode cX6_depthThen 26 = .ok (.iconst 0, 1) := by decide +kernel
theorem dX6_depthThen_27 : decode cX6_depthThen 27 = .ok (.goto 4, 3) := by decide +kernel
theorem dX6_depthThen_30 : decode cX6_depthThen 30 = .ok (.iconst 2, 1) := by decide +kernel
theorem dX6_depthThen_31 : decode cX6_depthThen 31 = .ok (.invokevirtual 114, 3) := by decide +kernel
theorem dX6_depthThen_34 : decode cX6_depthThen 34 = .ok (.ifCond .eq 7, 3) := by decide +kernel
theorem dX6_depthThen_37 : decode cX6_depthThen 37 = .ok (.iconst 0, 1) := by decide +kernel
theorem dX6_depthThen_38 : decode cX6_depthThen 38 = .ok (.goto 10, 3) := by decide +kernel
theorem dX6_depthThen_41 : decode cX6_depthThen 41 = .ok (.aload_n 0, 1) := by decide +kernel
theorem dX6_depthThen_42 : decode cX6_depthThen 42 = .ok (.iload_n 1, 1) := by decide +kernel
theorem dX6_depthThen_43 : decode cX6_depthThen 43 = .ok (.iload_n 2, 1) := by decide +kernel
theorem dX6_depthThen_44 : decode cX6_depthThen 44 = .ok (.iload_n 3, 1) := by decide +kernel
theorem dX6_depthThen_45 : decode cX6_depthThen 45 = .ok (.invokevirtual 179, 3) := by decide +kernel
theorem dX6_depthThen_48 : decode cX6_depthThen 48 = .ok (.ireturn, 1) := by decide +kernel
theorem dX6_wet_0 : decode cX6_wet 0 = .ok (.iconst 0, 1) := by decide +kernel
theorem dX6_wet_1 : decode cX6_wet 1 = .ok (.istore_n 3, 1) := by decide +kernel
theorem dX6_wet_2 : decode cX6_wet 2 = .ok (.iconst 0, 1) := by decide +kernel
theorem dX6_wet_3 : decode cX6_wet 3 = .ok (.istore 4, 2) := by decide +kernel
theorem dX6_wet_5 : decode cX6_wet 5 = .ok (.iload 4, 2) := by decide +kernel
theorem dX6_wet_7 : decode cX6_wet 7 = .ok (.aload_n 0, 1) := by decide +kernel
theorem dX6_wet_8 : decode cX6_wet 8 = .ok (.getfield 28, 3) := by decide +kernel
theorem dX6_wet_11 : decode cX6_wet 11 = .ok (.iload_n 1, 1) := by decide +kernel
theorem dX6_wet_12 : decode cX6_wet 12 = .ok (.iaload, 1) := by decide +kernel
theorem dX6_wet_13 : decode cX6_wet 13 = .ok (.if_icmp .ge 28, 3) := by decide +kernel
theorem dX6_wet_16 : decode cX6_wet 16 = .ok (.iload_n 3, 1) := by decide +kernel
theorem dX6_wet_17 : decode cX6_wet 17 = .ok (.aload_n 0, 1) := by decide +kernel
theorem dX6_wet_18 : decode cX6_wet 18 = .ok (.iload_n 1, 1) := by decide +kernel
theorem dX6_wet_19 : decode cX6_wet 19 = .ok (.iload 4, 2) := by decide +kernel
theorem dX6_wet_21 : decode cX6_wet 21 = .ok (.iload_n 2, 1) := by decide +kernel
theorem dX6_wet_22 : decode cX6_wet 22 = .ok (.invokevirtual 172, 3) := by decide +kernel
theorem dX6_wet_25 : decode cX6_wet 25 = .ok (.ifCond .le 7, 3) := by decide +kernel
theorem dX6_wet_28 : decode cX6_wet 28 = .ok (.iconst 1, 1) := by decide +kernel
theorem dX6_wet_29 : decode cX6_wet 29 = .ok (.goto 4, 3) := by decide +kernel
theorem dX6_wet_32 : decode cX6_wet 32 = .ok (.iconst 0, 1) := by decide +kernel
theorem dX6_wet_33 : decode cX6_wet 33 = .ok (.iadd, 1) := by decide +kernel
theorem dX6_wet_34 : decode cX6_wet 34 = .ok (.istore_n 3, 1) := by decide +kernel
theorem dX6_wet_35 : decode cX6_wet 35 = .ok (.iinc 4 1, 3) := by decide +kernel
theorem dX6_wet_38 : decode cX6_wet 38 = .ok (.goto (-33), 3) := by decide +kernel
theorem dX6_wet_41 : decode cX6_wet 41 = .ok (.iload_n 3, 1) := by decide +kernel
theorem dX6_wet_42 : decode cX6_wet 42 = .ok (.ireturn, 1) := by decide +kernel
theorem dX6_wetCells_0 : decode cX6_wetCells 0 = .ok (.aload_n 0, 1) := by decide +kernel
theorem dX6_wetCells_1 : decode cX6_wetCells 1 = .ok (.aload_n 0, 1) := by decide +kernel
theorem dX6_wetCells_2 : decode cX6_wetCells 2 = .ok (.iload_n 1, 1) := by decide +kernel
theorem dX6_wetCells_3 : decode cX6_wetCells 3 = .ok (.invokevirtual 107, 3) := by decide +kernel
theorem dX6_wetCells_6 : decode cX6_wetCells 6 = .ok (.ifCond .eq 7, 3) := by decide +kernel
theorem dX6_wetCells_9 : decode cX6_wetCells 9 = .ok (.iconst 1, 1) := by decide +kernel
theorem dX6_wetCells_10 : decode cX6_wetCells 10 = .ok (.goto 4, 3) := by decide +kernel
theorem dX6_wetCells_13 : decode cX6_wetCells 13 = .ok (.iconst 0, 1) := by decide +kernel
theorem dX6_wetCells_14 : decode cX6_wetCells 14 = .ok (.invokevirtual 114, 3) := by decide +kernel
theorem dX6_wetCells_17 : decode cX6_wetCells 17 = .ok (.ifCond .eq 7, 3) := by decide +kernel
theorem dX6_wetCells_20 : decode cX6_wetCells 20 = .ok (.iconst 0, 1) := by decide +kernel
theorem dX6_wetCells_21 : decode cX6_wetCells 21 = .ok (.goto 14, 3) := by decide +kernel
theorem dX6_wetCells_24 : decode cX6_wetCells 24 = .ok (.aload_n 0, 1) := by decide +kernel
theorem dX6_wetCells_25 : decode cX6_wetCells 25 = .ok (.iload_n 1, 1) := by decide +kernel
theorem dX6_wetCells_26 : decode cX6_wetCells 26 = .ok (.aload_n 0, 1) := by decide +kernel
theorem dX6_wetCells_27 : decode cX6_wetCells 27 = .ok (.getfield 37, 3) := by decide +kernel
theorem dX6_wetCells_30 : decode cX6_wetCells 30 = .ok (.iload_n 1, 1) := by decide +kernel
theorem dX6_wetCells_31 : decode cX6_wetCells 31 = .ok (.iaload, 1) := by decide +kernel
theorem dX6_wetCells_32 : decode cX6_wetCells 32 = .ok (.invokevirtual 182, 3) := by decide +kernel
theorem dX6_wetCells_35 : decode cX6_wetCells 35 = .ok (.ireturn, 1) := by decide +kernel
theorem dX6_wetHours_0 : decode cX6_wetHours 0 = .ok (.aload_n 0, 1) := by decide +kernel
theorem dX6_wetHours_1 : decode cX6_wetHours 1 = .ok (.aload_n 0, 1) := by decide +kernel
theorem dX6_wetHours_2 : decode cX6_wetHours 2 = .ok (.iload_n 1, 1) := by decide +kernel
theorem dX6_wetHours_3 : decode cX6_wetHours 3 = .ok (.iload_n 2, 1) := by decide +kernel
theorem dX6_wetHours_4 : decode cX6_wetHours 4 = .ok (.invokevirtual 168, 3) := by decide +kernel
theorem dX6_wetHours_7 : decode cX6_wetHours 7 = .ok (.ifCond .eq 7, 3) := by decide +kernel
theorem dX6_wetHours_10 : decode cX6_wetHours 10 = .ok (.iconst 1, 1) := by decide +kernel
theorem dX6_wetHours_11 : decode cX6_wetHours 11 = .ok (.goto 4, 3) := by decide +kernel
theorem dX6_wetHours_14 : decode cX6_wetHours 14 = .ok (.iconst 0, 1) := by decide +kernel
theorem dX6_wetHours_15 : decode cX6_wetHours 15 = .ok (.invokevirtual 114, 3) := by decide +kernel
theorem dX6_wetHours_18 : decode cX6_wetHours 18 = .ok (.ifCond .eq 5, 3) := by decide +kernel
theorem dX6_wetHours_21 : decode cX6_wetHours 21 = .ok (.iconst 0, 1) := by decide +kernel
theorem dX6_wetHours_22 : decode cX6_wetHours 22 = .ok (.ireturn, 1) := by decide +kernel
theorem dX6_wetHours_23 : decode cX6_wetHours 23 = .ok (.iconst 0, 1) := by decide +kernel
theorem dX6_wetHours_24 : decode cX6_wetHours 24 = .ok (.istore_n 3, 1) := by decide +kernel
theorem dX6_wetHours_25 : decode cX6_wetHours 25 = .ok (.iconst 1, 1) := by decide +kernel
theorem dX6_wetHours_26 : decode cX6_wetHours 26 = .ok (.istore 4, 2) := by decide +kernel
theorem dX6_wetHours_28 : decode cX6_wetHours 28 = .ok (.iload 4, 2) := by decide +kernel
theorem dX6_wetHours_30 : decode cX6_wetHours 30 = .ok (.aload_n 0, 1) := by decide +kernel
theorem dX6_wetHours_31 : decode cX6_wetHours 31 = .ok (.getfield 120, 3) := by decide +kernel
theorem dX6_wetHours_34 : decode cX6_wetHours 34 = .ok (.if_icmp .gt 28, 3) := by decide +kernel
theorem dX6_wetHours_37 : decode cX6_wetHours 37 = .ok (.iload_n 3, 1) := by decide +kernel
theorem dX6_wetHours_38 : decode cX6_wetHours 38 = .ok (.aload_n 0, 1) := by decide +kernel
theorem dX6_wetHours_39 : decode cX6_wetHours 39 = .ok (.iload_n 1, 1) := by decide +kernel
theorem dX6_wetHours_40 : decode cX6_wetHours 40 = .ok (.iload_n 2, 1) := by decide +kernel
theorem dX6_wetHours_41 : decode cX6_wetHours 41 = .ok (.iload 4, 2) := by decide +kernel
theorem dX6_wetHours_43 : decode cX6_wetHours 43 = .ok (.invokevirtual 179, 3) := by decide +kernel
theorem dX6_wetHours_46 : decode cX6_wetHours 46 = .ok (.ifCond .le 7, 3) := by decide +kernel
theorem dX6_wetHours_49 : decode cX6_wetHours 49 = .ok (.iconst 1, 1) := by decide +kernel
theorem dX6_wetHours_50 : decode cX6_wetHours 50 = .ok (.goto 4, 3) := by decide +kernel
theorem dX6_wetHours_53 : decode cX6_wetHours 53 = .ok (.iconst 0, 1) := by decide +kernel
theorem dX6_wetHours_54 : decode cX6_wetHours 54 = .ok (.iadd, 1) := by decide +kernel
theorem dX6_wetHours_55 : decode cX6_wetHours 55 = .ok (.istore_n 3, 1) := by decide +kernel
theorem dX6_wetHours_56 : decode cX6_wetHours 56 = .ok (.iinc 4 1, 3) := by decide +kernel
theorem dX6_wetHours_59 : decode cX6_wetHours 59 = .ok (.goto (-31), 3) := by decide +kernel
theorem dX6_wetHours_62 : decode cX6_wetHours 62 = .ok (.iload_n 3, 1) := by decide +kernel
theorem dX6_wetHours_63 : decode cX6_wetHours 63 = .ok (.ireturn, 1) := by decide +kernel
theorem dX6_floodedSoFar_0 : decode cX6_floodedSoFar 0 = .ok (.aload_n 0, 1) := by decide +kernel
theorem dX6_floodedSoFar_1 : decode cX6_floodedSoFar 1 = .ok (.iconst 0, 1) := by decide +kernel
theorem dX6_floodedSoFar_2 : decode cX6_floodedSoFar 2 = .ok (.putfield 97, 3) := by decide +kernel
theorem dX6_floodedSoFar_5 : decode cX6_floodedSoFar 5 = .ok (.iconst 0, 1) := by decide +kernel
theorem dX6_floodedSoFar_6 : decode cX6_floodedSoFar 6 = .ok (.istore_n 1, 1) := by decide +kernel
theorem dX6_floodedSoFar_7 : decode cX6_floodedSoFar 7 = .ok (.iconst 0, 1) := by decide +kernel
theorem dX6_floodedSoFar_8 : decode cX6_floodedSoFar 8 = .ok (.istore_n 2, 1) := by decide +kernel
theorem dX6_floodedSoFar_9 : decode cX6_floodedSoFar 9 = .ok (.iload_n 2, 1) := by decide +kernel
theorem dX6_floodedSoFar_10 : decode cX6_floodedSoFar 10 = .ok (.aload_n 0, 1) := by decide +kernel
theorem dX6_floodedSoFar_11 : decode cX6_floodedSoFar 11 = .ok (.getfield 120, 3) := by decide +kernel
theorem dX6_floodedSoFar_14 : decode cX6_floodedSoFar 14 = .ok (.if_icmp .ge 44, 3) := by decide +kernel
theorem dX6_floodedSoFar_17 : decode cX6_floodedSoFar 17 = .ok (.iconst 0, 1) := by decide +kernel
theorem dX6_floodedSoFar_18 : decode cX6_floodedSoFar 18 = .ok (.istore_n 3, 1) := by decide +kernel
theorem dX6_floodedSoFar_19 : decode cX6_floodedSoFar 19 = .ok (.iload_n 3, 1) := by decide +kernel
theorem dX6_floodedSoFar_20 : decode cX6_floodedSoFar 20 = .ok (.aload_n 0, 1) := by decide +kernel
theorem dX6_floodedSoFar_21 : decode cX6_floodedSoFar 21 = .ok (.getfield 100, 3) := by decide +kernel
theorem dX6_floodedSoFar_24 : decode cX6_floodedSoFar 24 = .ok (.if_icmp .ge 28, 3) := by decide +kernel
theorem dX6_floodedSoFar_27 : decode cX6_floodedSoFar 27 = .ok (.iload_n 1, 1) := by decide +kernel
theorem dX6_floodedSoFar_28 : decode cX6_floodedSoFar 28 = .ok (.aload_n 0, 1) := by decide +kernel
theorem dX6_floodedSoFar_29 : decode cX6_floodedSoFar 29 = .ok (.iload_n 3, 1) := by decide +kernel
theorem dX6_floodedSoFar_30 : decode cX6_floodedSoFar 30 = .ok (.aload_n 0, 1) := by decide +kernel
theorem dX6_floodedSoFar_31 : decode cX6_floodedSoFar 31 = .ok (.getfield 68, 3) := by decide +kernel
theorem dX6_floodedSoFar_34 : decode cX6_floodedSoFar 34 = .ok (.bipush 6, 2) := by decide +kernel
theorem dX6_floodedSoFar_36 : decode cX6_floodedSoFar 36 = .ok (.iload_n 2, 1) := by decide +kernel
theorem dX6_floodedSoFar_37 : decode cX6_floodedSoFar 37 = .ok (.imul, 1) := by decide +kernel
theorem dX6_floodedSoFar_38 : decode cX6_floodedSoFar 38 = .ok (.iload_n 3, 1) := by decide +kernel
theorem dX6_floodedSoFar_39 : decode cX6_floodedSoFar 39 = .ok (.iadd, 1) := by decide +kernel
theorem dX6_floodedSoFar_40 : decode cX6_floodedSoFar 40 = .ok (.iaload, 1) := by decide +kernel
theorem dX6_floodedSoFar_41 : decode cX6_floodedSoFar 41 = .ok (.invokevirtual 182, 3) := by decide +kernel
theorem dX6_floodedSoFar_44 : decode cX6_floodedSoFar 44 = .ok (.iadd, 1) := by decide +kernel
theorem dX6_floodedSoFar_45 : decode cX6_floodedSoFar 45 = .ok (.istore_n 1, 1) := by decide +kernel
theorem dX6_floodedSoFar_46 : decode cX6_floodedSoFar 46 = .ok (.iinc 3 1, 3) := by decide +kernel
theorem dX6_floodedSoFar_49 : decode cX6_floodedSoFar 49 = .ok (.goto (-30), 3) := by decide +kernel
theorem dX6_floodedSoFar_52 : decode cX6_floodedSoFar 52 = .ok (.iinc 2 1, 3) := by decide +kernel
theorem dX6_floodedSoFar_55 : decode cX6_floodedSoFar 55 = .ok (.goto (-46), 3) := by decide +kernel
theorem dX6_floodedSoFar_58 : decode cX6_floodedSoFar 58 = .ok (.iload_n 1, 1) := by decide +kernel
theorem dX6_floodedSoFar_59 : decode cX6_floodedSoFar 59 = .ok (.ireturn, 1) := by decide +kernel
theorem dX6_addHouse_0 : decode cX6_addHouse 0 = .ok (.aload_n 0, 1) := by decide +kernel
theorem dX6_addHouse_1 : decode cX6_addHouse 1 = .ok (.aload_n 0, 1) := by decide +kernel
theorem dX6_addHouse_2 : decode cX6_addHouse 2 = .ok (.iload_n 1, 1) := by decide +kernel
theorem dX6_addHouse_3 : decode cX6_addHouse 3 = .ok (.iload_n 2, 1) := by decide +kernel
theorem dX6_addHouse_4 : decode cX6_addHouse 4 = .ok (.invokevirtual 168, 3) := by decide +kernel
theorem dX6_addHouse_7 : decode cX6_addHouse 7 = .ok (.ifCond .eq 7, 3) := by decide +kernel
theorem dX6_addHouse_10 : decode cX6_addHouse 10 = .ok (.iconst 1, 1) := by decide +kernel
theorem dX6_addHouse_11 : decode cX6_addHouse 11 = .ok (.goto 43, 3) := by decide +kernel
theorem dX6_addHouse_14 : decode cX6_addHouse 14 = .ok (.iload_n 3, 1) := by decide +kernel
theorem dX6_addHouse_15 : decode cX6_addHouse 15 = .ok (.iconst 1, 1) := by decide +kernel
theorem dX6_addHouse_16 : decode cX6_addHouse 16 = .ok (.bipush 100, 2) := by decide +kernel
theorem dX6_addHouse_18 : decode cX6_addHouse 18 = .ok (.invokestatic 103, 3) := by decide +kernel
theorem dX6_addHouse_21 : decode cX6_addHouse 21 = .ok (.ifCond .eq 15, 3) := by decide +kernel
theorem dX6_addHouse_24 : decode cX6_addHouse 24 = .ok (.iload 4, 2) := by decide +kernel
theorem dX6_addHouse_26 : decode cX6_addHouse 26 = .ok (.iconst 0, 1) := by decide +kernel
theorem dX6_addHouse_27 : decode cX6_addHouse 27 = .ok (.sipush 5000, 3) := by decide +kernel
theorem dX6_addHouse_30 : decode cX6_addHouse 30 = .ok (.invokestatic 103, 3) := by decide +kernel
theorem dX6_addHouse_33 : decode cX6_addHouse 33 = .ok (.ifCond .ne 7, 3) := by decide +kernel
theorem dX6_addHouse_36 : decode cX6_addHouse 36 = .ok (.iconst 2, 1) := by decide +kernel
theorem dX6_addHouse_37 : decode cX6_addHouse 37 = .ok (.goto 17, 3) := by decide +kernel
theorem dX6_addHouse_40 : decode cX6_addHouse 40 = .ok (.aload_n 0, 1) := by decide +kernel
theorem dX6_addHouse_41 : decode cX6_addHouse 41 = .ok (.getfield 117, 3) := by decide +kernel
theorem dX6_addHouse_44 : decode cX6_addHouse 44 = .ok (.bipush 10, 2) := by decide +kernel
theorem dX6_addHouse_46 : decode cX6_addHouse 46 = .ok (.if_icmp .ne 7, 3) := by decide +kernel
theorem dX6_addHouse_49 : decode cX6_addHouse 49 = .ok (.iconst 3, 1) := by decide +kernel
theorem dX6_addHouse_50 : decode cX6_addHouse 50 = .ok (.goto 4, 3) := by decide +kernel
theorem dX6_addHouse_53 : decode cX6_addHouse 53 = .ok (.iconst 0, 1) := by decide +kernel
theorem dX6_addHouse_54 : decode cX6_addHouse 54 = .ok (.invokevirtual 114, 3) := by decide +kernel
theorem dX6_addHouse_57 : decode cX6_addHouse 57 = .ok (.ifCond .eq 5, 3) := by decide +kernel
theorem dX6_addHouse_60 : decode cX6_addHouse 60 = .ok (.iconst 0, 1) := by decide +kernel
theorem dX6_addHouse_61 : decode cX6_addHouse 61 = .ok (.ireturn, 1) := by decide +kernel
theorem dX6_addHouse_62 : decode cX6_addHouse 62 = .ok (.aload_n 0, 1) := by decide +kernel
theorem dX6_addHouse_63 : decode cX6_addHouse 63 = .ok (.getfield 71, 3) := by decide +kernel
theorem dX6_addHouse_66 : decode cX6_addHouse 66 = .ok (.aload_n 0, 1) := by decide +kernel
theorem dX6_addHouse_67 : decode cX6_addHouse 67 = .ok (.getfield 117, 3) := by decide +kernel
theorem dX6_addHouse_70 : decode cX6_addHouse 70 = .ok (.iload_n 1, 1) := by decide +kernel
theorem dX6_addHouse_71 : decode cX6_addHouse 71 = .ok (.iastore, 1) := by decide +kernel
theorem dX6_addHouse_72 : decode cX6_addHouse 72 = .ok (.aload_n 0, 1) := by decide +kernel
theorem dX6_addHouse_73 : decode cX6_addHouse 73 = .ok (.getfield 74, 3) := by decide +kernel
theorem dX6_addHouse_76 : decode cX6_addHouse 76 = .ok (.aload_n 0, 1) := by decide +kernel
theorem dX6_addHouse_77 : decode cX6_addHouse 77 = .ok (.getfield 117, 3) := by decide +kernel
theorem dX6_addHouse_80 : decode cX6_addHouse 80 = .ok (.iload_n 2, 1) := by decide +kernel
theorem dX6_addHouse_81 : decode cX6_addHouse 81 = .ok (.iastore, 1) := by decide +kernel
theorem dX6_addHouse_82 : decode cX6_addHouse 82 = .ok (.aload_n 0, 1) := by decide +kernel
theorem dX6_addHouse_83 : decode cX6_addHouse 83 = .ok (.getfield 77, 3) := by decide +kernel
theorem dX6_addHouse_86 : decode cX6_addHouse 86 = .ok (.aload_n 0, 1) := by decide +kernel
theorem dX6_addHouse_87 : decode cX6_addHouse 87 = .ok (.getfield 117, 3) := by decide +kernel
theorem dX6_addHouse_90 : decode cX6_addHouse 90 = .ok (.iload_n 3, 1) := by decide +kernel
theorem dX6_addHouse_91 : decode cX6_addHouse 91 = .ok (.iastore, 1) := by decide +kernel
theorem dX6_addHouse_92 : decode cX6_addHouse 92 = .ok (.aload_n 0, 1) := by decide +kernel
theorem dX6_addHouse_93 : decode cX6_addHouse 93 = .ok (.getfield 80, 3) := by decide +kernel
theorem dX6_addHouse_96 : decode cX6_addHouse 96 = .ok (.aload_n 0, 1) := by decide +kernel
theorem dX6_addHouse_97 : decode cX6_addHouse 97 = .ok (.getfield 117, 3) := by decide +kernel
theorem dX6_addHouse_100 : decode cX6_addHouse 100 = .ok (.iload 4, 2) := by decide +kernel
theorem dX6_addHouse_102 : decode cX6_addHouse 102 = .ok (.iastore, 1) := by decide +kernel
theorem dX6_addHouse_103 : decode cX6_addHouse 103 = .ok (.aload_n 0, 1) := by decide +kernel
theorem dX6_addHouse_104 : decode cX6_addHouse 104 = .ok (.dup, 1) := by decide +kernel
theorem dX6_addHouse_105 : decode cX6_addHouse 105 = .ok (.getfield 117, 3) := by decide +kernel
theorem dX6_addHouse_108 : decode cX6_addHouse 108 = .ok (.iconst 1, 1) := by decide +kernel
theorem dX6_addHouse_109 : decode cX6_addHouse 109 = .ok (.iadd, 1) := by decide +kernel
theorem dX6_addHouse_110 : decode cX6_addHouse 110 = .ok (.putfield 117, 3) := by decide +kernel
theorem dX6_addHouse_113 : decode cX6_addHouse 113 = .ok (.aload_n 0, 1) := by decide +kernel
theorem dX6_addHouse_114 : decode cX6_addHouse 114 = .ok (.getfield 117, 3) := by decide +kernel
theorem dX6_addHouse_117 : decode cX6_addHouse 117 = .ok (.iconst 1, 1) := by decide +kernel
theorem dX6_addHouse_118 : decode cX6_addHouse 118 = .ok (.isub, 1) := by decide +kernel
theorem dX6_addHouse_119 : decode cX6_addHouse 119 = .ok (.ireturn, 1) := by decide +kernel
theorem dX6_houseCount_0 : decode cX6_houseCount 0 = .ok (.aload_n 0, 1) := by decide +kernel
theorem dX6_houseCount_1 : decode cX6_houseCount 1 = .ok (.aload_n 0, 1) := by decide +kernel
theorem dX6_houseCount_2 : decode cX6_houseCount 2 = .ok (.getfield 117, 3) := by decide +kernel
theorem dX6_houseCount_5 : decode cX6_houseCount 5 = .ok (.invokevirtual 123, 3) := by decide +kernel
theorem dX6_houseCount_8 : decode cX6_houseCount 8 = .ok (.ireturn, 1) := by decide +kernel
theorem dX6_isNoHour_0 : decode cX6_isNoHour 0 = .ok (.aload_n 0, 1) := by decide +kernel
theorem dX6_isNoHour_1 : decode cX6_isNoHour 1 = .ok (.aload_n 0, 1) := by decide +kernel
theorem dX6_isNoHour_2 : decode cX6_isNoHour 2 = .ok (.iload_n 1, 1) := by decide +kernel
theorem dX6_isNoHour_3 : decode cX6_isNoHour 3 = .ok (.invokevirtual 185, 3) := by decide +kernel
theorem dX6_isNoHour_6 : decode cX6_isNoHour 6 = .ok (.ifCond .eq 7, 3) := by decide +kernel
theorem dX6_isNoHour_9 : decode cX6_isNoHour 9 = .ok (.iconst 1, 1) := by decide +kernel
theorem dX6_isNoHour_10 : decode cX6_isNoHour 10 = .ok (.goto 20, 3) := by decide +kernel
theorem dX6_isNoHour_13 : decode cX6_isNoHour 13 = .ok (.iload_n 2, 1) := by decide +kernel
theorem dX6_isNoHour_14 : decode cX6_isNoHour 14 = .ok (.iconst 1, 1) := by decide +kernel
theorem dX6_isNoHour_15 : decode cX6_isNoHour 15 = .ok (.aload_n 0, 1) := by decide +kernel
theorem dX6_isNoHour_16 : decode cX6_isNoHour 16 = .ok (.getfield 120, 3) := by decide +kernel
theorem dX6_isNoHour_19 : decode cX6_isNoHour 19 = .ok (.invokestatic 103, 3) := by decide +kernel
theorem dX6_isNoHour_22 : decode cX6_isNoHour 22 = .ok (.ifCond .eq 7, 3) := by decide +kernel
theorem dX6_isNoHour_25 : decode cX6_isNoHour 25 = .ok (.iconst 0, 1) := by decide +kernel
theorem dX6_isNoHour_26 : decode cX6_isNoHour 26 = .ok (.goto 4, 3) := by decide +kernel
theorem dX6_isNoHour_29 : decode cX6_isNoHour 29 = .ok (.iconst 2, 1) := by decide +kernel
theorem dX6_isNoHour_30 : decode cX6_isNoHour 30 = .ok (.invokevirtual 114, 3) := by decide +kernel
theorem dX6_isNoHour_33 : decode cX6_isNoHour 33 = .ok (.ireturn, 1) := by decide +kernel
theorem dX6_worth_0 : decode cX6_worth 0 = .ok (.aload_n 0, 1) := by decide +kernel
theorem dX6_worth_1 : decode cX6_worth 1 = .ok (.getfield 77, 3) := by decide +kernel
theorem dX6_worth_4 : decode cX6_worth 4 = .ok (.iload_n 1, 1) := by decide +kernel
theorem dX6_worth_5 : decode cX6_worth 5 = .ok (.iaload, 1) := by decide +kernel
theorem dX6_worth_6 : decode cX6_worth 6 = .ok (.aload_n 0, 1) := by decide +kernel
theorem dX6_worth_7 : decode cX6_worth 7 = .ok (.aload_n 0, 1) := by decide +kernel
theorem dX6_worth_8 : decode cX6_worth 8 = .ok (.getfield 71, 3) := by decide +kernel
theorem dX6_worth_11 : decode cX6_worth 11 = .ok (.iload_n 1, 1) := by decide +kernel
theorem dX6_worth_12 : decode cX6_worth 12 = .ok (.iaload, 1) := by decide +kernel
theorem dX6_worth_13 : decode cX6_worth 13 = .ok (.aload_n 0, 1) := by decide +kernel
theorem dX6_worth_14 : decode cX6_worth 14 = .ok (.getfield 74, 3) := by decide +kernel
theorem dX6_worth_17 : decode cX6_worth 17 = .ok (.iload_n 1, 1) := by decide +kernel
theorem dX6_worth_18 : decode cX6_worth 18 = .ok (.iaload, 1) := by decide +kernel
theorem dX6_worth_19 : decode cX6_worth 19 = .ok (.iload_n 2, 1) := by decide +kernel
theorem dX6_worth_20 : decode cX6_worth 20 = .ok (.invokevirtual 179, 3) := by decide +kernel
theorem dX6_worth_23 : decode cX6_worth 23 = .ok (.imul, 1) := by decide +kernel
theorem dX6_worth_24 : decode cX6_worth 24 = .ok (.ireturn, 1) := by decide +kernel
theorem dX6_wasWet_0 : decode cX6_wasWet 0 = .ok (.aload_n 0, 1) := by decide +kernel
theorem dX6_wasWet_1 : decode cX6_wasWet 1 = .ok (.iload_n 1, 1) := by decide +kernel
theorem dX6_wasWet_2 : decode cX6_wasWet 2 = .ok (.iload_n 2, 1) := by decide +kernel
theorem dX6_wasWet_3 : decode cX6_wasWet 3 = .ok (.invokevirtual 188, 3) := by decide +kernel
theorem dX6_wasWet_6 : decode cX6_wasWet 6 = .ok (.ifCond .ne 16, 3) := by decide +kernel
theorem dX6_wasWet_9 : decode cX6_wasWet 9 = .ok (.aload_n 0, 1) := by decide +kernel
theorem dX6_wasWet_10 : decode cX6_wasWet 10 = .ok (.iload_n 1, 1) := by decide +kernel
theorem dX6_wasWet_11 : decode cX6_wasWet 11 = .ok (.iload_n 2, 1) := by decide +kernel
theorem dX6_wasWet_12 : decode cX6_wasWet 12 = .ok (.invokevirtual 191, 3) := by decide +kernel
theorem dX6_wasWet_15 : decode cX6_wasWet 15 = .ok (.ifCond .le 7, 3) := by decide +kernel
theorem dX6_wasWet_18 : decode cX6_wasWet 18 = .ok (.iconst 1, 1) := by decide +kernel
theorem dX6_wasWet_19 : decode cX6_wasWet 19 = .ok (.goto 4, 3) := by decide +kernel
theorem dX6_wasWet_22 : decode cX6_wasWet 22 = .ok (.iconst 0, 1) := by decide +kernel
theorem dX6_wasWet_23 : decode cX6_wasWet 23 = .ok (.ireturn, 1) := by decide +kernel
theorem dX6_worthOf_0 : decode cX6_worthOf 0 = .ok (.aload_n 0, 1) := by decide +kernel
theorem dX6_worthOf_1 : decode cX6_worthOf 1 = .ok (.iload_n 1, 1) := by decide +kernel
theorem dX6_worthOf_2 : decode cX6_worthOf 2 = .ok (.iload_n 2, 1) := by decide +kernel
theorem dX6_worthOf_3 : decode cX6_worthOf 3 = .ok (.invokevirtual 188, 3) := by decide +kernel
theorem dX6_worthOf_6 : decode cX6_worthOf 6 = .ok (.ifCond .eq 7, 3) := by decide +kernel
theorem dX6_worthOf_9 : decode cX6_worthOf 9 = .ok (.iconst 0, 1) := by decide +kernel
theorem dX6_worthOf_10 : decode cX6_worthOf 10 = .ok (.goto 9, 3) := by decide +kernel
theorem dX6_worthOf_13 : decode cX6_worthOf 13 = .ok (.aload_n 0, 1) := by decide +kernel
theorem dX6_worthOf_14 : decode cX6_worthOf 14 = .ok (.iload_n 1, 1) := by decide +kernel
theorem dX6_worthOf_15 : decode cX6_worthOf 15 = .ok (.iload_n 2, 1) := by decide +kernel
theorem dX6_worthOf_16 : decode cX6_worthOf 16 = .ok (.invokevirtual 191, 3) := by decide +kernel
theorem dX6_worthOf_19 : decode cX6_worthOf 19 = .ok (.ireturn, 1) := by decide +kernel
theorem dX6_pays_0 : decode cX6_pays 0 = .ok (.aload_n 0, 1) := by decide +kernel
theorem dX6_pays_1 : decode cX6_pays 1 = .ok (.iload_n 1, 1) := by decide +kernel
theorem dX6_pays_2 : decode cX6_pays 2 = .ok (.iload_n 2, 1) := by decide +kernel
theorem dX6_pays_3 : decode cX6_pays 3 = .ok (.invokevirtual 191, 3) := by decide +kernel
theorem dX6_pays_6 : decode cX6_pays 6 = .ok (.aload_n 0, 1) := by decide +kernel
theorem dX6_pays_7 : decode cX6_pays 7 = .ok (.getfield 80, 3) := by decide +kernel
theorem dX6_pays_10 : decode cX6_pays 10 = .ok (.iload_n 1, 1) := by decide +kernel
theorem dX6_pays_11 : decode cX6_pays 11 = .ok (.iaload, 1) := by decide +kernel
theorem dX6_pays_12 : decode cX6_pays 12 = .ok (.aload_n 0, 1) := by decide +kernel
theorem dX6_pays_13 : decode cX6_pays 13 = .ok (.getfield 83, 3) := by decide +kernel
theorem dX6_pays_16 : decode cX6_pays 16 = .ok (.iload_n 1, 1) := by decide +kernel
theorem dX6_pays_17 : decode cX6_pays 17 = .ok (.iaload, 1) := by decide +kernel
theorem dX6_pays_18 : decode cX6_pays 18 = .ok (.isub, 1) := by decide +kernel
theorem dX6_pays_19 : decode cX6_pays 19 = .ok (.invokestatic 144, 3) := by decide +kernel
theorem dX6_pays_22 : decode cX6_pays 22 = .ok (.istore_n 3, 1) := by decide +kernel
theorem dX6_pays_23 : decode cX6_pays 23 = .ok (.aload_n 0, 1) := by decide +kernel
theorem dX6_pays_24 : decode cX6_pays 24 = .ok (.getfield 83, 3) := by decide +kernel
theorem dX6_pays_27 : decode cX6_pays 27 = .ok (.iload_n 1, 1) := by decide +kernel
theorem dX6_pays_28 : decode cX6_pays 28 = .ok (.dup2, 1) := by decide +kernel
theorem dX6_pays_29 : decode cX6_pays 29 = .ok (.iaload, 1) := by decide +kernel
theorem dX6_pays_30 : decode cX6_pays 30 = .ok (.iload_n 3, 1) := by decide +kernel
theorem dX6_pays_31 : decode cX6_pays 31 = .ok (.iadd, 1) := by decide +kernel
theorem dX6_pays_32 : decode cX6_pays 32 = .ok (.iastore, 1) := by decide +kernel
theorem dX6_pays_33 : decode cX6_pays 33 = .ok (.aload_n 0, 1) := by decide +kernel
theorem dX6_pays_34 : decode cX6_pays 34 = .ok (.getfield 86, 3) := by decide +kernel
theorem dX6_pays_37 : decode cX6_pays 37 = .ok (.bipush 60, 2) := by decide +kernel
theorem dX6_pays_39 : decode cX6_pays 39 = .ok (.iload_n 1, 1) := by decide +kernel
theorem dX6_pays_40 : decode cX6_pays 40 = .ok (.imul, 1) := by decide +kernel
theorem dX6_pays_41 : decode cX6_pays 41 = .ok (.iload_n 2, 1) := by decide +kernel
theorem dX6_pays_42 : decode cX6_pays 42 = .ok (.iadd, 1) := by decide +kernel
theorem dX6_pays_43 : decode cX6_pays 43 = .ok (.iconst 1, 1) := by decide +kernel
theorem dX6_pays_44 : decode cX6_pays 44 = .ok (.isub, 1) := by decide +kernel
theorem dX6_pays_45 : decode cX6_pays 45 = .ok (.iconst 1, 1) := by decide +kernel
theorem dX6_pays_46 : decode cX6_pays 46 = .ok (.bastore, 1) := by decide +kernel
theorem dX6_pays_47 : decode cX6_pays 47 = .ok (.aload_n 0, 1) := by decide +kernel
theorem dX6_pays_48 : decode cX6_pays 48 = .ok (.dup, 1) := by decide +kernel
theorem dX6_pays_49 : decode cX6_pays 49 = .ok (.getfield 194, 3) := by decide +kernel
theorem dX6_pays_52 : decode cX6_pays 52 = .ok (.iconst 1, 1) := by decide +kernel
theorem dX6_pays_53 : decode cX6_pays 53 = .ok (.iadd, 1) := by decide +kernel
theorem dX6_pays_54 : decode cX6_pays 54 = .ok (.putfield 194, 3) := by decide +kernel
theorem dX6_pays_57 : decode cX6_pays 57 = .ok (.iload_n 3, 1) := by decide +kernel
theorem dX6_pays_58 : decode cX6_pays 58 = .ok (.ireturn, 1) := by decide +kernel
theorem dX6_claim_0 : decode cX6_claim 0 = .ok (.aload_n 0, 1) := by decide +kernel
theorem dX6_claim_1 : decode cX6_claim 1 = .ok (.iload_n 1, 1) := by decide +kernel
theorem dX6_claim_2 : decode cX6_claim 2 = .ok (.iload_n 2, 1) := by decide +kernel
theorem dX6_claim_3 : decode cX6_claim 3 = .ok (.invokevirtual 188, 3) := by decide +kernel
theorem dX6_claim_6 : decode cX6_claim 6 = .ok (.ifCond .ne 44, 3) := by decide +kernel
theorem dX6_claim_9 : decode cX6_claim 9 = .ok (.aload_n 0, 1) := by decide +kernel
theorem dX6_claim_10 : decode cX6_claim 10 = .ok (.aload_n 0, 1) := by decide +kernel
theorem dX6_claim_11 : decode cX6_claim 11 = .ok (.iload_n 1, 1) := by decide +kernel
theorem dX6_claim_12 : decode cX6_claim 12 = .ok (.iload_n 2, 1) := by decide +kernel
theorem dX6_claim_13 : decode cX6_claim 13 = .ok (.invokevirtual 191, 3) := by decide +kernel
theorem dX6_claim_16 : decode cX6_claim 16 = .ok (.ifCond .ne 7, 3) := by decide +kernel
theorem dX6_claim_19 : decode cX6_claim 19 = .ok (.iconst 3, 1) := by decide +kernel
theorem dX6_claim_20 : decode cX6_claim 20 = .ok (.goto 24, 3) := by decide +kernel
theorem dX6_claim_23 : decode cX6_claim 23 = .ok (.aload_n 0, 1) := by decide +kernel
theorem dX6_claim_24 : decode cX6_claim 24 = .ok (.getfield 86, 3) := by decide +kernel
theorem dX6_claim_27 : decode cX6_claim 27 = .ok (.bipush 60, 2) := by decide +kernel
theorem dX6_claim_29 : decode cX6_claim 29 = .ok (.iload_n 1, 1) := by decide +kernel
theorem dX6_claim_30 : decode cX6_claim 30 = .ok (.imul, 1) := by decide +kernel
theorem dX6_claim_31 : decode cX6_claim 31 = .ok (.iload_n 2, 1) := by decide +kernel
theorem dX6_claim_32 : decode cX6_claim 32 = .ok (.iadd, 1) := by decide +kernel
theorem dX6_claim_33 : decode cX6_claim 33 = .ok (.iconst 1, 1) := by decide +kernel
theorem dX6_claim_34 : decode cX6_claim 34 = .ok (.isub, 1) := by decide +kernel
theorem dX6_claim_35 : decode cX6_claim 35 = .ok (.baload, 1) := by decide +kernel
theorem dX6_claim_36 : decode cX6_claim 36 = .ok (.ifCond .eq 7, 3) := by decide +kernel
theorem dX6_claim_39 : decode cX6_claim 39 = .ok (.iconst 4, 1) := by decide +kernel
theorem dX6_claim_40 : decode cX6_claim 40 = .ok (.goto 4, 3) := by decide +kernel
theorem dX6_claim_43 : decode cX6_claim 43 = .ok (.iconst 0, 1) := by decide +kernel
theorem dX6_claim_44 : decode cX6_claim 44 = .ok (.invokevirtual 114, 3) := by decide +kernel
theorem dX6_claim_47 : decode cX6_claim 47 = .ok (.ifCond .eq 5, 3) := by decide +kernel
theorem dX6_claim_50 : decode cX6_claim 50 = .ok (.iconst 0, 1) := by decide +kernel
theorem dX6_claim_51 : decode cX6_claim 51 = .ok (.ireturn, 1) := by decide +kernel
theorem dX6_claim_52 : decode cX6_claim 52 = .ok (.aload_n 0, 1) := by decide +kernel
theorem dX6_claim_53 : decode cX6_claim 53 = .ok (.iload_n 1, 1) := by decide +kernel
theorem dX6_claim_54 : decode cX6_claim 54 = .ok (.iload_n 2, 1) := by decide +kernel
theorem dX6_claim_55 : decode cX6_claim 55 = .ok (.invokevirtual 197, 3) := by decide +kernel
theorem dX6_claim_58 : decode cX6_claim 58 = .ok (.ireturn, 1) := by decide +kernel
theorem dX6_claimWorst_0 : decode cX6_claimWorst 0 = .ok (.aload_n 0, 1) := by decide +kernel
theorem dX6_claimWorst_1 : decode cX6_claimWorst 1 = .ok (.aload_n 0, 1) := by decide +kernel
theorem dX6_claimWorst_2 : decode cX6_claimWorst 2 = .ok (.iload_n 1, 1) := by decide +kernel
theorem dX6_claimWorst_3 : decode cX6_claimWorst 3 = .ok (.invokevirtual 185, 3) := by decide +kernel
theorem dX6_claimWorst_6 : decode cX6_claimWorst 6 = .ok (.ifCond .eq 7, 3) := by decide +kernel
theorem dX6_claimWorst_9 : decode cX6_claimWorst 9 = .ok (.iconst 1, 1) := by decide +kernel
theorem dX6_claimWorst_10 : decode cX6_claimWorst 10 = .ok (.goto 4, 3) := by decide +kernel
theorem dX6_claimWorst_13 : decode cX6_claimWorst 13 = .ok (.iconst 0, 1) := by decide +kernel
theorem dX6_claimWorst_14 : decode cX6_claimWorst 14 = .ok (.invokevirtual 114, 3) := by decide +kernel
theorem dX6_claimWorst_17 : decode cX6_claimWorst 17 = .ok (.ifCond .eq 5, 3) := by decide +kernel
theorem dX6_claimWorst_20 : decode cX6_claimWorst 20 = .ok (.iconst 0, 1) := by decide +kernel
theorem dX6_claimWorst_21 : decode cX6_claimWorst 21 = .ok (.ireturn, 1) := by decide +kernel
theorem dX6_claimWorst_22 : decode cX6_claimWorst 22 = .ok (.iconst 0, 1) := by decide +kernel
theorem dX6_claimWorst_23 : decode cX6_claimWorst 23 = .ok (.istore_n 2, 1) := by decide +kernel
theorem dX6_claimWorst_24 : decode cX6_claimWorst 24 = .ok (.iconst 0, 1) := by decide +kernel
theorem dX6_claimWorst_25 : decode cX6_claimWorst 25 = .ok (.istore_n 3, 1) := by decide +kernel
theorem dX6_claimWorst_26 : decode cX6_claimWorst 26 = .ok (.iconst 1, 1) := by decide +kernel
theorem dX6_claimWorst_27 : decode cX6_claimWorst 27 = .ok (.istore 4, 2) := by decide +kernel
theorem dX6_claimWorst_29 : decode cX6_claimWorst 29 = .ok (.iload 4, 2) := by decide +kernel
theorem dX6_claimWorst_31 : decode cX6_claimWorst 31 = .ok (.aload_n 0, 1) := by decide +kernel
theorem dX6_claimWorst_32 : decode cX6_claimWorst 32 = .ok (.getfield 120, 3) := by decide +kernel
theorem dX6_claimWorst_35 : decode cX6_claimWorst 35 = .ok (.if_icmp .gt 54, 3) := by decide +kernel
theorem dX6_claimWorst_38 : decode cX6_claimWorst 38 = .ok (.aload_n 0, 1) := by decide +kernel
theorem dX6_claimWorst_39 : decode cX6_claimWorst 39 = .ok (.getfield 86, 3) := by decide +kernel
theorem dX6_claimWorst_42 : decode cX6_claimWorst 42 = .ok (.bipush 60, 2) := by decide +kernel
theorem dX6_claimWorst_44 : decode cX6_claimWorst 44 = .ok (.iload_n 1, 1) := by decide +kernel
theorem dX6_claimWorst_45 : decode cX6_claimWorst 45 = .ok (.imul, 1) := by decide +kernel
theorem dX6_claimWorst_46 : decode cX6_claimWorst 46 = .ok (.iload 4, 2) := by decide +kernel
theorem dX6_claimWorst_48 : decode cX6_claimWorst 48 = .ok (.iadd, 1) := by decide +kernel
theorem dX6_claimWorst_49 : decode cX6_claimWorst 49 = .ok (.iconst 1, 1) := by decide +kernel
theorem dX6_claimWorst_50 : decode cX6_claimWorst 50 = .ok (.isub, 1) := by decide +kernel
theorem dX6_claimWorst_51 : decode cX6_claimWorst 51 = .ok (.baload, 1) := by decide +kernel
theorem dX6_claimWorst_52 : decode cX6_claimWorst 52 = .ok (.ifCond .eq 7, 3) := by decide +kernel
theorem dX6_claimWorst_55 : decode cX6_claimWorst 55 = .ok (.iconst 0, 1) := by decide +kernel
theorem dX6_claimWorst_56 : decode cX6_claimWorst 56 = .ok (.goto 10, 3) := by decide +kernel
theorem dX6_claimWorst_59 : decode cX6_claimWorst 59 = .ok (.aload_n 0, 1) := by decide +kernel
theorem dX6_claimWorst_60 : decode cX6_claimWorst 60 = .ok (.iload_n 1, 1) := by decide +kernel
theorem dX6_claimWorst_61 : decode cX6_claimWorst 61 = .ok (.iload 4, 2) := by decide +kernel
theorem dX6_claimWorst_63 : decode cX6_claimWorst 63 = .ok (.invokevirtual 191, 3) := by decide +kernel
theorem dX6_claimWorst_66 : decode cX6_claimWorst 66 = .ok (.istore 5, 2) := by decide +kernel
theorem dX6_claimWorst_68 : decode cX6_claimWorst 68 = .ok (.iload 5, 2) := by decide +kernel
theorem dX6_claimWorst_70 : decode cX6_claimWorst 70 = .ok (.iload_n 3, 1) := by decide +kernel
theorem dX6_claimWorst_71 : decode cX6_claimWorst 71 = .ok (.if_icmp .gt 6, 3) := by decide +kernel
theorem dX6_claimWorst_74 : decode cX6_claimWorst 74 = .ok (.goto 9, 3) := by decide +kernel
theorem dX6_claimWorst_77 : decode cX6_claimWorst 77 = .ok (.iload 5, 2) := by decide +kernel
theorem dX6_claimWorst_79 : decode cX6_claimWorst 79 = .ok (.istore_n 3, 1) := by decide +kernel
theorem dX6_claimWorst_80 : decode cX6_claimWorst 80 = .ok (.iload 4, 2) := by decide +kernel
theorem dX6_claimWorst_82 : decode cX6_claimWorst 82 = .ok (.istore_n 2, 1) := by decide +kernel
theorem dX6_claimWorst_83 : decode cX6_claimWorst 83 = .ok (.iinc 4 1, 3) := by decide +kernel
theorem dX6_claimWorst_86 : decode cX6_claimWorst 86 = .ok (.goto (-57), 3) := by decide +kernel
theorem dX6_claimWorst_89 : decode cX6_claimWorst 89 = .ok (.aload_n 0, 1) := by decide +kernel
theorem dX6_claimWorst_90 : decode cX6_claimWorst 90 = .ok (.iload_n 2, 1) := by decide +kernel
theorem dX6_claimWorst_91 : decode cX6_claimWorst 91 = .ok (.ifCond .ne 7, 3) := by decide +kernel
theorem dX6_claimWorst_94 : decode cX6_claimWorst 94 = .ok (.iconst 2, 1) := by decide +kernel
theorem dX6_claimWorst_95 : decode cX6_claimWorst 95 = .ok (.goto 4, 3) := by decide +kernel
theorem dX6_claimWorst_98 : decode cX6_claimWorst 98 = .ok (.iconst 0, 1) := by decide +kernel
theorem dX6_claimWorst_99 : decode cX6_claimWorst 99 = .ok (.invokevirtual 114, 3) := by decide +kernel
theorem dX6_claimWorst_102 : decode cX6_claimWorst 102 = .ok (.ifCond .eq 7, 3) := by decide +kernel
theorem dX6_claimWorst_105 : decode cX6_claimWorst 105 = .ok (.iconst 0, 1) := by decide +kernel
theorem dX6_claimWorst_106 : decode cX6_claimWorst 106 = .ok (.goto 9, 3) := by decide +kernel
theorem dX6_claimWorst_109 : decode cX6_claimWorst 109 = .ok (.aload_n 0, 1) := by decide +kernel
theorem dX6_claimWorst_110 : decode cX6_claimWorst 110 = .ok (.iload_n 1, 1) := by decide +kernel
theorem dX6_claimWorst_111 : decode cX6_claimWorst 111 = .ok (.iload_n 2, 1) := by decide +kernel
theorem dX6_claimWorst_112 : decode cX6_claimWorst 112 = .ok (.invokevirtual 197, 3) := by decide +kernel
theorem dX6_claimWorst_115 : decode cX6_claimWorst 115 = .ok (.ireturn, 1) := by decide +kernel
theorem dX6_claimCount_0 : decode cX6_claimCount 0 = .ok (.aload_n 0, 1) := by decide +kernel
theorem dX6_claimCount_1 : decode cX6_claimCount 1 = .ok (.aload_n 0, 1) := by decide +kernel
theorem dX6_claimCount_2 : decode cX6_claimCount 2 = .ok (.iload_n 1, 1) := by decide +kernel
theorem dX6_claimCount_3 : decode cX6_claimCount 3 = .ok (.invokevirtual 185, 3) := by decide +kernel
theorem dX6_claimCount_6 : decode cX6_claimCount 6 = .ok (.ifCond .eq 7, 3) := by decide +kernel
theorem dX6_claimCount_9 : decode cX6_claimCount 9 = .ok (.iconst 1, 1) := by decide +kernel
theorem dX6_claimCount_10 : decode cX6_claimCount 10 = .ok (.goto 4, 3) := by decide +kernel
theorem dX6_claimCount_13 : decode cX6_claimCount 13 = .ok (.iconst 0, 1) := by decide +kernel
theorem dX6_claimCount_14 : decode cX6_claimCount 14 = .ok (.invokevirtual 114, 3) := by decide +kernel
theorem dX6_claimCount_17 : decode cX6_claimCount 17 = .ok (.ifCond .eq 5, 3) := by decide +kernel
theorem dX6_claimCount_20 : decode cX6_claimCount 20 = .ok (.iconst 0, 1) := by decide +kernel
theorem dX6_claimCount_21 : decode cX6_claimCount 21 = .ok (.ireturn, 1) := by decide +kernel
theorem dX6_claimCount_22 : decode cX6_claimCount 22 = .ok (.iconst 0, 1) := by decide +kernel
theorem dX6_claimCount_23 : decode cX6_claimCount 23 = .ok (.istore_n 2, 1) := by decide +kernel
theorem dX6_claimCount_24 : decode cX6_claimCount 24 = .ok (.bipush 60, 2) := by decide +kernel
theorem dX6_claimCount_26 : decode cX6_claimCount 26 = .ok (.iload_n 1, 1) := by decide +kernel
theorem dX6_claimCount_27 : decode cX6_claimCount 27 = .ok (.imul, 1) := by decide +kernel
theorem dX6_claimCount_28 : decode cX6_claimCount 28 = .ok (.istore_n 3, 1) := by decide +kernel
theorem dX6_claimCount_29 : decode cX6_claimCount 29 = .ok (.iload_n 3, 1) := by decide +kernel
theorem dX6_claimCount_30 : decode cX6_claimCount 30 = .ok (.bipush 60, 2) := by decide +kernel
theorem dX6_claimCount_32 : decode cX6_claimCount 32 = .ok (.iload_n 1, 1) := by decide +kernel
theorem dX6_claimCount_33 : decode cX6_claimCount 33 = .ok (.imul, 1) := by decide +kernel
theorem dX6_claimCount_34 : decode cX6_claimCount 34 = .ok (.bipush 60, 2) := by decide +kernel
theorem dX6_claimCount_36 : decode cX6_claimCount 36 = .ok (.iadd, 1) := by decide +kernel
theorem dX6_claimCount_37 : decode cX6_claimCount 37 = .ok (.if_icmp .ge 26, 3) := by decide +kernel
theorem dX6_claimCount_40 : decode cX6_claimCount 40 = .ok (.iload_n 2, 1) := by decide +kernel
theorem dX6_claimCount_41 : decode cX6_claimCount 41 = .ok (.aload_n 0, 1) := by decide +kernel
theorem dX6_claimCount_42 : decode cX6_claimCount 42 = .ok (.getfield 86, 3) := by decide +kernel
theorem dX6_claimCount_45 : decode cX6_claimCount 45 = .ok (.iload_n 3, 1) := by decide +kernel
theorem dX6_claimCount_46 : decode cX6_claimCount 46 = .ok (.baload, 1) := by decide +kernel
theorem dX6_claimCount_47 : decode cX6_claimCount 47 = .ok (.ifCond .eq 7, 3) := by decide +kernel
theorem dX6_claimCount_50 : decode cX6_claimCount 50 = .ok (.iconst 1, 1) := by decide +kernel
theorem dX6_claimCount_51 : decode cX6_claimCount 51 = .ok (.goto 4, 3) := by decide +kernel
theorem dX6_claimCount_54 : decode cX6_claimCount 54 = .ok (.iconst 0, 1) := by decide +kernel
theorem dX6_claimCount_55 : decode cX6_claimCount 55 = .ok (.iadd, 1) := by decide +kernel
theorem dX6_claimCount_56 : decode cX6_claimCount 56 = .ok (.istore_n 2, 1) := by decide +kernel
theorem dX6_claimCount_57 : decode cX6_claimCount 57 = .ok (.iinc 3 1, 3) := by decide +kernel
theorem dX6_claimCount_60 : decode cX6_claimCount 60 = .ok (.goto (-31), 3) := by decide +kernel
theorem dX6_claimCount_63 : decode cX6_claimCount 63 = .ok (.iload_n 2, 1) := by decide +kernel
theorem dX6_claimCount_64 : decode cX6_claimCount 64 = .ok (.ireturn, 1) := by decide +kernel
theorem dX6_paidTo_0 : decode cX6_paidTo 0 = .ok (.aload_n 0, 1) := by decide +kernel
theorem dX6_paidTo_1 : decode cX6_paidTo 1 = .ok (.aload_n 0, 1) := by decide +kernel
theorem dX6_paidTo_2 : decode cX6_paidTo 2 = .ok (.iload_n 1, 1) := by decide +kernel
theorem dX6_paidTo_3 : decode cX6_paidTo 3 = .ok (.invokevirtual 185, 3) := by decide +kernel
theorem dX6_paidTo_6 : decode cX6_paidTo 6 = .ok (.ifCond .eq 7, 3) := by decide +kernel
theorem dX6_paidTo_9 : decode cX6_paidTo 9 = .ok (.iconst 1, 1) := by decide +kernel
theorem dX6_paidTo_10 : decode cX6_paidTo 10 = .ok (.goto 4, 3) := by decide +kernel
theorem dX6_paidTo_13 : decode cX6_paidTo 13 = .ok (.iconst 0, 1) := by decide +kernel
theorem dX6_paidTo_14 : decode cX6_paidTo 14 = .ok (.invokevirtual 114, 3) := by decide +kernel
theorem dX6_paidTo_17 : decode cX6_paidTo 17 = .ok (.ifCond .eq 7, 3) := by decide +kernel
theorem dX6_paidTo_20 : decode cX6_paidTo 20 = .ok (.iconst 0, 1) := by decide +kernel
theorem dX6_paidTo_21 : decode cX6_paidTo 21 = .ok (.goto 9, 3) := by decide +kernel
theorem dX6_paidTo_24 : decode cX6_paidTo 24 = .ok (.aload_n 0, 1) := by decide +kernel
theorem dX6_paidTo_25 : decode cX6_paidTo 25 = .ok (.getfield 83, 3) := by decide +kernel
theorem dX6_paidTo_28 : decode cX6_paidTo 28 = .ok (.iload_n 1, 1) := by decide +kernel
theorem dX6_paidTo_29 : decode cX6_paidTo 29 = .ok (.iaload, 1) := by decide +kernel
theorem dX6_paidTo_30 : decode cX6_paidTo 30 = .ok (.ireturn, 1) := by decide +kernel
theorem dX6_allPaid_0 : decode cX6_allPaid 0 = .ok (.lconst 0, 1) := by decide +kernel
theorem dX6_allPaid_1 : decode cX6_allPaid 1 = .ok (.lstore_n 1, 1) := by decide +kernel
theorem dX6_allPaid_2 : decode cX6_allPaid 2 = .ok (.iconst 0, 1) := by decide +kernel
theorem dX6_allPaid_3 : decode cX6_allPaid 3 = .ok (.istore_n 3, 1) := by decide +kernel
theorem dX6_allPaid_4 : decode cX6_allPaid 4 = .ok (.iload_n 3, 1) := by decide +kernel
theorem dX6_allPaid_5 : decode cX6_allPaid 5 = .ok (.aload_n 0, 1) := by decide +kernel
theorem dX6_allPaid_6 : decode cX6_allPaid 6 = .ok (.getfield 117, 3) := by decide +kernel
theorem dX6_allPaid_9 : decode cX6_allPaid 9 = .ok (.if_icmp .ge 19, 3) := by decide +kernel
theorem dX6_allPaid_12 : decode cX6_allPaid 12 = .ok (.lload_n 1, 1) := by decide +kernel
theorem dX6_allPaid_13 : decode cX6_allPaid 13 = .ok (.aload_n 0, 1) := by decide +kernel
theorem dX6_allPaid_14 : decode cX6_allPaid 14 = .ok (.getfield 83, 3) := by decide +kernel
theorem dX6_allPaid_17 : decode cX6_allPaid 17 = .ok (.iload_n 3, 1) := by decide +kernel
theorem dX6_allPaid_18 : decode cX6_allPaid 18 = .ok (.iaload, 1) := by decide +kernel
theorem dX6_allPaid_19 : decode cX6_allPaid 19 = .ok (.i2l, 1) := by decide +kernel
theorem dX6_allPaid_20 : decode cX6_allPaid 20 = .ok (.ladd, 1) := by decide +kernel
theorem dX6_allPaid_21 : decode cX6_allPaid 21 = .ok (.lstore_n 1, 1) := by decide +kernel
theorem dX6_allPaid_22 : decode cX6_allPaid 22 = .ok (.iinc 3 1, 3) := by decide +kernel
theorem dX6_allPaid_25 : decode cX6_allPaid 25 = .ok (.goto (-21), 3) := by decide +kernel
theorem dX6_allPaid_28 : decode cX6_allPaid 28 = .ok (.lload_n 1, 1) := by decide +kernel
theorem dX6_allPaid_29 : decode cX6_allPaid 29 = .ok (.lreturn, 1) := by decide +kernel
theorem dX6_paidTotal_0 : decode cX6_paidTotal 0 = .ok (.aload_n 0, 1) := by decide +kernel
theorem dX6_paidTotal_1 : decode cX6_paidTotal 1 = .ok (.iconst 0, 1) := by decide +kernel
theorem dX6_paidTotal_2 : decode cX6_paidTotal 2 = .ok (.putfield 97, 3) := by decide +kernel
theorem dX6_paidTotal_5 : decode cX6_paidTotal 5 = .ok (.aload_n 0, 1) := by decide +kernel
theorem dX6_paidTotal_6 : decode cX6_paidTotal 6 = .ok (.invokevirtual 200, 3) := by decide +kernel
theorem dX6_paidTotal_9 : decode cX6_paidTotal 9 = .ok (.lreturn, 1) := by decide +kernel
theorem dX6_meanPayment_0 : decode cX6_meanPayment 0 = .ok (.aload_n 0, 1) := by decide +kernel
theorem dX6_meanPayment_1 : decode cX6_meanPayment 1 = .ok (.aload_n 0, 1) := by decide +kernel
theorem dX6_meanPayment_2 : decode cX6_meanPayment 2 = .ok (.getfield 194, 3) := by decide +kernel
theorem dX6_meanPayment_5 : decode cX6_meanPayment 5 = .ok (.ifCond .ne 7, 3) := by decide +kernel
theorem dX6_meanPayment_8 : decode cX6_meanPayment 8 = .ok (.iconst 1, 1) := by decide +kernel
theorem dX6_meanPayment_9 : decode cX6_meanPayment 9 = .ok (.goto 4, 3) := by decide +kernel
theorem dX6_meanPayment_12 : decode cX6_meanPayment 12 = .ok (.iconst 0, 1) := by decide +kernel
theorem dX6_meanPayment_13 : decode cX6_meanPayment 13 = .ok (.invokevirtual 114, 3) := by decide +kernel
theorem dX6_meanPayment_16 : decode cX6_meanPayment 16 = .ok (.ifCond .eq 7, 3) := by decide +kernel
theorem dX6_meanPayment_19 : decode cX6_meanPayment 19 = .ok (.dconst 0, 1) := by decide +kernel
theorem dX6_meanPayment_20 : decode cX6_meanPayment 20 = .ok (.goto 14, 3) := by decide +kernel
theorem dX6_meanPayment_23 : decode cX6_meanPayment 23 = .ok (.aload_n 0, 1) := by decide +kernel
theorem dX6_meanPayment_24 : decode cX6_meanPayment 24 = .ok (.invokevirtual 200, 3) := by decide +kernel
theorem dX6_meanPayment_27 : decode cX6_meanPayment 27 = .ok (.l2d, 1) := by decide +kernel
theorem dX6_meanPayment_28 : decode cX6_meanPayment 28 = .ok (.aload_n 0, 1) := by decide +kernel
theorem dX6_meanPayment_29 : decode cX6_meanPayment 29 = .ok (.getfield 194, 3) := by decide +kernel
theorem dX6_meanPayment_32 : decode cX6_meanPayment 32 = .ok (.i2d, 1) := by decide +kernel
theorem dX6_meanPayment_33 : decode cX6_meanPayment 33 = .ok (.ddiv, 1) := by decide +kernel
theorem dX6_meanPayment_34 : decode cX6_meanPayment 34 = .ok (.dreturn, 1) := by decide +kernel
theorem dX6_trial_0 : decode cX6_trial 0 = .ok (.aload_n 0, 1) := by decide +kernel
theorem dX6_trial_1 : decode cX6_trial 1 = .ok (.iload_n 1, 1) := by decide +kernel
theorem dX6_trial_2 : decode cX6_trial 2 = .ok (.putfield 89, 3) := by decide +kernel
theorem dX6_trial_5 : decode cX6_trial 5 = .ok (.aload_n 0, 1) := by decide +kernel
theorem dX6_trial_6 : decode cX6_trial 6 = .ok (.iload_n 2, 1) := by decide +kernel
theorem dX6_trial_7 : decode cX6_trial 7 = .ok (.putfield 137, 3) := by decide +kernel
theorem dX6_trial_10 : decode cX6_trial 10 = .ok (.iconst 0, 1) := by decide +kernel
theorem dX6_trial_11 : decode cX6_trial 11 = .ok (.istore_n 3, 1) := by decide +kernel
theorem dX6_trial_12 : decode cX6_trial 12 = .ok (.iload_n 3, 1) := by decide +kernel
theorem dX6_trial_13 : decode cX6_trial 13 = .ok (.aload_n 0, 1) := by decide +kernel
theorem dX6_trial_14 : decode cX6_trial 14 = .ok (.getfield 100, 3) := by decide +kernel
theorem dX6_trial_17 : decode cX6_trial 17 = .ok (.if_icmp .ge 23, 3) := by decide +kernel
theorem dX6_trial_20 : decode cX6_trial 20 = .ok (.aload_n 0, 1) := by decide +kernel
theorem dX6_trial_21 : decode cX6_trial 21 = .ok (.getfield 40, 3) := by decide +kernel
theorem dX6_trial_24 : decode cX6_trial 24 = .ok (.iload_n 3, 1) := by decide +kernel
theorem dX6_trial_25 : decode cX6_trial 25 = .ok (.iconst 0, 1) := by decide +kernel
theorem dX6_trial_26 : decode cX6_trial 26 = .ok (.iastore, 1) := by decide +kernel
theorem dX6_trial_27 : decode cX6_trial 27 = .ok (.aload_n 0, 1) := by decide +kernel
theorem dX6_trial_28 : decode cX6_trial 28 = .ok (.getfield 43, 3) := by decide +kernel
theorem dX6_trial_31 : decode cX6_trial 31 = .ok (.iload_n 3, 1) := by decide +kernel
theorem dX6_trial_32 : decode cX6_trial 32 = .ok (.iconst 0, 1) := by decide +kernel
theorem dX6_trial_33 : decode cX6_trial 33 = .ok (.iastore, 1) := by decide +kernel
theorem dX6_trial_34 : decode cX6_trial 34 = .ok (.iinc 3 1, 3) := by decide +kernel
theorem dX6_trial_37 : decode cX6_trial 37 = .ok (.goto (-25), 3) := by decide +kernel
theorem dX6_trial_40 : decode cX6_trial 40 = .ok (.iconst 0, 1) := by decide +kernel
theorem dX6_trial_41 : decode cX6_trial 41 = .ok (.istore_n 3, 1) := by decide +kernel
theorem dX6_trial_42 : decode cX6_trial 42 = .ok (.iconst 0, 1) := by decide +kernel
theorem dX6_trial_43 : decode cX6_trial 43 = .ok (.istore 4, 2) := by decide +kernel
theorem dX6_trial_45 : decode cX6_trial 45 = .ok (.iload 4, 2) := by decide +kernel
theorem dX6_trial_47 : decode cX6_trial 47 = .ok (.aload_n 0, 1) := by decide +kernel
theorem dX6_trial_48 : decode cX6_trial 48 = .ok (.getfield 120, 3) := by decide +kernel
theorem dX6_trial_51 : decode cX6_trial 51 = .ok (.if_icmp .ge 97, 3) := by decide +kernel
theorem dX6_trial_54 : decode cX6_trial 54 = .ok (.iconst 0, 1) := by decide +kernel
theorem dX6_trial_55 : decode cX6_trial 55 = .ok (.istore 5, 2) := by decide +kernel
theorem dX6_trial_57 : decode cX6_trial 57 = .ok (.iload 5, 2) := by decide +kernel
theorem dX6_trial_59 : decode cX6_trial 59 = .ok (.aload_n 0, 1) := by decide +kernel
theorem dX6_trial_60 : decode cX6_trial 60 = .ok (.getfield 100, 3) := by decide +kernel
theorem dX6_trial_63 : decode cX6_trial 63 = .ok (.if_icmp .ge 32, 3) := by decide +kernel
theorem dX6_trial_66 : decode cX6_trial 66 = .ok (.aload_n 0, 1) := by decide +kernel
theorem dX6_trial_67 : decode cX6_trial 67 = .ok (.getfield 40, 3) := by decide +kernel
theorem dX6_trial_70 : decode cX6_trial 70 = .ok (.iload 5, 2) := by decide +kernel
theorem dX6_trial_72 : decode cX6_trial 72 = .ok (.dup2, 1) := by decide +kernel
theorem dX6_trial_73 : decode cX6_trial 73 = .ok (.iaload, 1) := by decide +kernel
theorem dX6_trial_74 : decode cX6_trial 74 = .ok (.aload_n 0, 1) := by decide +kernel
theorem dX6_trial_75 : decode cX6_trial 75 = .ok (.getfield 65, 3) := by decide +kernel
theorem dX6_trial_78 : decode cX6_trial 78 = .ok (.bipush 6, 2) := by decide +kernel
theorem dX6_trial_80 : decode cX6_trial 80 = .ok (.iload 4, 2) := by decide +kernel
theorem dX6_trial_82 : decode cX6_trial 82 = .ok (.imul, 1) := by decide +kernel
theorem dX6_trial_83 : decode cX6_trial 83 = .ok (.iload 5, 2) := by decide +kernel
theorem dX6_trial_85 : decode cX6_trial 85 = .ok (.iadd, 1) := by decide +kernel
theorem dX6_trial_86 : decode cX6_trial 86 = .ok (.iaload, 1) := by decide +kernel
theorem dX6_trial_87 : decode cX6_trial 87 = .ok (.iadd, 1) := by decide +kernel
theorem dX6_trial_88 : decode cX6_trial 88 = .ok (.iastore, 1) := by decide +kernel
theorem dX6_trial_89 : decode cX6_trial 89 = .ok (.iinc 5 1, 3) := by decide +kernel
theorem dX6_trial_92 : decode cX6_trial 92 = .ok (.goto (-35), 3) := by decide +kernel
theorem dX6_trial_95 : decode cX6_trial 95 = .ok (.aload_n 0, 1) := by decide +kernel
theorem dX6_trial_96 : decode cX6_trial 96 = .ok (.aload_n 0, 1) := by decide +kernel
theorem dX6_trial_97 : decode cX6_trial 97 = .ok (.getfield 40, 3) := by decide +kernel
theorem dX6_trial_100 : decode cX6_trial 100 = .ok (.aload_n 0, 1) := by decide +kernel
theorem dX6_trial_101 : decode cX6_trial 101 = .ok (.getfield 43, 3) := by decide +kernel
theorem dX6_trial_104 : decode cX6_trial 104 = .ok (.invokevirtual 154, 3) := by decide +kernel
theorem dX6_trial_107 : decode cX6_trial 107 = .ok (.pop, 1) := by decide +kernel
theorem dX6_trial_108 : decode cX6_trial 108 = .ok (.iconst 0, 1) := by decide +kernel
theorem dX6_trial_109 : decode cX6_trial 109 = .ok (.istore 5, 2) := by decide +kernel
theorem dX6_trial_111 : decode cX6_trial 111 = .ok (.iload 5, 2) := by decide +kernel
theorem dX6_trial_113 : decode cX6_trial 113 = .ok (.aload_n 0, 1) := by decide +kernel
theorem dX6_trial_114 : decode cX6_trial 114 = .ok (.getfield 100, 3) := by decide +kernel
theorem dX6_trial_117 : decode cX6_trial 117 = .ok (.if_icmp .ge 25, 3) := by decide +kernel
theorem dX6_trial_120 : decode cX6_trial 120 = .ok (.iload_n 3, 1) := by decide +kernel
theorem dX6_trial_121 : decode cX6_trial 121 = .ok (.aload_n 0, 1) := by decide +kernel
theorem dX6_trial_122 : decode cX6_trial 122 = .ok (.iload 5, 2) := by decide +kernel
theorem dX6_trial_124 : decode cX6_trial 124 = .ok (.aload_n 0, 1) := by decide +kernel
theorem dX6_trial_125 : decode cX6_trial 125 = .ok (.getfield 43, 3) := by decide +kernel
theorem dX6_trial_128 : decode cX6_trial 128 = .ok (.iload 5, 2) := by decide +kernel
theorem dX6_trial_130 : decode cX6_trial 130 = .ok (.iaload, 1) := by decide +kernel
theorem dX6_trial_131 : decode cX6_trial 131 = .ok (.invokevirtual 182, 3) := by decide +kernel
theorem dX6_trial_134 : decode cX6_trial 134 = .ok (.iadd, 1) := by decide +kernel
theorem dX6_trial_135 : decode cX6_trial 135 = .ok (.istore_n 3, 1) := by decide +kernel
theorem dX6_trial_136 : decode cX6_trial 136 = .ok (.iinc 5 1, 3) := by decide +kernel
theorem dX6_trial_139 : decode cX6_trial 139 = .ok (.goto (-28), 3) := by decide +kernel
theorem dX6_trial_142 : decode cX6_trial 142 = .ok (.iinc 4 1, 3) := by decide +kernel
theorem dX6_trial_145 : decode cX6_trial 145 = .ok (.goto (-100), 3) := by decide +kernel
theorem dX6_trial_148 : decode cX6_trial 148 = .ok (.aload_n 0, 1) := by decide +kernel
theorem dX6_trial_149 : decode cX6_trial 149 = .ok (.iconst (-1), 1) := by decide +kernel
theorem dX6_trial_150 : decode cX6_trial 150 = .ok (.putfield 89, 3) := by decide +kernel
theorem dX6_trial_153 : decode cX6_trial 153 = .ok (.iload_n 3, 1) := by decide +kernel
theorem dX6_trial_154 : decode cX6_trial 154 = .ok (.ireturn, 1) := by decide +kernel
theorem dX6_floodedWith_0 : decode cX6_floodedWith 0 = .ok (.aload_n 0, 1) := by decide +kernel
theorem dX6_floodedWith_1 : decode cX6_floodedWith 1 = .ok (.aload_n 0, 1) := by decide +kernel
theorem dX6_floodedWith_2 : decode cX6_floodedWith 2 = .ok (.iconst (-1), 1) := by decide +kernel
theorem dX6_floodedWith_3 : decode cX6_floodedWith 3 = .ok (.iconst 0, 1) := by decide +kernel
theorem dX6_floodedWith_4 : decode cX6_floodedWith 4 = .ok (.invokevirtual 204, 3) := by decide +kernel
theorem dX6_floodedWith_7 : decode cX6_floodedWith 7 = .ok (.invokevirtual 123, 3) := by decide +kernel
theorem dX6_floodedWith_10 : decode cX6_floodedWith 10 = .ok (.ireturn, 1) := by decide +kernel
theorem dX6_floodedWithOpening_0 : decode cX6_floodedWithOpening 0 = .ok (.aload_n 0, 1) := by decide +kernel
theorem dX6_floodedWithOpening_1 : decode cX6_floodedWithOpening 1 = .ok (.aload_n 0, 1) := by decide +kernel
theorem dX6_floodedWithOpening_2 : decode cX6_floodedWithOpening 2 = .ok (.iload_n 1, 1) := by decide +kernel
theorem dX6_floodedWithOpening_3 : decode cX6_floodedWithOpening 3 = .ok (.invokevirtual 107, 3) := by decide +kernel
theorem dX6_floodedWithOpening_6 : decode cX6_floodedWithOpening 6 = .ok (.ifCond .eq 7, 3) := by decide +kernel
theorem dX6_floodedWithOpening_9 : decode cX6_floodedWithOpening 9 = .ok (.iconst 1, 1) := by decide +kernel
theorem dX6_floodedWithOpening_10 : decode cX6_floodedWithOpening 10 = .ok (.goto 18, 3) := by decide +kernel
theorem dX6_floodedWithOpening_13 : decode cX6_floodedWithOpening 13 = .ok (.iload_n 2, 1) := by decide +kernel
theorem dX6_floodedWithOpening_14 : decode cX6_floodedWithOpening 14 = .ok (.iconst 0, 1) := by decide +kernel
theorem dX6_floodedWithOpening_15 : decode cX6_floodedWithOpening 15 = .ok (.bipush 10, 2) := by decide +kernel
theorem dX6_floodedWithOpening_17 : decode cX6_floodedWithOpening 17 = .ok (.invokestatic 103, 3) := by decide +kernel
theorem dX6_floodedWithOpening_20 : decode cX6_floodedWithOpening 20 = .ok (.ifCond .eq 7, 3) := by decide +kernel
theorem dX6_floodedWithOpening_23 : decode cX6_floodedWithOpening 23 = .ok (.iconst 0, 1) := by decide +kernel
theorem dX6_floodedWithOpening_24 : decode cX6_floodedWithOpening 24 = .ok (.goto 4, 3) := by decide +kernel
theorem dX6_floodedWithOpening_27 : decode cX6_floodedWithOpening 27 = .ok (.iconst 2, 1) := by decide +kernel
theorem dX6_floodedWithOpening_28 : decode cX6_floodedWithOpening 28 = .ok (.invokevirtual 114, 3) := by decide +kernel
theorem dX6_floodedWithOpening_31 : decode cX6_floodedWithOpening 31 = .ok (.ifCond .eq 7, 3) := by decide +kernel
theorem dX6_floodedWithOpening_34 : decode cX6_floodedWithOpening 34 = .ok (.iconst 0, 1) := by decide +kernel
theorem dX6_floodedWithOpening_35 : decode cX6_floodedWithOpening 35 = .ok (.goto 9, 3) := by decide +kernel
theorem dX6_floodedWithOpening_38 : decode cX6_floodedWithOpening 38 = .ok (.aload_n 0, 1) := by decide +kernel
theorem dX6_floodedWithOpening_39 : decode cX6_floodedWithOpening 39 = .ok (.iload_n 1, 1) := by decide +kernel
theorem dX6_floodedWithOpening_40 : decode cX6_floodedWithOpening 40 = .ok (.iload_n 2, 1) := by decide +kernel
theorem dX6_floodedWithOpening_41 : decode cX6_floodedWithOpening 41 = .ok (.invokevirtual 204, 3) := by decide +kernel
theorem dX6_floodedWithOpening_44 : decode cX6_floodedWithOpening 44 = .ok (.ireturn, 1) := by decide +kernel
theorem dX6_bestOpening_0 : decode cX6_bestOpening 0 = .ok (.aload_n 0, 1) := by decide +kernel
theorem dX6_bestOpening_1 : decode cX6_bestOpening 1 = .ok (.aload_n 0, 1) := by decide +kernel
theorem dX6_bestOpening_2 : decode cX6_bestOpening 2 = .ok (.iload_n 1, 1) := by decide +kernel
theorem dX6_bestOpening_3 : decode cX6_bestOpening 3 = .ok (.invokevirtual 107, 3) := by decide +kernel
theorem dX6_bestOpening_6 : decode cX6_bestOpening 6 = .ok (.ifCond .eq 7, 3) := by decide +kernel
theorem dX6_bestOpening_9 : decode cX6_bestOpening 9 = .ok (.iconst 1, 1) := by decide +kernel
theorem dX6_bestOpening_10 : decode cX6_bestOpening 10 = .ok (.goto 4, 3) := by decide +kernel
theorem dX6_bestOpening_13 : decode cX6_bestOpening 13 = .ok (.iconst 0, 1) := by decide +kernel
theorem dX6_bestOpening_14 : decode cX6_bestOpening 14 = .ok (.invokevirtual 114, 3) := by decide +kernel
theorem dX6_bestOpening_17 : decode cX6_bestOpening 17 = .ok (.ifCond .eq 5, 3) := by decide +kernel
theorem dX6_bestOpening_20 : decode cX6_bestOpening 20 = .ok (.iconst 0, 1) := by decide +kernel
theorem dX6_bestOpening_21 : decode cX6_bestOpening 21 = .ok (.ireturn, 1) := by decide +kernel
theorem dX6_bestOpening_22 : decode cX6_bestOpening 22 = .ok (.iconst 0, 1) := by decide +kernel
theorem dX6_bestOpening_23 : decode cX6_bestOpening 23 = .ok (.istore_n 2, 1) := by decide +kernel
theorem dX6_bestOpening_24 : decode cX6_bestOpening 24 = .ok (.aload_n 0, 1) := by decide +kernel
theorem dX6_bestOpening_25 : decode cX6_bestOpening 25 = .ok (.iload_n 1, 1) := by decide +kernel
theorem dX6_bestOpening_26 : decode cX6_bestOpening 26 = .ok (.iconst 0, 1) := by decide +kernel
theorem dX6_bestOpening_27 : decode cX6_bestOpening 27 = .ok (.invokevirtual 204, 3) := by decide +kernel
theorem dX6_bestOpening_30 : decode cX6_bestOpening 30 = .ok (.istore_n 3, 1) := by decide +kernel
theorem dX6_bestOpening_31 : decode cX6_bestOpening 31 = .ok (.iconst 1, 1) := by decide +kernel
theorem dX6_bestOpening_32 : decode cX6_bestOpening 32 = .ok (.istore 4, 2) := by decide +kernel
theorem dX6_bestOpening_34 : decode cX6_bestOpening 34 = .ok (.iload 4, 2) := by decide +kernel
theorem dX6_bestOpening_36 : decode cX6_bestOpening 36 = .ok (.bipush 11, 2) := by decide +kernel
theorem dX6_bestOpening_38 : decode cX6_bestOpening 38 = .ok (.if_icmp .ge 33, 3) := by decide +kernel
theorem dX6_bestOpening_41 : decode cX6_bestOpening 41 = .ok (.aload_n 0, 1) := by decide +kernel
theorem dX6_bestOpening_42 : decode cX6_bestOpening 42 = .ok (.iload_n 1, 1) := by decide +kernel
theorem dX6_bestOpening_43 : decode cX6_bestOpening 43 = .ok (.iload 4, 2) := by decide +kernel
theorem dX6_bestOpening_45 : decode cX6_bestOpening 45 = .ok (.invokevirtual 204, 3) := by decide +kernel
theorem dX6_bestOpening_48 : decode cX6_bestOpening 48 = .ok (.istore 5, 2) := by decide +kernel
theorem dX6_bestOpening_50 : decode cX6_bestOpening 50 = .ok (.iload 5, 2) := by decide +kernel
theorem dX6_bestOpening_52 : decode cX6_bestOpening 52 = .ok (.iload_n 3, 1) := by decide +kernel
theorem dX6_bestOpening_53 : decode cX6_bestOpening 53 = .ok (.if_icmp .lt 6, 3) := by decide +kernel
theorem dX6_bestOpening_56 : decode cX6_bestOpening 56 = .ok (.goto 9, 3) := by decide +kernel
theorem dX6_bestOpening_59 : decode cX6_bestOpening 59 = .ok (.iload 5, 2) := by decide +kernel
theorem dX6_bestOpening_61 : decode cX6_bestOpening 61 = .ok (.istore_n 3, 1) := by decide +kernel
theorem dX6_bestOpening_62 : decode cX6_bestOpening 62 = .ok (.iload 4, 2) := by decide +kernel
theorem dX6_bestOpening_64 : decode cX6_bestOpening 64 = .ok (.istore_n 2, 1) := by decide +kernel
theorem dX6_bestOpening_65 : decode cX6_bestOpening 65 = .ok (.iinc 4 1, 3) := by decide +kernel
theorem dX6_bestOpening_68 : decode cX6_bestOpening 68 = .ok (.goto (-34), 3) := by decide +kernel
theorem dX6_bestOpening_71 : decode cX6_bestOpening 71 = .ok (.iload_n 2, 1) := by decide +kernel
theorem dX6_bestOpening_72 : decode cX6_bestOpening 72 = .ok (.ireturn, 1) := by decide +kernel
theorem dX6_puts_0 : decode cX6_puts 0 = .ok (.aload_n 0, 1) := by decide +kernel
theorem dX6_puts_1 : decode cX6_puts 1 = .ok (.getfield 93, 3) := by decide +kernel
theorem dX6_puts_4 : decode cX6_puts 4 = .ok (.aload_n 0, 1) := by decide +kernel
theorem dX6_puts_5 : decode cX6_puts 5 = .ok (.getfield 207, 3) := by decide +kernel
theorem dX6_puts_8 : decode cX6_puts 8 = .ok (.iload_n 1, 1) := by decide +kernel
theorem dX6_puts_9 : decode cX6_puts 9 = .ok (.castore, 1) := by decide +kernel
theorem dX6_puts_10 : decode cX6_puts 10 = .ok (.aload_n 0, 1) := by decide +kernel
theorem dX6_puts_11 : decode cX6_puts 11 = .ok (.dup, 1) := by decide +kernel
theorem dX6_puts_12 : decode cX6_puts 12 = .ok (.getfield 207, 3) := by decide +kernel
theorem dX6_puts_15 : decode cX6_puts 15 = .ok (.iconst 1, 1) := by decide +kernel
theorem dX6_puts_16 : decode cX6_puts 16 = .ok (.iadd, 1) := by decide +kernel
theorem dX6_puts_17 : decode cX6_puts 17 = .ok (.putfield 207, 3) := by decide +kernel
theorem dX6_puts_20 : decode cX6_puts 20 = .ok (.return_, 1) := by decide +kernel
theorem dX6_putsNumber_0 : decode cX6_putsNumber 0 = .ok (.iload_n 1, 1) := by decide +kernel
theorem dX6_putsNumber_1 : decode cX6_putsNumber 1 = .ok (.bipush 10, 2) := by decide +kernel
theorem dX6_putsNumber_3 : decode cX6_putsNumber 3 = .ok (.if_icmp .lt 15, 3) := by decide +kernel
theorem dX6_putsNumber_6 : decode cX6_putsNumber 6 = .ok (.aload_n 0, 1) := by decide +kernel
theorem dX6_putsNumber_7 : decode cX6_putsNumber 7 = .ok (.bipush 48, 2) := by decide +kernel
theorem dX6_putsNumber_9 : decode cX6_putsNumber 9 = .ok (.iload_n 1, 1) := by decide +kernel
theorem dX6_putsNumber_10 : decode cX6_putsNumber 10 = .ok (.bipush 10, 2) := by decide +kernel
theorem dX6_putsNumber_12 : decode cX6_putsNumber 12 = .ok (.idiv, 1) := by decide +kernel
theorem dX6_putsNumber_13 : decode cX6_putsNumber 13 = .ok (.iadd, 1) := by decide +kernel
theorem dX6_putsNumber_14 : decode cX6_putsNumber 14 = .ok (.i2c, 1) := by decide +kernel
theorem dX6_putsNumber_15 : decode cX6_putsNumber 15 = .ok (.invokevirtual 210, 3) := by decide +kernel
theorem dX6_putsNumber_18 : decode cX6_putsNumber 18 = .ok (.aload_n 0, 1) := by decide +kernel
theorem dX6_putsNumber_19 : decode cX6_putsNumber 19 = .ok (.bipush 48, 2) := by decide +kernel
theorem dX6_putsNumber_21 : decode cX6_putsNumber 21 = .ok (.iload_n 1, 1) := by decide +kernel
theorem dX6_putsNumber_22 : decode cX6_putsNumber 22 = .ok (.bipush 10, 2) := by decide +kernel
theorem dX6_putsNumber_24 : decode cX6_putsNumber 24 = .ok (.irem, 1) := by decide +kernel
theorem dX6_putsNumber_25 : decode cX6_putsNumber 25 = .ok (.iadd, 1) := by decide +kernel
theorem dX6_putsNumber_26 : decode cX6_putsNumber 26 = .ok (.i2c, 1) := by decide +kernel
theorem dX6_putsNumber_27 : decode cX6_putsNumber 27 = .ok (.invokevirtual 210, 3) := by decide +kernel
theorem dX6_putsNumber_30 : decode cX6_putsNumber 30 = .ok (.return_, 1) := by decide +kernel
theorem dX6_writeRule_0 : decode cX6_writeRule 0 = .ok (.aload_n 0, 1) := by decide +kernel
theorem dX6_writeRule_1 : decode cX6_writeRule 1 = .ok (.iload_n 1, 1) := by decide +kernel
theorem dX6_writeRule_2 : decode cX6_writeRule 2 = .ok (.invokevirtual 130, 3) := by decide +kernel
theorem dX6_writeRule_5 : decode cX6_writeRule 5 = .ok (.ifCond .eq 5, 3) := by decide +kernel
theorem dX6_writeRule_8 : decode cX6_writeRule 8 = .ok (.iconst 0, 1) := by decide +kernel
theorem dX6_writeRule_9 : decode cX6_writeRule 9 = .ok (.ireturn, 1) := by decide +kernel
theorem dX6_writeRule_10 : decode cX6_writeRule 10 = .ok (.aload_n 0, 1) := by decide +kernel
theorem dX6_writeRule_11 : decode cX6_writeRule 11 = .ok (.iconst 0, 1) := by decide +kernel
theorem dX6_writeRule_12 : decode cX6_writeRule 12 = .ok (.putfield 207, 3) := by decide +kernel
theorem dX6_writeRule_15 : decode cX6_writeRule 15 = .ok (.aload_n 0, 1) := by decide +kernel
theorem dX6_writeRule_16 : decode cX6_writeRule 16 = .ok (.aload_n 0, 1) := by decide +kernel
theorem dX6_writeRule_17 : decode cX6_writeRule 17 = .ok (.getfield 49, 3) := by decide +kernel
theorem dX6_writeRule_20 : decode cX6_writeRule 20 = .ok (.iload_n 1, 1) := by decide +kernel
theorem dX6_writeRule_21 : decode cX6_writeRule 21 = .ok (.iaload, 1) := by decide +kernel
theorem dX6_writeRule_22 : decode cX6_writeRule 22 = .ok (.invokevirtual 214, 3) := by decide +kernel
theorem dX6_writeRule_25 : decode cX6_writeRule 25 = .ok (.aload_n 0, 1) := by decide +kernel
theorem dX6_writeRule_26 : decode cX6_writeRule 26 = .ok (.bipush 58, 2) := by decide +kernel
theorem dX6_writeRule_28 : decode cX6_writeRule 28 = .ok (.invokevirtual 210, 3) := by decide +kernel
theorem dX6_writeRule_31 : decode cX6_writeRule 31 = .ok (.aload_n 0, 1) := by decide +kernel
theorem dX6_writeRule_32 : decode cX6_writeRule 32 = .ok (.aload_n 0, 1) := by decide +kernel
theorem dX6_writeRule_33 : decode cX6_writeRule 33 = .ok (.getfield 52, 3) := by decide +kernel
theorem dX6_writeRule_36 : decode cX6_writeRule 36 = .ok (.iload_n 1, 1) := by decide +kernel
theorem dX6_writeRule_37 : decode cX6_writeRule 37 = .ok (.iaload, 1) := by decide +kernel
theorem dX6_writeRule_38 : decode cX6_writeRule 38 = .ok (.invokevirtual 214, 3) := by decide +kernel
theorem dX6_writeRule_41 : decode cX6_writeRule 41 = .ok (.aload_n 0, 1) := by decide +kernel
theorem dX6_writeRule_42 : decode cX6_writeRule 42 = .ok (.aload_n 0, 1) := by decide +kernel
theorem dX6_writeRule_43 : decode cX6_writeRule 43 = .ok (.getfield 55, 3) := by decide +kernel
theorem dX6_writeRule_46 : decode cX6_writeRule 46 = .ok (.iload_n 1, 1) := by decide +kernel
theorem dX6_writeRule_47 : decode cX6_writeRule 47 = .ok (.baload, 1) := by decide +kernel
theorem dX6_writeRule_48 : decode cX6_writeRule 48 = .ok (.ifCond .eq 8, 3) := by decide +kernel
theorem dX6_writeRule_51 : decode cX6_writeRule 51 = .ok (.bipush 62, 2) := by decide +kernel
theorem dX6_writeRule_53 : decode cX6_writeRule 53 = .ok (.goto 5, 3) := by decide +kernel
theorem dX6_writeRule_56 : decode cX6_writeRule 56 = .ok (.bipush 60, 2) := by decide +kernel
theorem dX6_writeRule_58 : decode cX6_writeRule 58 = .ok (.invokevirtual 210, 3) := by decide +kernel
theorem dX6_writeRule_61 : decode cX6_writeRule 61 = .ok (.aload_n 0, 1) := by decide +kernel
theorem dX6_writeRule_62 : decode cX6_writeRule 62 = .ok (.aload_n 0, 1) := by decide +kernel
theorem dX6_writeRule_63 : decode cX6_writeRule 63 = .ok (.getfield 59, 3) := by decide +kernel
theorem dX6_writeRule_66 : decode cX6_writeRule 66 = .ok (.iload_n 1, 1) := by decide +kernel
theorem dX6_writeRule_67 : decode cX6_writeRule 67 = .ok (.iaload, 1) := by decide +kernel
theorem dX6_writeRule_68 : decode cX6_writeRule 68 = .ok (.invokevirtual 214, 3) := by decide +kernel
theorem dX6_writeRule_71 : decode cX6_writeRule 71 = .ok (.aload_n 0, 1) := by decide +kernel
theorem dX6_writeRule_72 : decode cX6_writeRule 72 = .ok (.bipush 61, 2) := by decide +kernel
theorem dX6_writeRule_74 : decode cX6_writeRule 74 = .ok (.invokevirtual 210, 3) := by decide +kernel
theorem dX6_writeRule_77 : decode cX6_writeRule 77 = .ok (.aload_n 0, 1) := by decide +kernel
theorem dX6_writeRule_78 : decode cX6_writeRule 78 = .ok (.aload_n 0, 1) := by decide +kernel
theorem dX6_writeRule_79 : decode cX6_writeRule 79 = .ok (.getfield 62, 3) := by decide +kernel
theorem dX6_writeRule_82 : decode cX6_writeRule 82 = .ok (.iload_n 1, 1) := by decide +kernel
theorem dX6_writeRule_83 : decode cX6_writeRule 83 = .ok (.iaload, 1) := by decide +kernel
theorem dX6_writeRule_84 : decode cX6_writeRule 84 = .ok (.invokevirtual 214, 3) := by decide +kernel
theorem dX6_writeRule_87 : decode cX6_writeRule 87 = .ok (.aload_n 0, 1) := by decide +kernel
theorem dX6_writeRule_88 : decode cX6_writeRule 88 = .ok (.getfield 207, 3) := by decide +kernel
theorem dX6_writeRule_91 : decode cX6_writeRule 91 = .ok (.ireturn, 1) := by decide +kernel
theorem dX6_lineAt_0 : decode cX6_lineAt 0 = .ok (.aload_n 0, 1) := by decide +kernel
theorem dX6_lineAt_1 : decode cX6_lineAt 1 = .ok (.iload_n 1, 1) := by decide +kernel
theorem dX6_lineAt_2 : decode cX6_lineAt 2 = .ok (.iconst 0, 1) := by decide +kernel
theorem dX6_lineAt_3 : decode cX6_lineAt 3 = .ok (.aload_n 0, 1) := by decide +kernel
theorem dX6_lineAt_4 : decode cX6_lineAt 4 = .ok (.getfield 207, 3) := by decide +kernel
theorem dX6_lineAt_7 : decode cX6_lineAt 7 = .ok (.iconst 1, 1) := by decide +kernel
theorem dX6_lineAt_8 : decode cX6_lineAt 8 = .ok (.isub, 1) := by decide +kernel
theorem dX6_lineAt_9 : decode cX6_lineAt 9 = .ok (.invokestatic 103, 3) := by decide +kernel
theorem dX6_lineAt_12 : decode cX6_lineAt 12 = .ok (.ifCond .eq 7, 3) := by decide +kernel
theorem dX6_lineAt_15 : decode cX6_lineAt 15 = .ok (.iconst 0, 1) := by decide +kernel
theorem dX6_lineAt_16 : decode cX6_lineAt 16 = .ok (.goto 4, 3) := by decide +kernel
theorem dX6_lineAt_19 : decode cX6_lineAt 19 = .ok (.iconst 1, 1) := by decide +kernel
theorem dX6_lineAt_20 : decode cX6_lineAt 20 = .ok (.invokevirtual 114, 3) := by decide +kernel
theorem dX6_lineAt_23 : decode cX6_lineAt 23 = .ok (.ifCond .eq 8, 3) := by decide +kernel
theorem dX6_lineAt_26 : decode cX6_lineAt 26 = .ok (.bipush 32, 2) := by decide +kernel
theorem dX6_lineAt_28 : decode cX6_lineAt 28 = .ok (.goto 9, 3) := by decide +kernel
theorem dX6_lineAt_31 : decode cX6_lineAt 31 = .ok (.aload_n 0, 1) := by decide +kernel
theorem dX6_lineAt_32 : decode cX6_lineAt 32 = .ok (.getfield 93, 3) := by decide +kernel
theorem dX6_lineAt_35 : decode cX6_lineAt 35 = .ok (.iload_n 1, 1) := by decide +kernel
theorem dX6_lineAt_36 : decode cX6_lineAt 36 = .ok (.caload, 1) := by decide +kernel
theorem dX6_lineAt_37 : decode cX6_lineAt 37 = .ok (.ireturn, 1) := by decide +kernel
end
section
theorem dJ5_init_d00df_0 : decode cJ5_init_d00df 0 = .ok (.aload_n 0, 1) := by decide +kernel
theorem dJ5_init_d00df_1 : decode cJ5_init_d00df 1 = .ok (.invokespecial 3, 3) := by decide +kernel
theorem dJ5_init_d00df_4 : decode cJ5_init_d00df 4 = .ok (.getstatic 18, 3) := by decide +kernel
theorem dJ5_init_d00df_7 : decode cJ5_init_d00df 7 = .ok (.ifCond .eq 18, 3) := by decide +kernel
theorem dJ5_init_d00df_10 : decode cJ5_init_d00df 10 = .ok (.aload_n 0, 1) := by decide +kernel
theorem dJ5_init_d00df_11 : decode cJ5_init_d00df 11 = .ok (.iload_n 1, 1) := by decide +kernel
theorem dJ5_init_d00df_12 : decode cJ5_init_d00df 12 = .ok (.newarray .byte, 2) := by decide +kernel
theorem dJ5_init_d00df_14 : decode cJ5_init_d00df 14 = .ok (.putfield 15, 3) := by decide +kernel
theorem dJ5_init_d00df_17 : decode cJ5_init_d00df 17 = .ok (.aload_n 0, 1) := by decide +kernel
theorem dJ5_init_d00df_18 : decode cJ5_init_d00df 18 = .ok (.iconst 0, 1) := by decide +kernel
theorem dJ5_init_d00df_19 : decode cJ5_init_d00df 19 = .ok (.putfield 22, 3) := by decide +kernel
theorem dJ5_init_d00df_22 : decode cJ5_init_d00df 22 = .ok (.goto 16, 3) := by decide +kernel
theorem dJ5_init_d00df_25 : decode cJ5_init_d00df 25 = .ok (.aload_n 0, 1) := by decide +kernel
theorem dJ5_init_d00df_26 : decode cJ5_init_d00df 26 = .ok (.iload_n 1, 1) := by decide +kernel
theorem dJ5_init_d00df_27 : decode cJ5_init_d00df 27 = .ok (.invokestatic 26, 3) := by decide +kernel
theorem dJ5_init_d00df_30 : decode cJ5_init_d00df 30 = .ok (.putfield 15, 3) := by decide +kernel
theorem dJ5_init_d00df_33 : decode cJ5_init_d00df 33 = .ok (.aload_n 0, 1) := by decide +kernel
theorem dJ5_init_d00df_34 : decode cJ5_init_d00df 34 = .ok (.iconst 1, 1) := by decide +kernel
theorem dJ5_init_d00df_35 : decode cJ5_init_d00df 35 = .ok (.putfield 22, 3) := by decide +kernel
theorem dJ5_init_d00df_38 : decode cJ5_init_d00df 38 = .ok (.return_, 1) := by decide +kernel
theorem dJ5_length_8abf5_0 : decode cJ5_length_8abf5 0 = .ok (.aload_n 0, 1) := by decide +kernel
theorem dJ5_length_8abf5_1 : decode cJ5_length_8abf5 1 = .ok (.getfield 79, 3) := by decide +kernel
theorem dJ5_length_8abf5_4 : decode cJ5_length_8abf5 4 = .ok (.ireturn, 1) := by decide +kernel
theorem dJ5_ensureCapacityInternal_d00df_0 : decode cJ5_ensureCapacityInternal_d00df 0 = .ok (.aload_n 0, 1) := by decide +kernel
theorem dJ5_ensureCapacityInternal_d00df_1 : decode cJ5_ensureCapacityInternal_d00df 1 = .ok (.getfield 15, 3) := by decide +kernel
theorem dJ5_ensureCapacityInternal_d00df_4 : decode cJ5_ensureCapacityInternal_d00df 4 = .ok (.arraylength, 1) := by decide +kernel
theorem dJ5_ensureCapacityInternal_d00df_5 : decode cJ5_ensureCapacityInternal_d00df 5 = .ok (.aload_n 0, 1) := by decide +kernel
theorem dJ5_ensureCapacityInternal_d00df_6 : decode cJ5_ensureCapacityInternal_d00df 6 = .ok (.getfield 22, 3) := by decide +kernel
theorem dJ5_ensureCapacityInternal_d00df_9 : decode cJ5_ensureCapacityInternal_d00df 9 = .ok (.ishr, 1) := by decide +kernel
theorem dJ5_ensureCapacityInternal_d00df_10 : decode cJ5_ensureCapacityInternal_d00df 10 = .ok (.istore_n 2, 1) := by decide +kernel
theorem dJ5_ensureCapacityInternal_d00df_11 : decode cJ5_ensureCapacityInternal_d00df 11 = .ok (.iload_n 1, 1) := by decide +kernel
theorem dJ5_ensureCapacityInternal_d00df_12 : decode cJ5_ensureCapacityInternal_d00df 12 = .ok (.iload_n 2, 1) := by decide +kernel
theorem dJ5_ensureCapacityInternal_d00df_13 : decode cJ5_ensureCapacityInternal_d00df 13 = .ok (.isub, 1) := by decide +kernel
theorem dJ5_ensureCapacityInternal_d00df_14 : decode cJ5_ensureCapacityInternal_d00df 14 = .ok (.ifCond .le 24, 3) := by decide +kernel
theorem dJ5_ensureCapacityInternal_d00df_17 : decode cJ5_ensureCapacityInternal_d00df 17 = .ok (.aload_n 0, 1) := by decide +kernel
theorem dJ5_ensureCapacityInternal_d00df_18 : decode cJ5_ensureCapacityInternal_d00df 18 = .ok (.aload_n 0, 1) := by decide +kernel
theorem dJ5_ensureCapacityInternal_d00df_19 : decode cJ5_ensureCapacityInternal_d00df 19 = .ok (.getfield 15, 3) := by decide +kernel
theorem dJ5_ensureCapacityInternal_d00df_22 : decode cJ5_ensureCapacityInternal_d00df 22 = .ok (.aload_n 0, 1) := by decide +kernel
theorem dJ5_ensureCapacityInternal_d00df_23 : decode cJ5_ensureCapacityInternal_d00df 23 = .ok (.iload_n 1, 1) := by decide +kernel
theorem dJ5_ensureCapacityInternal_d00df_24 : decode cJ5_ensureCapacityInternal_d00df 24 = .ok (.invokevirtual 104, 3) := by decide +kernel
theorem dJ5_ensureCapacityInternal_d00df_27 : decode cJ5_ensureCapacityInternal_d00df 27 = .ok (.aload_n 0, 1) := by decide +kernel
theorem dJ5_ensureCapacityInternal_d00df_28 : decode cJ5_ensureCapacityInternal_d00df 28 = .ok (.getfield 22, 3) := by decide +kernel
theorem dJ5_ensureCapacityInternal_d00df_31 : decode cJ5_ensureCapacityInternal_d00df 31 = .ok (.ishl, 1) := by decide +kernel
theorem dJ5_ensureCapacityInternal_d00df_32 : decode cJ5_ensureCapacityInternal_d00df 32 = .ok (.invokestatic 108, 3) := by decide +kernel
theorem dJ5_ensureCapacityInternal_d00df_35 : decode cJ5_ensureCapacityInternal_d00df 35 = .ok (.putfield 15, 3) := by decide +kernel
theorem dJ5_ensureCapacityInternal_d00df_38 : decode cJ5_ensureCapacityInternal_d00df 38 = .ok (.return_, 1) := by decide +kernel
theorem dJ5_newCapacity_0f7a4_0 : decode cJ5_newCapacity_0f7a4 0 = .ok (.aload_n 0, 1) := by decide +kernel
theorem dJ5_newCapacity_0f7a4_1 : decode cJ5_newCapacity_0f7a4 1 = .ok (.getfield 15, 3) := by decide +kernel
theorem dJ5_newCapacity_0f7a4_4 : decode cJ5_newCapacity_0f7a4 4 = .ok (.arraylength, 1) := by decide +kernel
theorem dJ5_newCapacity_0f7a4_5 : decode cJ5_newCapacity_0f7a4 5 = .ok (.istore_n 2, 1) := by decide +kernel
theorem dJ5_newCapacity_0f7a4_6 : decode cJ5_newCapacity_0f7a4 6 = .ok (.iload_n 1, 1) := by decide +kernel
theorem dJ5_newCapacity_0f7a4_7 : decode cJ5_newCapacity_0f7a4 7 = .ok (.aload_n 0, 1) := by decide +kernel
theorem dJ5_newCapacity_0f7a4_8 : decode cJ5_newCapacity_0f7a4 8 = .ok (.getfield 22, 3) := by decide +kernel
theorem dJ5_newCapacity_0f7a4_11 : decode cJ5_newCapacity_0f7a4 11 = .ok (.ishl, 1) := by decide +kernel
theorem dJ5_newCapacity_0f7a4_12 : decode cJ5_newCapacity_0f7a4 12 = .ok (.istore_n 3, 1) := by decide +kernel
theorem dJ5_newCapacity_0f7a4_13 : decode cJ5_newCapacity_0f7a4 13 = .ok (.iload_n 3, 1) := by decide +kernel
theorem dJ5_newCapacity_0f7a4_14 : decode cJ5_newCapacity_0f7a4 14 = .ok (.iload_n 2, 1) := by decide +kernel
theorem dJ5_newCapacity_0f7a4_15 : decode cJ5_newCapacity_0f7a4 15 = .ok (.isub, 1) := by decide +kernel
theorem dJ5_newCapacity_0f7a4_16 : decode cJ5_newCapacity_0f7a4 16 = .ok (.istore 4, 2) := by decide +kernel
theorem dJ5_newCapacity_0f7a4_18 : decode cJ5_newCapacity_0f7a4 18 = .ok (.iload_n 2, 1) := by decide +kernel
theorem dJ5_newCapacity_0f7a4_19 : decode cJ5_newCapacity_0f7a4 19 = .ok (.iload 4, 2) := by decide +kernel
theorem dJ5_newCapacity_0f7a4_21 : decode cJ5_newCapacity_0f7a4 21 = .ok (.iload_n 2, 1) := by decide +kernel
theorem dJ5_newCapacity_0f7a4_22 : decode cJ5_newCapacity_0f7a4 22 = .ok (.iconst 2, 1) := by decide +kernel
theorem dJ5_newCapacity_0f7a4_23 : decode cJ5_newCapacity_0f7a4 23 = .ok (.aload_n 0, 1) := by decide +kernel
theorem dJ5_newCapacity_0f7a4_24 : decode cJ5_newCapacity_0f7a4 24 = .ok (.getfield 22, 3) := by decide +kernel
theorem dJ5_newCapacity_0f7a4_27 : decode cJ5_newCapacity_0f7a4 27 = .ok (.ishl, 1) := by decide +kernel
theorem dJ5_newCapacity_0f7a4_28 : decode cJ5_newCapacity_0f7a4 28 = .ok (.iadd, 1) := by decide +kernel
theorem dJ5_newCapacity_0f7a4_29 : decode cJ5_newCapacity_0f7a4 29 = .ok (.invokestatic 114, 3) := by decide +kernel
theorem dJ5_newCapacity_0f7a4_32 : decode cJ5_newCapacity_0f7a4 32 = .ok (.istore 5, 2) := by decide +kernel
theorem dJ5_newCapacity_0f7a4_34 : decode cJ5_newCapacity_0f7a4 34 = .ok (.iload 5, 2) := by decide +kernel
theorem dJ5_newCapacity_0f7a4_36 : decode cJ5_newCapacity_0f7a4 36 = .ok (.ldc 39, 2) := by decide +kernel
theorem dJ5_newCapacity_0f7a4_38 : decode cJ5_newCapacity_0f7a4 38 = .ok (.if_icmp .ne 13, 3) := by decide +kernel
theorem dJ5_newCapacity_0f7a4_41 : decode cJ5_newCapacity_0f7a4 41 = .ok (.new 120, 3) := by decide +kernel
theorem dJ5_newCapacity_0f7a4_44 : decode cJ5_newCapacity_0f7a4 44 = .ok (.dup, 1) := by decide +kernel
theorem dJ5_newCapacity_0f7a4_45 : decode cJ5_newCapacity_0f7a4 45 = .ok (.ldc 122, 2) := by decide +kernel
theorem dJ5_newCapacity_0f7a4_47 : decode cJ5_newCapacity_0f7a4 47 = .ok (.invokespecial 124, 3) := by decide +kernel
theorem dJ5_newCapacity_0f7a4_50 : decode cJ5_newCapacity_0f7a4 50 = .ok (.athrow, 1) := by decide +kernel
theorem dJ5_newCapacity_0f7a4_51 : decode cJ5_newCapacity_0f7a4 51 = .ok (.iload 5, 2) := by decide +kernel
theorem dJ5_newCapacity_0f7a4_53 : decode cJ5_newCapacity_0f7a4 53 = .ok (.aload_n 0, 1) := by decide +kernel
theorem dJ5_newCapacity_0f7a4_54 : decode cJ5_newCapacity_0f7a4 54 = .ok (.getfield 22, 3) := by decide +kernel
theorem dJ5_newCapacity_0f7a4_57 : decode cJ5_newCapacity_0f7a4 57 = .ok (.ishr, 1) := by decide +kernel
theorem dJ5_newCapacity_0f7a4_58 : decode cJ5_newCapacity_0f7a4 58 = .ok (.ireturn, 1) := by decide +kernel
theorem dJ5_inflate_da8c8_0 : decode cJ5_inflate_da8c8 0 = .ok (.aload_n 0, 1) := by decide +kernel
theorem dJ5_inflate_da8c8_1 : decode cJ5_inflate_da8c8 1 = .ok (.invokevirtual 83, 3) := by decide +kernel
theorem dJ5_inflate_da8c8_4 : decode cJ5_inflate_da8c8 4 = .ok (.ifCond .ne 4, 3) := by decide +kernel
theorem dJ5_inflate_da8c8_7 : decode cJ5_inflate_da8c8 7 = .ok (.return_, 1) := by decide +kernel
theorem dJ5_inflate_da8c8_8 : decode cJ5_inflate_da8c8 8 = .ok (.aload_n 0, 1) := by decide +kernel
theorem dJ5_inflate_da8c8_9 : decode cJ5_inflate_da8c8 9 = .ok (.getfield 15, 3) := by decide +kernel
theorem dJ5_inflate_da8c8_12 : decode cJ5_inflate_da8c8 12 = .ok (.arraylength, 1) := by decide +kernel
theorem dJ5_inflate_da8c8_13 : decode cJ5_inflate_da8c8 13 = .ok (.invokestatic 26, 3) := by decide +kernel
theorem dJ5_inflate_da8c8_16 : decode cJ5_inflate_da8c8 16 = .ok (.astore_n 1, 1) := by decide +kernel
theorem dJ5_inflate_da8c8_17 : decode cJ5_inflate_da8c8 17 = .ok (.aload_n 0, 1) := by decide +kernel
theorem dJ5_inflate_da8c8_18 : decode cJ5_inflate_da8c8 18 = .ok (.getfield 15, 3) := by decide +kernel
theorem dJ5_inflate_da8c8_21 : decode cJ5_inflate_da8c8 21 = .ok (.iconst 0, 1) := by decide +kernel
theorem dJ5_inflate_da8c8_22 : decode cJ5_inflate_da8c8 22 = .ok (.aload_n 1, 1) := by decide +kernel
theorem dJ5_inflate_da8c8_23 : decode cJ5_inflate_da8c8 23 = .ok (.iconst 0, 1) := by decide +kernel
theorem dJ5_inflate_da8c8_24 : decode cJ5_inflate_da8c8 24 = .ok (.aload_n 0, 1) := by decide +kernel
theorem dJ5_inflate_da8c8_25 : decode cJ5_inflate_da8c8 25 = .ok (.getfield 79, 3) := by decide +kernel
theorem dJ5_inflate_da8c8_28 : decode cJ5_inflate_da8c8 28 = .ok (.invokestatic 125, 3) := by decide +kernel
theorem dJ5_inflate_da8c8_31 : decode cJ5_inflate_da8c8 31 = .ok (.aload_n 0, 1) := by decide +kernel
theorem dJ5_inflate_da8c8_32 : decode cJ5_inflate_da8c8 32 = .ok (.aload_n 1, 1) := by decide +kernel
theorem dJ5_inflate_da8c8_33 : decode cJ5_inflate_da8c8 33 = .ok (.putfield 15, 3) := by decide +kernel
theorem dJ5_inflate_da8c8_36 : decode cJ5_inflate_da8c8 36 = .ok (.aload_n 0, 1) := by decide +kernel
theorem dJ5_inflate_da8c8_37 : decode cJ5_inflate_da8c8 37 = .ok (.iconst 1, 1) := by decide +kernel
theorem dJ5_inflate_da8c8_38 : decode cJ5_inflate_da8c8 38 = .ok (.putfield 22, 3) := by decide +kernel
theorem dJ5_inflate_da8c8_41 : decode cJ5_inflate_da8c8 41 = .ok (.return_, 1) := by decide +kernel
theorem dJ5_setLength_d00df_0 : decode cJ5_setLength_d00df 0 = .ok (.iload_n 1, 1) := by decide +kernel
theorem dJ5_setLength_d00df_1 : decode cJ5_setLength_d00df 1 = .ok (.ifCond .ge 12, 3) := by decide +kernel
theorem dJ5_setLength_d00df_4 : decode cJ5_setLength_d00df 4 = .ok (.new 129, 3) := by decide +kernel
theorem dJ5_setLength_d00df_7 : decode cJ5_setLength_d00df 7 = .ok (.dup, 1) := by decide +kernel
theorem dJ5_setLength_d00df_8 : decode cJ5_setLength_d00df 8 = .ok (.iload_n 1, 1) := by decide +kernel
theorem dJ5_setLength_d00df_9 : decode cJ5_setLength_d00df 9 = .ok (.invokespecial 131, 3) := by decide +kernel
theorem dJ5_setLength_d00df_12 : decode cJ5_setLength_d00df 12 = .ok (.athrow, 1) := by decide +kernel
theorem dJ5_setLength_d00df_13 : decode cJ5_setLength_d00df 13 = .ok (.aload_n 0, 1) := by decide +kernel
theorem dJ5_setLength_d00df_14 : decode cJ5_setLength_d00df 14 = .ok (.iload_n 1, 1) := by decide +kernel
theorem dJ5_setLength_d00df_15 : decode cJ5_setLength_d00df 15 = .ok (.invokevirtual 100, 3) := by decide +kernel
theorem dJ5_setLength_d00df_18 : decode cJ5_setLength_d00df 18 = .ok (.aload_n 0, 1) := by decide +kernel
theorem dJ5_setLength_d00df_19 : decode cJ5_setLength_d00df 19 = .ok (.getfield 79, 3) := by decide +kernel
theorem dJ5_setLength_d00df_22 : decode cJ5_setLength_d00df 22 = .ok (.iload_n 1, 1) := by decide +kernel
theorem dJ5_setLength_d00df_23 : decode cJ5_setLength_d00df 23 = .ok (.if_icmp .ge 40, 3) := by decide +kernel
theorem dJ5_setLength_d00df_26 : decode cJ5_setLength_d00df 26 = .ok (.aload_n 0, 1) := by decide +kernel
theorem dJ5_setLength_d00df_27 : decode cJ5_setLength_d00df 27 = .ok (.invokevirtual 83, 3) := by decide +kernel
theorem dJ5_setLength_d00df_30 : decode cJ5_setLength_d00df 30 = .ok (.ifCond .eq 18, 3) := by decide +kernel
theorem dJ5_setLength_d00df_33 : decode cJ5_setLength_d00df 33 = .ok (.aload_n 0, 1) := by decide +kernel
theorem dJ5_setLength_d00df_34 : decode cJ5_setLength_d00df 34 = .ok (.getfield 15, 3) := by decide +kernel
theorem dJ5_setLength_d00df_37 : decode cJ5_setLength_d00df 37 = .ok (.aload_n 0, 1) := by decide +kernel
theorem dJ5_setLength_d00df_38 : decode cJ5_setLength_d00df 38 = .ok (.getfield 79, 3) := by decide +kernel
theorem dJ5_setLength_d00df_41 : decode cJ5_setLength_d00df 41 = .ok (.iload_n 1, 1) := by decide +kernel
theorem dJ5_setLength_d00df_42 : decode cJ5_setLength_d00df 42 = .ok (.invokestatic 133, 3) := by decide +kernel
theorem dJ5_setLength_d00df_45 : decode cJ5_setLength_d00df 45 = .ok (.goto 31, 3) := by decide +kernel
theorem dJ5_setLength_d00df_48 : decode cJ5_setLength_d00df 48 = .ok (.aload_n 0, 1) := by decide +kernel
theorem dJ5_setLength_d00df_49 : decode cJ5_setLength_d00df 49 = .ok (.getfield 15, 3) := by decide +kernel
theorem dJ5_setLength_d00df_52 : decode cJ5_setLength_d00df 52 = .ok (.aload_n 0, 1) := by decide +kernel
theorem dJ5_setLength_d00df_53 : decode cJ5_setLength_d00df 53 = .ok (.getfield 79, 3) := by decide +kernel
theorem dJ5_setLength_d00df_56 : decode cJ5_setLength_d00df 56 = .ok (.iload_n 1, 1) := by decide +kernel
theorem dJ5_setLength_d00df_57 : decode cJ5_setLength_d00df 57 = .ok (.invokestatic 137, 3) := by decide +kernel
theorem dJ5_setLength_d00df_60 : decode cJ5_setLength_d00df 60 = .ok (.goto 16, 3) := by decide +kernel
theorem dJ5_setLength_d00df_63 : decode cJ5_setLength_d00df 63 = .ok (.aload_n 0, 1) := by decide +kernel
theorem dJ5_setLength_d00df_64 : decode cJ5_setLength_d00df 64 = .ok (.getfield 79, 3) := by decide +kernel
theorem dJ5_setLength_d00df_67 : decode cJ5_setLength_d00df 67 = .ok (.iload_n 1, 1) := by decide +kernel
theorem dJ5_setLength_d00df_68 : decode cJ5_setLength_d00df 68 = .ok (.if_icmp .le 8, 3) := by decide +kernel
theorem dJ5_setLength_d00df_71 : decode cJ5_setLength_d00df 71 = .ok (.aload_n 0, 1) := by decide +kernel
theorem dJ5_setLength_d00df_72 : decode cJ5_setLength_d00df 72 = .ok (.iconst 1, 1) := by decide +kernel
theorem dJ5_setLength_d00df_73 : decode cJ5_setLength_d00df 73 = .ok (.putfield 73, 3) := by decide +kernel
theorem dJ5_setLength_d00df_76 : decode cJ5_setLength_d00df 76 = .ok (.aload_n 0, 1) := by decide +kernel
theorem dJ5_setLength_d00df_77 : decode cJ5_setLength_d00df 77 = .ok (.iload_n 1, 1) := by decide +kernel
theorem dJ5_setLength_d00df_78 : decode cJ5_setLength_d00df 78 = .ok (.putfield 79, 3) := by decide +kernel
theorem dJ5_setLength_d00df_81 : decode cJ5_setLength_d00df 81 = .ok (.return_, 1) := by decide +kernel
theorem dJ5_charAt_5068e_0 : decode cJ5_charAt_5068e 0 = .ok (.aload_n 0, 1) := by decide +kernel
theorem dJ5_charAt_5068e_1 : decode cJ5_charAt_5068e 1 = .ok (.getfield 22, 3) := by decide +kernel
theorem dJ5_charAt_5068e_4 : decode cJ5_charAt_5068e 4 = .ok (.istore_n 2, 1) := by decide +kernel
theorem dJ5_charAt_5068e_5 : decode cJ5_charAt_5068e 5 = .ok (.aload_n 0, 1) := by decide +kernel
theorem dJ5_charAt_5068e_6 : decode cJ5_charAt_5068e 6 = .ok (.getfield 15, 3) := by decide +kernel
theorem dJ5_charAt_5068e_9 : decode cJ5_charAt_5068e 9 = .ok (.astore_n 3, 1) := by decide +kernel
theorem dJ5_charAt_5068e_10 : decode cJ5_charAt_5068e 10 = .ok (.aload_n 0, 1) := by decide +kernel
theorem dJ5_charAt_5068e_11 : decode cJ5_charAt_5068e 11 = .ok (.getfield 79, 3) := by decide +kernel
theorem dJ5_charAt_5068e_14 : decode cJ5_charAt_5068e 14 = .ok (.aload_n 3, 1) := by decide +kernel
theorem dJ5_charAt_5068e_15 : decode cJ5_charAt_5068e 15 = .ok (.arraylength, 1) := by decide +kernel
theorem dJ5_charAt_5068e_16 : decode cJ5_charAt_5068e 16 = .ok (.iload_n 2, 1) := by decide +kernel
theorem dJ5_charAt_5068e_17 : decode cJ5_charAt_5068e 17 = .ok (.ishr, 1) := by decide +kernel
theorem dJ5_charAt_5068e_18 : decode cJ5_charAt_5068e 18 = .ok (.invokestatic 138, 3) := by decide +kernel
theorem dJ5_charAt_5068e_21 : decode cJ5_charAt_5068e 21 = .ok (.istore 4, 2) := by decide +kernel
theorem dJ5_charAt_5068e_23 : decode cJ5_charAt_5068e 23 = .ok (.iload_n 1, 1) := by decide +kernel
theorem dJ5_charAt_5068e_24 : decode cJ5_charAt_5068e 24 = .ok (.iload 4, 2) := by decide +kernel
theorem dJ5_charAt_5068e_26 : decode cJ5_charAt_5068e 26 = .ok (.invokestatic 144, 3) := by decide +kernel
theorem dJ5_charAt_5068e_29 : decode cJ5_charAt_5068e 29 = .ok (.iload_n 2, 1) := by decide +kernel
theorem dJ5_charAt_5068e_30 : decode cJ5_charAt_5068e 30 = .ok (.ifCond .ne 12, 3) := by decide +kernel
theorem dJ5_charAt_5068e_33 : decode cJ5_charAt_5068e 33 = .ok (.aload_n 3, 1) := by decide +kernel
theorem dJ5_charAt_5068e_34 : decode cJ5_charAt_5068e 34 = .ok (.iload_n 1, 1) := by decide +kernel
theorem dJ5_charAt_5068e_35 : decode cJ5_charAt_5068e 35 = .ok (.baload, 1) := by decide +kernel
theorem dJ5_charAt_5068e_36 : decode cJ5_charAt_5068e 36 = .ok (.sipush 255, 3) := by decide +kernel
theorem dJ5_charAt_5068e_39 : decode cJ5_charAt_5068e 39 = .ok (.iand, 1) := by decide +kernel
theorem dJ5_charAt_5068e_40 : decode cJ5_charAt_5068e 40 = .ok (.i2c, 1) := by decide +kernel
theorem dJ5_charAt_5068e_41 : decode cJ5_charAt_5068e 41 = .ok (.ireturn, 1) := by decide +kernel
theorem dJ5_charAt_5068e_42 : decode cJ5_charAt_5068e 42 = .ok (.aload_n 3, 1) := by decide +kernel
theorem dJ5_charAt_5068e_43 : decode cJ5_charAt_5068e 43 = .ok (.iload_n 1, 1) := by decide +kernel
theorem dJ5_charAt_5068e_44 : decode cJ5_charAt_5068e 44 = .ok (.invokestatic 148, 3) := by decide +kernel
theorem dJ5_charAt_5068e_47 : decode cJ5_charAt_5068e 47 = .ok (.ireturn, 1) := by decide +kernel
theorem dJ5_append_cf1ce_0 : decode cJ5_append_cf1ce 0 = .ok (.aload_n 1, 1) := by decide +kernel
theorem dJ5_append_cf1ce_1 : decode cJ5_append_cf1ce 1 = .ok (.ifnonnull 8, 3) := by decide +kernel
theorem dJ5_append_cf1ce_4 : decode cJ5_append_cf1ce 4 = .ok (.aload_n 0, 1) := by decide +kernel
theorem dJ5_append_cf1ce_5 : decode cJ5_append_cf1ce 5 = .ok (.invokevirtual 204, 3) := by decide +kernel
theorem dJ5_append_cf1ce_8 : decode cJ5_append_cf1ce 8 = .ok (.areturn, 1) := by decide +kernel
theorem dJ5_append_cf1ce_9 : decode cJ5_append_cf1ce 9 = .ok (.aload_n 1, 1) := by decide +kernel
theorem dJ5_append_cf1ce_10 : decode cJ5_append_cf1ce 10 = .ok (.invokevirtual 32, 3) := by decide +kernel
theorem dJ5_append_cf1ce_13 : decode cJ5_append_cf1ce 13 = .ok (.istore_n 2, 1) := by decide +kernel
theorem dJ5_append_cf1ce_14 : decode cJ5_append_cf1ce 14 = .ok (.aload_n 0, 1) := by decide +kernel
theorem dJ5_append_cf1ce_15 : decode cJ5_append_cf1ce 15 = .ok (.aload_n 0, 1) := by decide +kernel
theorem dJ5_append_cf1ce_16 : decode cJ5_append_cf1ce 16 = .ok (.getfield 79, 3) := by decide +kernel
theorem dJ5_append_cf1ce_19 : decode cJ5_append_cf1ce 19 = .ok (.iload_n 2, 1) := by decide +kernel
theorem dJ5_append_cf1ce_20 : decode cJ5_append_cf1ce 20 = .ok (.iadd, 1) := by decide +kernel
theorem dJ5_append_cf1ce_21 : decode cJ5_append_cf1ce 21 = .ok (.invokevirtual 100, 3) := by decide +kernel
theorem dJ5_append_cf1ce_24 : decode cJ5_append_cf1ce 24 = .ok (.aload_n 0, 1) := by decide +kernel
theorem dJ5_append_cf1ce_25 : decode cJ5_append_cf1ce 25 = .ok (.aload_n 0, 1) := by decide +kernel
theorem dJ5_append_cf1ce_26 : decode cJ5_append_cf1ce 26 = .ok (.getfield 79, 3) := by decide +kernel
theorem dJ5_append_cf1ce_29 : decode cJ5_append_cf1ce 29 = .ok (.aload_n 1, 1) := by decide +kernel
theorem dJ5_append_cf1ce_30 : decode cJ5_append_cf1ce 30 = .ok (.invokevirtual 208, 3) := by decide +kernel
theorem dJ5_append_cf1ce_33 : decode cJ5_append_cf1ce 33 = .ok (.aload_n 0, 1) := by decide +kernel
theorem dJ5_append_cf1ce_34 : decode cJ5_append_cf1ce 34 = .ok (.dup, 1) := by decide +kernel
theorem dJ5_append_cf1ce_35 : decode cJ5_append_cf1ce 35 = .ok (.getfield 79, 3) := by decide +kernel
theorem dJ5_append_cf1ce_38 : decode cJ5_append_cf1ce 38 = .ok (.iload_n 2, 1) := by decide +kernel
theorem dJ5_append_cf1ce_39 : decode cJ5_append_cf1ce 39 = .ok (.iadd, 1) := by decide +kernel
theorem dJ5_append_cf1ce_40 : decode cJ5_append_cf1ce 40 = .ok (.putfield 79, 3) := by decide +kernel
theorem dJ5_append_cf1ce_43 : decode cJ5_append_cf1ce 43 = .ok (.aload_n 0, 1) := by decide +kernel
theorem dJ5_append_cf1ce_44 : decode cJ5_append_cf1ce 44 = .ok (.areturn, 1) := by decide +kernel
theorem dJ5_appendNull_278bc_0 : decode cJ5_appendNull_278bc 0 = .ok (.aload_n 0, 1) := by decide +kernel
theorem dJ5_appendNull_278bc_1 : decode cJ5_appendNull_278bc 1 = .ok (.aload_n 0, 1) := by decide +kernel
theorem dJ5_appendNull_278bc_2 : decode cJ5_appendNull_278bc 2 = .ok (.getfield 79, 3) := by decide +kernel
theorem dJ5_appendNull_278bc_5 : decode cJ5_appendNull_278bc 5 = .ok (.iconst 4, 1) := by decide +kernel
theorem dJ5_appendNull_278bc_6 : decode cJ5_appendNull_278bc 6 = .ok (.iadd, 1) := by decide +kernel
theorem dJ5_appendNull_278bc_7 : decode cJ5_appendNull_278bc 7 = .ok (.invokevirtual 100, 3) := by decide +kernel
theorem dJ5_appendNull_278bc_10 : decode cJ5_appendNull_278bc 10 = .ok (.aload_n 0, 1) := by decide +kernel
theorem dJ5_appendNull_278bc_11 : decode cJ5_appendNull_278bc 11 = .ok (.getfield 79, 3) := by decide +kernel
theorem dJ5_appendNull_278bc_14 : decode cJ5_appendNull_278bc 14 = .ok (.istore_n 1, 1) := by decide +kernel
theorem dJ5_appendNull_278bc_15 : decode cJ5_appendNull_278bc 15 = .ok (.aload_n 0, 1) := by decide +kernel
theorem dJ5_appendNull_278bc_16 : decode cJ5_appendNull_278bc 16 = .ok (.getfield 15, 3) := by decide +kernel
theorem dJ5_appendNull_278bc_19 : decode cJ5_appendNull_278bc 19 = .ok (.astore_n 2, 1) := by decide +kernel
theorem dJ5_appendNull_278bc_20 : decode cJ5_appendNull_278bc 20 = .ok (.aload_n 0, 1) := by decide +kernel
theorem dJ5_appendNull_278bc_21 : decode cJ5_appendNull_278bc 21 = .ok (.invokevirtual 83, 3) := by decide +kernel
theorem dJ5_appendNull_278bc_24 : decode cJ5_appendNull_278bc 24 = .ok (.ifCond .eq 38, 3) := by decide +kernel
theorem dJ5_appendNull_278bc_27 : decode cJ5_appendNull_278bc 27 = .ok (.aload_n 2, 1) := by decide +kernel
theorem dJ5_appendNull_278bc_28 : decode cJ5_appendNull_278bc 28 = .ok (.iload_n 1, 1) := by decide +kernel
theorem dJ5_appendNull_278bc_29 : decode cJ5_appendNull_278bc 29 = .ok (.iinc 1 1, 3) := by decide +kernel
theorem dJ5_appendNull_278bc_32 : decode cJ5_appendNull_278bc 32 = .ok (.bipush 110, 2) := by decide +kernel
theorem dJ5_appendNull_278bc_34 : decode cJ5_appendNull_278bc 34 = .ok (.bastore, 1) := by decide +kernel
theorem dJ5_appendNull_278bc_35 : decode cJ5_appendNull_278bc 35 = .ok (.aload_n 2, 1) := by decide +kernel
theorem dJ5_appendNull_278bc_36 : decode cJ5_appendNull_278bc 36 = .ok (.iload_n 1, 1) := by decide +kernel
theorem dJ5_appendNull_278bc_37 : decode cJ5_appendNull_278bc 37 = .ok (.iinc 1 1, 3) := by decide +kernel
theorem dJ5_appendNull_278bc_40 : decode cJ5_appendNull_278bc 40 = .ok (.bipush 117, 2) := by decide +kernel
theorem dJ5_appendNull_278bc_42 : decode cJ5_appendNull_278bc 42 = .ok (.bastore, 1) := by decide +kernel
theorem dJ5_appendNull_278bc_43 : decode cJ5_appendNull_278bc 43 = .ok (.aload_n 2, 1) := by decide +kernel
theorem dJ5_appendNull_278bc_44 : decode cJ5_appendNull_278bc 44 = .ok (.iload_n 1, 1) := by decide +kernel
theorem dJ5_appendNull_278bc_45 : decode cJ5_appendNull_278bc 45 = .ok (.iinc 1 1, 3) := by decide +kernel
theorem dJ5_appendNull_278bc_48 : decode cJ5_appendNull_278bc 48 = .ok (.bipush 108, 2) := by decide +kernel
theorem dJ5_appendNull_278bc_50 : decode cJ5_appendNull_278bc 50 = .ok (.bastore, 1) := by decide +kernel
theorem dJ5_appendNull_278bc_51 : decode cJ5_appendNull_278bc 51 = .ok (.aload_n 2, 1) := by decide +kernel
theorem dJ5_appendNull_278bc_52 : decode cJ5_appendNull_278bc 52 = .ok (.iload_n 1, 1) := by decide +kernel
theorem dJ5_appendNull_278bc_53 : decode cJ5_appendNull_278bc 53 = .ok (.iinc 1 1, 3) := by decide +kernel
theorem dJ5_appendNull_278bc_56 : decode cJ5_appendNull_278bc 56 = .ok (.bipush 108, 2) := by decide +kernel
theorem dJ5_appendNull_278bc_58 : decode cJ5_appendNull_278bc 58 = .ok (.bastore, 1) := by decide +kernel
theorem dJ5_appendNull_278bc_59 : decode cJ5_appendNull_278bc 59 = .ok (.goto 17, 3) := by decide +kernel
theorem dJ5_appendNull_278bc_62 : decode cJ5_appendNull_278bc 62 = .ok (.aload_n 2, 1) := by decide +kernel
theorem dJ5_appendNull_278bc_63 : decode cJ5_appendNull_278bc 63 = .ok (.iload_n 1, 1) := by decide +kernel
theorem dJ5_appendNull_278bc_64 : decode cJ5_appendNull_278bc 64 = .ok (.bipush 110, 2) := by decide +kernel
theorem dJ5_appendNull_278bc_66 : decode cJ5_appendNull_278bc 66 = .ok (.bipush 117, 2) := by decide +kernel
theorem dJ5_appendNull_278bc_68 : decode cJ5_appendNull_278bc 68 = .ok (.bipush 108, 2) := by decide +kernel
theorem dJ5_appendNull_278bc_70 : decode cJ5_appendNull_278bc 70 = .ok (.bipush 108, 2) := by decide +kernel
theorem dJ5_appendNull_278bc_72 : decode cJ5_appendNull_278bc 72 = .ok (.invokestatic 226, 3) := by decide +kernel
theorem dJ5_appendNull_278bc_75 : decode cJ5_appendNull_278bc 75 = .ok (.istore_n 1, 1) := by decide +kernel
theorem dJ5_appendNull_278bc_76 : decode cJ5_appendNull_278bc 76 = .ok (.aload_n 0, 1) := by decide +kernel
theorem dJ5_appendNull_278bc_77 : decode cJ5_appendNull_278bc 77 = .ok (.iload_n 1, 1) := by decide +kernel
theorem dJ5_appendNull_278bc_78 : decode cJ5_appendNull_278bc 78 = .ok (.putfield 79, 3) := by decide +kernel
theorem dJ5_appendNull_278bc_81 : decode cJ5_appendNull_278bc 81 = .ok (.aload_n 0, 1) := by decide +kernel
theorem dJ5_appendNull_278bc_82 : decode cJ5_appendNull_278bc 82 = .ok (.areturn, 1) := by decide +kernel
theorem dJ5_append_3fe6f_0 : decode cJ5_append_3fe6f 0 = .ok (.aload_n 0, 1) := by decide +kernel
theorem dJ5_append_3fe6f_1 : decode cJ5_append_3fe6f 1 = .ok (.aload_n 0, 1) := by decide +kernel
theorem dJ5_append_3fe6f_2 : decode cJ5_append_3fe6f 2 = .ok (.getfield 79, 3) := by decide +kernel
theorem dJ5_append_3fe6f_5 : decode cJ5_append_3fe6f 5 = .ok (.iconst 1, 1) := by decide +kernel
theorem dJ5_append_3fe6f_6 : decode cJ5_append_3fe6f 6 = .ok (.iadd, 1) := by decide +kernel
theorem dJ5_append_3fe6f_7 : decode cJ5_append_3fe6f 7 = .ok (.invokevirtual 100, 3) := by decide +kernel
theorem dJ5_append_3fe6f_10 : decode cJ5_append_3fe6f 10 = .ok (.aload_n 0, 1) := by decide +kernel
theorem dJ5_append_3fe6f_11 : decode cJ5_append_3fe6f 11 = .ok (.invokevirtual 83, 3) := by decide +kernel
theorem dJ5_append_3fe6f_14 : decode cJ5_append_3fe6f 14 = .ok (.ifCond .eq 31, 3) := by decide +kernel
theorem dJ5_append_3fe6f_17 : decode cJ5_append_3fe6f 17 = .ok (.iload_n 1, 1) := by decide +kernel
theorem dJ5_append_3fe6f_18 : decode cJ5_append_3fe6f 18 = .ok (.invokestatic 191, 3) := by decide +kernel
theorem dJ5_append_3fe6f_21 : decode cJ5_append_3fe6f 21 = .ok (.ifCond .eq 24, 3) := by decide +kernel
theorem dJ5_append_3fe6f_24 : decode cJ5_append_3fe6f 24 = .ok (.aload_n 0, 1) := by decide +kernel
theorem dJ5_append_3fe6f_25 : decode cJ5_append_3fe6f 25 = .ok (.getfield 15, 3) := by decide +kernel
theorem dJ5_append_3fe6f_28 : decode cJ5_append_3fe6f 28 = .ok (.aload_n 0, 1) := by decide +kernel
theorem dJ5_append_3fe6f_29 : decode cJ5_append_3fe6f 29 = .ok (.dup, 1) := by decide +kernel
theorem dJ5_append_3fe6f_30 : decode cJ5_append_3fe6f 30 = .ok (.getfield 79, 3) := by decide +kernel
theorem dJ5_append_3fe6f_33 : decode cJ5_append_3fe6f 33 = .ok (.dup_x1, 1) := by decide +kernel
theorem dJ5_append_3fe6f_34 : decode cJ5_append_3fe6f 34 = .ok (.iconst 1, 1) := by decide +kernel
theorem dJ5_append_3fe6f_35 : decode cJ5_append_3fe6f 35 = .ok (.iadd, 1) := by decide +kernel
theorem dJ5_append_3fe6f_36 : decode cJ5_append_3fe6f 36 = .ok (.putfield 79, 3) := by decide +kernel
theorem dJ5_append_3fe6f_39 : decode cJ5_append_3fe6f 39 = .ok (.iload_n 1, 1) := by decide +kernel
theorem dJ5_append_3fe6f_40 : decode cJ5_append_3fe6f 40 = .ok (.i2b, 1) := by decide +kernel
theorem dJ5_append_3fe6f_41 : decode cJ5_append_3fe6f 41 = .ok (.bastore, 1) := by decide +kernel
theorem dJ5_append_3fe6f_42 : decode cJ5_append_3fe6f 42 = .ok (.goto 33, 3) := by decide +kernel
theorem dJ5_append_3fe6f_45 : decode cJ5_append_3fe6f 45 = .ok (.aload_n 0, 1) := by decide +kernel
theorem dJ5_append_3fe6f_46 : decode cJ5_append_3fe6f 46 = .ok (.invokevirtual 83, 3) := by decide +kernel
theorem dJ5_append_3fe6f_49 : decode cJ5_append_3fe6f 49 = .ok (.ifCond .eq 7, 3) := by decide +kernel
theorem dJ5_append_3fe6f_52 : decode cJ5_append_3fe6f 52 = .ok (.aload_n 0, 1) := by decide +kernel
theorem dJ5_append_3fe6f_53 : decode cJ5_append_3fe6f 53 = .ok (.invokevirtual 195, 3) := by decide +kernel
theorem dJ5_append_3fe6f_56 : decode cJ5_append_3fe6f 56 = .ok (.aload_n 0, 1) := by decide +kernel
theorem dJ5_append_3fe6f_57 : decode cJ5_append_3fe6f 57 = .ok (.getfield 15, 3) := by decide +kernel
theorem dJ5_append_3fe6f_60 : decode cJ5_append_3fe6f 60 = .ok (.aload_n 0, 1) := by decide +kernel
theorem dJ5_append_3fe6f_61 : decode cJ5_append_3fe6f 61 = .ok (.dup, 1) := by decide +kernel
theorem dJ5_append_3fe6f_62 : decode cJ5_append_3fe6f 62 = .ok (.getfield 79, 3) := by decide +kernel
theorem dJ5_append_3fe6f_65 : decode cJ5_append_3fe6f 65 = .ok (.dup_x1, 1) := by decide +kernel
theorem dJ5_append_3fe6f_66 : decode cJ5_append_3fe6f 66 = .ok (.iconst 1, 1) := by decide +kernel
theorem dJ5_append_3fe6f_67 : decode cJ5_append_3fe6f 67 = .ok (.iadd, 1) := by decide +kernel
theorem dJ5_append_3fe6f_68 : decode cJ5_append_3fe6f 68 = .ok (.putfield 79, 3) := by decide +kernel
theorem dJ5_append_3fe6f_71 : decode cJ5_append_3fe6f 71 = .ok (.iload_n 1, 1) := by decide +kernel
theorem dJ5_append_3fe6f_72 : decode cJ5_append_3fe6f 72 = .ok (.invokestatic 197, 3) := by decide +kernel
theorem dJ5_append_3fe6f_75 : decode cJ5_append_3fe6f 75 = .ok (.aload_n 0, 1) := by decide +kernel
theorem dJ5_append_3fe6f_76 : decode cJ5_append_3fe6f 76 = .ok (.areturn, 1) := by decide +kernel
theorem dJ5_append_c97b9_0 : decode cJ5_append_c97b9 0 = .ok (.aload_n 0, 1) := by decide +kernel
theorem dJ5_append_c97b9_1 : decode cJ5_append_c97b9 1 = .ok (.getfield 79, 3) := by decide +kernel
theorem dJ5_append_c97b9_4 : decode cJ5_append_c97b9 4 = .ok (.istore_n 2, 1) := by decide +kernel
theorem dJ5_append_c97b9_5 : decode cJ5_append_c97b9 5 = .ok (.iload_n 2, 1) := by decide +kernel
theorem dJ5_append_c97b9_6 : decode cJ5_append_c97b9 6 = .ok (.iload_n 1, 1) := by decide +kernel
theorem dJ5_append_c97b9_7 : decode cJ5_append_c97b9 7 = .ok (.invokestatic 245, 3) := by decide +kernel
theorem dJ5_append_c97b9_10 : decode cJ5_append_c97b9 10 = .ok (.iadd, 1) := by decide +kernel
theorem dJ5_append_c97b9_11 : decode cJ5_append_c97b9 11 = .ok (.istore_n 3, 1) := by decide +kernel
theorem dJ5_append_c97b9_12 : decode cJ5_append_c97b9 12 = .ok (.aload_n 0, 1) := by decide +kernel
theorem dJ5_append_c97b9_13 : decode cJ5_append_c97b9 13 = .ok (.iload_n 3, 1) := by decide +kernel
theorem dJ5_append_c97b9_14 : decode cJ5_append_c97b9 14 = .ok (.invokevirtual 100, 3) := by decide +kernel
theorem dJ5_append_c97b9_17 : decode cJ5_append_c97b9 17 = .ok (.aload_n 0, 1) := by decide +kernel
theorem dJ5_append_c97b9_18 : decode cJ5_append_c97b9 18 = .ok (.invokevirtual 83, 3) := by decide +kernel
theorem dJ5_append_c97b9_21 : decode cJ5_append_c97b9 21 = .ok (.ifCond .eq 16, 3) := by decide +kernel
theorem dJ5_append_c97b9_24 : decode cJ5_append_c97b9 24 = .ok (.iload_n 1, 1) := by decide +kernel
theorem dJ5_append_c97b9_25 : decode cJ5_append_c97b9 25 = .ok (.iload_n 3, 1) := by decide +kernel
theorem dJ5_append_c97b9_26 : decode cJ5_append_c97b9 26 = .ok (.aload_n 0, 1) := by decide +kernel
theorem dJ5_append_c97b9_27 : decode cJ5_append_c97b9 27 = .ok (.getfield 15, 3) := by decide +kernel
theorem dJ5_append_c97b9_30 : decode cJ5_append_c97b9 30 = .ok (.invokestatic 248, 3) := by decide +kernel
theorem dJ5_append_c97b9_33 : decode cJ5_append_c97b9 33 = .ok (.pop, 1) := by decide +kernel
theorem dJ5_append_c97b9_34 : decode cJ5_append_c97b9 34 = .ok (.goto 14, 3) := by decide +kernel
theorem dJ5_append_c97b9_37 : decode cJ5_append_c97b9 37 = .ok (.iload_n 1, 1) := by decide +kernel
theorem dJ5_append_c97b9_38 : decode cJ5_append_c97b9 38 = .ok (.iload_n 2, 1) := by decide +kernel
theorem dJ5_append_c97b9_39 : decode cJ5_append_c97b9 39 = .ok (.iload_n 3, 1) := by decide +kernel
theorem dJ5_append_c97b9_40 : decode cJ5_append_c97b9 40 = .ok (.aload_n 0, 1) := by decide +kernel
theorem dJ5_append_c97b9_41 : decode cJ5_append_c97b9 41 = .ok (.getfield 15, 3) := by decide +kernel
theorem dJ5_append_c97b9_44 : decode cJ5_append_c97b9 44 = .ok (.invokestatic 251, 3) := by decide +kernel
theorem dJ5_append_c97b9_47 : decode cJ5_append_c97b9 47 = .ok (.pop, 1) := by decide +kernel
theorem dJ5_append_c97b9_48 : decode cJ5_append_c97b9 48 = .ok (.aload_n 0, 1) := by decide +kernel
theorem dJ5_append_c97b9_49 : decode cJ5_append_c97b9 49 = .ok (.iload_n 3, 1) := by decide +kernel
theorem dJ5_append_c97b9_50 : decode cJ5_append_c97b9 50 = .ok (.putfield 79, 3) := by decide +kernel
theorem dJ5_append_c97b9_53 : decode cJ5_append_c97b9 53 = .ok (.aload_n 0, 1) := by decide +kernel
theorem dJ5_append_c97b9_54 : decode cJ5_append_c97b9 54 = .ok (.areturn, 1) := by decide +kernel
theorem dJ5_getValue_6d5f1_0 : decode cJ5_getValue_6d5f1 0 = .ok (.aload_n 0, 1) := by decide +kernel
theorem dJ5_getValue_6d5f1_1 : decode cJ5_getValue_6d5f1 1 = .ok (.getfield 15, 3) := by decide +kernel
theorem dJ5_getValue_6d5f1_4 : decode cJ5_getValue_6d5f1 4 = .ok (.areturn, 1) := by decide +kernel
theorem dJ5_isLatin1_aae02_0 : decode cJ5_isLatin1_aae02 0 = .ok (.getstatic 18, 3) := by decide +kernel
theorem dJ5_isLatin1_aae02_3 : decode cJ5_isLatin1_aae02 3 = .ok (.ifCond .eq 14, 3) := by decide +kernel
theorem dJ5_isLatin1_aae02_6 : decode cJ5_isLatin1_aae02 6 = .ok (.aload_n 0, 1) := by decide +kernel
theorem dJ5_isLatin1_aae02_7 : decode cJ5_isLatin1_aae02 7 = .ok (.getfield 22, 3) := by decide +kernel
theorem dJ5_isLatin1_aae02_10 : decode cJ5_isLatin1_aae02 10 = .ok (.ifCond .ne 7, 3) := by decide +kernel
theorem dJ5_isLatin1_aae02_13 : decode cJ5_isLatin1_aae02 13 = .ok (.iconst 1, 1) := by decide +kernel
theorem dJ5_isLatin1_aae02_14 : decode cJ5_isLatin1_aae02 14 = .ok (.goto 4, 3) := by decide +kernel
theorem dJ5_isLatin1_aae02_17 : decode cJ5_isLatin1_aae02 17 = .ok (.iconst 0, 1) := by decide +kernel
theorem dJ5_isLatin1_aae02_18 : decode cJ5_isLatin1_aae02 18 = .ok (.ireturn, 1) := by decide +kernel
theorem dJ5_inflateIfNeededFor_a7421_0 : decode cJ5_inflateIfNeededFor_a7421 0 = .ok (.getstatic 18, 3) := by decide +kernel
theorem dJ5_inflateIfNeededFor_a7421_3 : decode cJ5_inflateIfNeededFor_a7421 3 = .ok (.ifCond .eq 18, 3) := by decide +kernel
theorem dJ5_inflateIfNeededFor_a7421_6 : decode cJ5_inflateIfNeededFor_a7421 6 = .ok (.aload_n 0, 1) := by decide +kernel
theorem dJ5_inflateIfNeededFor_a7421_7 : decode cJ5_inflateIfNeededFor_a7421 7 = .ok (.getfield 22, 3) := by decide +kernel
theorem dJ5_inflateIfNeededFor_a7421_10 : decode cJ5_inflateIfNeededFor_a7421 10 = .ok (.aload_n 1, 1) := by decide +kernel
theorem dJ5_inflateIfNeededFor_a7421_11 : decode cJ5_inflateIfNeededFor_a7421 11 = .ok (.invokevirtual 40, 3) := by decide +kernel
theorem dJ5_inflateIfNeededFor_a7421_14 : decode cJ5_inflateIfNeededFor_a7421 14 = .ok (.if_icmp .eq 7, 3) := by decide +kernel
theorem dJ5_inflateIfNeededFor_a7421_17 : decode cJ5_inflateIfNeededFor_a7421 17 = .ok (.aload_n 0, 1) := by decide +kernel
theorem dJ5_inflateIfNeededFor_a7421_18 : decode cJ5_inflateIfNeededFor_a7421 18 = .ok (.invokevirtual 195, 3) := by decide +kernel
theorem dJ5_inflateIfNeededFor_a7421_21 : decode cJ5_inflateIfNeededFor_a7421 21 = .ok (.return_, 1) := by decide +kernel
theorem dJ5_putStringAt_47b60_0 : decode cJ5_putStringAt_47b60 0 = .ok (.aload_n 0, 1) := by decide +kernel
theorem dJ5_putStringAt_47b60_1 : decode cJ5_putStringAt_47b60 1 = .ok (.aload_n 2, 1) := by decide +kernel
theorem dJ5_putStringAt_47b60_2 : decode cJ5_putStringAt_47b60 2 = .ok (.invokevirtual 397, 3) := by decide +kernel
theorem dJ5_putStringAt_47b60_5 : decode cJ5_putStringAt_47b60 5 = .ok (.aload_n 2, 1) := by decide +kernel
theorem dJ5_putStringAt_47b60_6 : decode cJ5_putStringAt_47b60 6 = .ok (.aload_n 0, 1) := by decide +kernel
theorem dJ5_putStringAt_47b60_7 : decode cJ5_putStringAt_47b60 7 = .ok (.getfield 15, 3) := by decide +kernel
theorem dJ5_putStringAt_47b60_10 : decode cJ5_putStringAt_47b60 10 = .ok (.iload_n 1, 1) := by decide +kernel
theorem dJ5_putStringAt_47b60_11 : decode cJ5_putStringAt_47b60 11 = .ok (.aload_n 0, 1) := by decide +kernel
theorem dJ5_putStringAt_47b60_12 : decode cJ5_putStringAt_47b60 12 = .ok (.getfield 22, 3) := by decide +kernel
theorem dJ5_putStringAt_47b60_15 : decode cJ5_putStringAt_47b60 15 = .ok (.invokevirtual 399, 3) := by decide +kernel
theorem dJ5_putStringAt_47b60_18 : decode cJ5_putStringAt_47b60 18 = .ok (.return_, 1) := by decide +kernel
theorem dJx00060_init_a7421_0 : decode cJx00060_init_a7421 0 = .ok (.aload_n 0, 1) := by decide +kernel
theorem dJx00060_init_a7421_1 : decode cJx00060_init_a7421 1 = .ok (.aload_n 1, 1) := by decide +kernel
theorem dJx00060_init_a7421_2 : decode cJx00060_init_a7421 2 = .ok (.invokespecial 7, 3) := by decide +kernel
theorem dJx00060_init_a7421_5 : decode cJx00060_init_a7421 5 = .ok (.return_, 1) := by decide +kernel
theorem dJx00060_init_d00df_0 : decode cJx00060_init_d00df 0 = .ok (.aload_n 0, 1) := by decide +kernel
theorem dJx00060_init_d00df_1 : decode cJx00060_init_d00df 1 = .ok (.new 10, 3) := by decide +kernel
theorem dJx00060_init_d00df_4 : decode cJx00060_init_d00df 4 = .ok (.dup, 1) := by decide +kernel
theorem dJx00060_init_d00df_5 : decode cJx00060_init_d00df 5 = .ok (.invokespecial 12, 3) := by decide +kernel
theorem dJx00060_init_d00df_8 : decode cJx00060_init_d00df 8 = .ok (.ldc 13, 2) := by decide +kernel
theorem dJx00060_init_d00df_10 : decode cJx00060_init_d00df 10 = .ok (.invokevirtual 15, 3) := by decide +kernel
theorem dJx00060_init_d00df_13 : decode cJx00060_init_d00df 13 = .ok (.iload_n 1, 1) := by decide +kernel
theorem dJx00060_init_d00df_14 : decode cJx00060_init_d00df 14 = .ok (.invokevirtual 19, 3) := by decide +kernel
theorem dJx00060_init_d00df_17 : decode cJx00060_init_d00df 17 = .ok (.invokevirtual 22, 3) := by decide +kernel
theorem dJx00060_init_d00df_20 : decode cJx00060_init_d00df 20 = .ok (.invokespecial 7, 3) := by decide +kernel
theorem dJx00060_init_d00df_23 : decode cJx00060_init_d00df 23 = .ok (.return_, 1) := by decide +kernel
theorem dJ6_getChars_ba4f3_0 : decode cJ6_getChars_ba4f3 0 = .ok (.iload_n 1, 1) := by decide +kernel
theorem dJ6_getChars_ba4f3_1 : decode cJ6_getChars_ba4f3 1 = .ok (.istore 5, 2) := by decide +kernel
theorem dJ6_getChars_ba4f3_3 : decode cJ6_getChars_ba4f3 3 = .ok (.iload_n 0, 1) := by decide +kernel
theorem dJ6_getChars_ba4f3_4 : decode cJ6_getChars_ba4f3 4 = .ok (.ifCond .ge 7, 3) := by decide +kernel
theorem dJ6_getChars_ba4f3_7 : decode cJ6_getChars_ba4f3 7 = .ok (.iconst 1, 1) := by decide +kernel
theorem dJ6_getChars_ba4f3_8 : decode cJ6_getChars_ba4f3 8 = .ok (.goto 4, 3) := by decide +kernel
theorem dJ6_getChars_ba4f3_11 : decode cJ6_getChars_ba4f3 11 = .ok (.iconst 0, 1) := by decide +kernel
theorem dJ6_getChars_ba4f3_12 : decode cJ6_getChars_ba4f3 12 = .ok (.istore 6, 2) := by decide +kernel
theorem dJ6_getChars_ba4f3_14 : decode cJ6_getChars_ba4f3 14 = .ok (.iload 6, 2) := by decide +kernel
theorem dJ6_getChars_ba4f3_16 : decode cJ6_getChars_ba4f3 16 = .ok (.ifCond .ne 6, 3) := by decide +kernel
theorem dJ6_getChars_ba4f3_19 : decode cJ6_getChars_ba4f3 19 = .ok (.iload_n 0, 1) := by decide +kernel
theorem dJ6_getChars_ba4f3_20 : decode cJ6_getChars_ba4f3 20 = .ok (.ineg, 1) := by decide +kernel
theorem dJ6_getChars_ba4f3_21 : decode cJ6_getChars_ba4f3 21 = .ok (.istore_n 0, 1) := by decide +kernel
theorem dJ6_getChars_ba4f3_22 : decode cJ6_getChars_ba4f3 22 = .ok (.iload_n 0, 1) := by decide +kernel
theorem dJ6_getChars_ba4f3_23 : decode cJ6_getChars_ba4f3 23 = .ok (.bipush (-100), 2) := by decide +kernel
theorem dJ6_getChars_ba4f3_25 : decode cJ6_getChars_ba4f3 25 = .ok (.if_icmp .gt 47, 3) := by decide +kernel
theorem dJ6_getChars_ba4f3_28 : decode cJ6_getChars_ba4f3 28 = .ok (.iload_n 0, 1) := by decide +kernel
theorem dJ6_getChars_ba4f3_29 : decode cJ6_getChars_ba4f3 29 = .ok (.bipush 100, 2) := by decide +kernel
theorem dJ6_getChars_ba4f3_31 : decode cJ6_getChars_ba4f3 31 = .ok (.idiv, 1) := by decide +kernel
theorem dJ6_getChars_ba4f3_32 : decode cJ6_getChars_ba4f3 32 = .ok (.istore_n 3, 1) := by decide +kernel
theorem dJ6_getChars_ba4f3_33 : decode cJ6_getChars_ba4f3 33 = .ok (.iload_n 3, 1) := by decide +kernel
theorem dJ6_getChars_ba4f3_34 : decode cJ6_getChars_ba4f3 34 = .ok (.bipush 100, 2) := by decide +kernel
theorem dJ6_getChars_ba4f3_36 : decode cJ6_getChars_ba4f3 36 = .ok (.imul, 1) := by decide +kernel
theorem dJ6_getChars_ba4f3_37 : decode cJ6_getChars_ba4f3 37 = .ok (.iload_n 0, 1) := by decide +kernel
theorem dJ6_getChars_ba4f3_38 : decode cJ6_getChars_ba4f3 38 = .ok (.isub, 1) := by decide +kernel
theorem dJ6_getChars_ba4f3_39 : decode cJ6_getChars_ba4f3 39 = .ok (.istore 4, 2) := by decide +kernel
theorem dJ6_getChars_ba4f3_41 : decode cJ6_getChars_ba4f3 41 = .ok (.iload_n 3, 1) := by decide +kernel
theorem dJ6_getChars_ba4f3_42 : decode cJ6_getChars_ba4f3 42 = .ok (.istore_n 0, 1) := by decide +kernel
theorem dJ6_getChars_ba4f3_43 : decode cJ6_getChars_ba4f3 43 = .ok (.aload_n 2, 1) := by decide +kernel
theorem dJ6_getChars_ba4f3_44 : decode cJ6_getChars_ba4f3 44 = .ok (.iinc 5 (-1), 3) := by decide +kernel
theorem dJ6_getChars_ba4f3_47 : decode cJ6_getChars_ba4f3 47 = .ok (.iload 5, 2) := by decide +kernel
theorem dJ6_getChars_ba4f3_49 : decode cJ6_getChars_ba4f3 49 = .ok (.getstatic 83, 3) := by decide +kernel
theorem dJ6_getChars_ba4f3_52 : decode cJ6_getChars_ba4f3 52 = .ok (.iload 4, 2) := by decide +kernel
theorem dJ6_getChars_ba4f3_54 : decode cJ6_getChars_ba4f3 54 = .ok (.baload, 1) := by decide +kernel
theorem dJ6_getChars_ba4f3_55 : decode cJ6_getChars_ba4f3 55 = .ok (.bastore, 1) := by decide +kernel
theorem dJ6_getChars_ba4f3_56 : decode cJ6_getChars_ba4f3 56 = .ok (.aload_n 2, 1) := by decide +kernel
theorem dJ6_getChars_ba4f3_57 : decode cJ6_getChars_ba4f3 57 = .ok (.iinc 5 (-1), 3) := by decide +kernel
theorem dJ6_getChars_ba4f3_60 : decode cJ6_getChars_ba4f3 60 = .ok (.iload 5, 2) := by decide +kernel
theorem dJ6_getChars_ba4f3_62 : decode cJ6_getChars_ba4f3 62 = .ok (.getstatic 87, 3) := by decide +kernel
theorem dJ6_getChars_ba4f3_65 : decode cJ6_getChars_ba4f3 65 = .ok (.iload 4, 2) := by decide +kernel
theorem dJ6_getChars_ba4f3_67 : decode cJ6_getChars_ba4f3 67 = .ok (.baload, 1) := by decide +kernel
theorem dJ6_getChars_ba4f3_68 : decode cJ6_getChars_ba4f3 68 = .ok (.bastore, 1) := by decide +kernel
theorem dJ6_getChars_ba4f3_69 : decode cJ6_getChars_ba4f3 69 = .ok (.goto (-47), 3) := by decide +kernel
theorem dJ6_getChars_ba4f3_72 : decode cJ6_getChars_ba4f3 72 = .ok (.aload_n 2, 1) := by decide +kernel
theorem dJ6_getChars_ba4f3_73 : decode cJ6_getChars_ba4f3 73 = .ok (.iinc 5 (-1), 3) := by decide +kernel
theorem dJ6_getChars_ba4f3_76 : decode cJ6_getChars_ba4f3 76 = .ok (.iload 5, 2) := by decide +kernel
theorem dJ6_getChars_ba4f3_78 : decode cJ6_getChars_ba4f3 78 = .ok (.getstatic 83, 3) := by decide +kernel
theorem dJ6_getChars_ba4f3_81 : decode cJ6_getChars_ba4f3 81 = .ok (.iload_n 0, 1) := by decide +kernel
theorem dJ6_getChars_ba4f3_82 : decode cJ6_getChars_ba4f3 82 = .ok (.ineg, 1) := by decide +kernel
theorem dJ6_getChars_ba4f3_83 : decode cJ6_getChars_ba4f3 83 = .ok (.baload, 1) := by decide +kernel
theorem dJ6_getChars_ba4f3_84 : decode cJ6_getChars_ba4f3 84 = .ok (.bastore, 1) := by decide +kernel
theorem dJ6_getChars_ba4f3_85 : decode cJ6_getChars_ba4f3 85 = .ok (.iload_n 0, 1) := by decide +kernel
theorem dJ6_getChars_ba4f3_86 : decode cJ6_getChars_ba4f3 86 = .ok (.bipush (-9), 2) := by decide +kernel
theorem dJ6_getChars_ba4f3_88 : decode cJ6_getChars_ba4f3 88 = .ok (.if_icmp .ge 16, 3) := by decide +kernel
theorem dJ6_getChars_ba4f3_91 : decode cJ6_getChars_ba4f3 91 = .ok (.aload_n 2, 1) := by decide +kernel
theorem dJ6_getChars_ba4f3_92 : decode cJ6_getChars_ba4f3 92 = .ok (.iinc 5 (-1), 3) := by decide +kernel
theorem dJ6_getChars_ba4f3_95 : decode cJ6_getChars_ba4f3 95 = .ok (.iload 5, 2) := by decide +kernel
theorem dJ6_getChars_ba4f3_97 : decode cJ6_getChars_ba4f3 97 = .ok (.getstatic 87, 3) := by decide +kernel
theorem dJ6_getChars_ba4f3_100 : decode cJ6_getChars_ba4f3 100 = .ok (.iload_n 0, 1) := by decide +kernel
theorem dJ6_getChars_ba4f3_101 : decode cJ6_getChars_ba4f3 101 = .ok (.ineg, 1) := by decide +kernel
theorem dJ6_getChars_ba4f3_102 : decode cJ6_getChars_ba4f3 102 = .ok (.baload, 1) := by decide +kernel
theorem dJ6_getChars_ba4f3_103 : decode cJ6_getChars_ba4f3 103 = .ok (.bastore, 1) := by decide +kernel
theorem dJ6_getChars_ba4f3_104 : decode cJ6_getChars_ba4f3 104 = .ok (.iload 6, 2) := by decide +kernel
theorem dJ6_getChars_ba4f3_106 : decode cJ6_getChars_ba4f3 106 = .ok (.ifCond .eq 12, 3) := by decide +kernel
theorem dJ6_getChars_ba4f3_109 : decode cJ6_getChars_ba4f3 109 = .ok (.aload_n 2, 1) := by decide +kernel
theorem dJ6_getChars_ba4f3_110 : decode cJ6_getChars_ba4f3 110 = .ok (.iinc 5 (-1), 3) := by decide +kernel
theorem dJ6_getChars_ba4f3_113 : decode cJ6_getChars_ba4f3 113 = .ok (.iload 5, 2) := by decide +kernel
theorem dJ6_getChars_ba4f3_115 : decode cJ6_getChars_ba4f3 115 = .ok (.bipush 45, 2) := by decide +kernel
theorem dJ6_getChars_ba4f3_117 : decode cJ6_getChars_ba4f3 117 = .ok (.bastore, 1) := by decide +kernel
theorem dJ6_getChars_ba4f3_118 : decode cJ6_getChars_ba4f3 118 = .ok (.iload 5, 2) := by decide +kernel
theorem dJ6_getChars_ba4f3_120 : decode cJ6_getChars_ba4f3 120 = .ok (.ireturn, 1) := by decide +kernel
theorem dJ6_stringSize_0f7a4_0 : decode cJ6_stringSize_0f7a4 0 = .ok (.iconst 1, 1) := by decide +kernel
theorem dJ6_stringSize_0f7a4_1 : decode cJ6_stringSize_0f7a4 1 = .ok (.istore_n 1, 1) := by decide +kernel
theorem dJ6_stringSize_0f7a4_2 : decode cJ6_stringSize_0f7a4 2 = .ok (.iload_n 0, 1) := by decide +kernel
theorem dJ6_stringSize_0f7a4_3 : decode cJ6_stringSize_0f7a4 3 = .ok (.ifCond .lt 8, 3) := by decide +kernel
theorem dJ6_stringSize_0f7a4_6 : decode cJ6_stringSize_0f7a4 6 = .ok (.iconst 0, 1) := by decide +kernel
theorem dJ6_stringSize_0f7a4_7 : decode cJ6_stringSize_0f7a4 7 = .ok (.istore_n 1, 1) := by decide +kernel
theorem dJ6_stringSize_0f7a4_8 : decode cJ6_stringSize_0f7a4 8 = .ok (.iload_n 0, 1) := by decide +kernel
theorem dJ6_stringSize_0f7a4_9 : decode cJ6_stringSize_0f7a4 9 = .ok (.ineg, 1) := by decide +kernel
theorem dJ6_stringSize_0f7a4_10 : decode cJ6_stringSize_0f7a4 10 = .ok (.istore_n 0, 1) := by decide +kernel
theorem dJ6_stringSize_0f7a4_11 : decode cJ6_stringSize_0f7a4 11 = .ok (.bipush (-10), 2) := by decide +kernel
theorem dJ6_stringSize_0f7a4_13 : decode cJ6_stringSize_0f7a4 13 = .ok (.istore_n 2, 1) := by decide +kernel
theorem dJ6_stringSize_0f7a4_14 : decode cJ6_stringSize_0f7a4 14 = .ok (.iconst 1, 1) := by decide +kernel
theorem dJ6_stringSize_0f7a4_15 : decode cJ6_stringSize_0f7a4 15 = .ok (.istore_n 3, 1) := by decide +kernel
theorem dJ6_stringSize_0f7a4_16 : decode cJ6_stringSize_0f7a4 16 = .ok (.iload_n 3, 1) := by decide +kernel
theorem dJ6_stringSize_0f7a4_17 : decode cJ6_stringSize_0f7a4 17 = .ok (.bipush 10, 2) := by decide +kernel
theorem dJ6_stringSize_0f7a4_19 : decode cJ6_stringSize_0f7a4 19 = .ok (.if_icmp .ge 23, 3) := by decide +kernel
theorem dJ6_stringSize_0f7a4_22 : decode cJ6_stringSize_0f7a4 22 = .ok (.iload_n 0, 1) := by decide +kernel
theorem dJ6_stringSize_0f7a4_23 : decode cJ6_stringSize_0f7a4 23 = .ok (.iload_n 2, 1) := by decide +kernel
theorem dJ6_stringSize_0f7a4_24 : decode cJ6_stringSize_0f7a4 24 = .ok (.if_icmp .le 7, 3) := by decide +kernel
theorem dJ6_stringSize_0f7a4_27 : decode cJ6_stringSize_0f7a4 27 = .ok (.iload_n 3, 1) := by decide +kernel
theorem dJ6_stringSize_0f7a4_28 : decode cJ6_stringSize_0f7a4 28 = .ok (.iload_n 1, 1) := by decide +kernel
theorem dJ6_stringSize_0f7a4_29 : decode cJ6_stringSize_0f7a4 29 = .ok (.iadd, 1) := by decide +kernel
theorem dJ6_stringSize_0f7a4_30 : decode cJ6_stringSize_0f7a4 30 = .ok (.ireturn, 1) := by decide +kernel
theorem dJ6_stringSize_0f7a4_31 : decode cJ6_stringSize_0f7a4 31 = .ok (.bipush 10, 2) := by decide +kernel
theorem dJ6_stringSize_0f7a4_33 : decode cJ6_stringSize_0f7a4 33 = .ok (.iload_n 2, 1) := by decide +kernel
theorem dJ6_stringSize_0f7a4_34 : decode cJ6_stringSize_0f7a4 34 = .ok (.imul, 1) := by decide +kernel
theorem dJ6_stringSize_0f7a4_35 : decode cJ6_stringSize_0f7a4 35 = .ok (.istore_n 2, 1) := by decide +kernel
theorem dJ6_stringSize_0f7a4_36 : decode cJ6_stringSize_0f7a4 36 = .ok (.iinc 3 1, 3) := by decide +kernel
theorem dJ6_stringSize_0f7a4_39 : decode cJ6_stringSize_0f7a4 39 = .ok (.goto (-23), 3) := by decide +kernel
theorem dJ6_stringSize_0f7a4_42 : decode cJ6_stringSize_0f7a4 42 = .ok (.bipush 10, 2) := by decide +kernel
theorem dJ6_stringSize_0f7a4_44 : decode cJ6_stringSize_0f7a4 44 = .ok (.iload_n 1, 1) := by decide +kernel
theorem dJ6_stringSize_0f7a4_45 : decode cJ6_stringSize_0f7a4 45 = .ok (.iadd, 1) := by decide +kernel
theorem dJ6_stringSize_0f7a4_46 : decode cJ6_stringSize_0f7a4 46 = .ok (.ireturn, 1) := by decide +kernel
theorem dJ9_max_7cf53_0 : decode cJ9_max_7cf53 0 = .ok (.iload_n 0, 1) := by decide +kernel
theorem dJ9_max_7cf53_1 : decode cJ9_max_7cf53 1 = .ok (.iload_n 1, 1) := by decide +kernel
theorem dJ9_max_7cf53_2 : decode cJ9_max_7cf53 2 = .ok (.if_icmp .lt 7, 3) := by decide +kernel
theorem dJ9_max_7cf53_5 : decode cJ9_max_7cf53 5 = .ok (.iload_n 0, 1) := by decide +kernel
theorem dJ9_max_7cf53_6 : decode cJ9_max_7cf53 6 = .ok (.goto 4, 3) := by decide +kernel
theorem dJ9_max_7cf53_9 : decode cJ9_max_7cf53 9 = .ok (.iload_n 1, 1) := by decide +kernel
theorem dJ9_max_7cf53_10 : decode cJ9_max_7cf53 10 = .ok (.ireturn, 1) := by decide +kernel
theorem dJ9_min_7cf53_0 : decode cJ9_min_7cf53 0 = .ok (.iload_n 0, 1) := by decide +kernel
theorem dJ9_min_7cf53_1 : decode cJ9_min_7cf53 1 = .ok (.iload_n 1, 1) := by decide +kernel
theorem dJ9_min_7cf53_2 : decode cJ9_min_7cf53 2 = .ok (.if_icmp .gt 7, 3) := by decide +kernel
theorem dJ9_min_7cf53_5 : decode cJ9_min_7cf53 5 = .ok (.iload_n 0, 1) := by decide +kernel
theorem dJ9_min_7cf53_6 : decode cJ9_min_7cf53 6 = .ok (.goto 4, 3) := by decide +kernel
theorem dJ9_min_7cf53_9 : decode cJ9_min_7cf53 9 = .ok (.iload_n 1, 1) := by decide +kernel
theorem dJ9_min_7cf53_10 : decode cJ9_min_7cf53 10 = .ok (.ireturn, 1) := by decide +kernel
theorem dJ0_init_81219_0 : decode cJ0_init_81219 0 = .ok (.aload_n 0, 1) := by decide +kernel
theorem dJ0_init_81219_1 : decode cJ0_init_81219 1 = .ok (.aload_n 1, 1) := by decide +kernel
theorem dJ0_init_81219_2 : decode cJ0_init_81219 2 = .ok (.aconst_null, 1) := by decide +kernel
theorem dJ0_init_81219_3 : decode cJ0_init_81219 3 = .ok (.invokespecial 489, 3) := by decide +kernel
theorem dJ0_init_81219_6 : decode cJ0_init_81219 6 = .ok (.return_, 1) := by decide +kernel
theorem dJ0_length_8abf5_0 : decode cJ0_length_8abf5 0 = .ok (.aload_n 0, 1) := by decide +kernel
theorem dJ0_length_8abf5_1 : decode cJ0_length_8abf5 1 = .ok (.getfield 9, 3) := by decide +kernel
theorem dJ0_length_8abf5_4 : decode cJ0_length_8abf5 4 = .ok (.arraylength, 1) := by decide +kernel
theorem dJ0_length_8abf5_5 : decode cJ0_length_8abf5 5 = .ok (.aload_n 0, 1) := by decide +kernel
theorem dJ0_length_8abf5_6 : decode cJ0_length_8abf5 6 = .ok (.invokevirtual 335, 3) := by decide +kernel
theorem dJ0_length_8abf5_9 : decode cJ0_length_8abf5 9 = .ok (.ishr, 1) := by decide +kernel
theorem dJ0_length_8abf5_10 : decode cJ0_length_8abf5 10 = .ok (.ireturn, 1) := by decide +kernel
theorem dJ0_getBytes_840e7_0 : decode cJ0_getBytes_840e7 0 = .ok (.aload_n 0, 1) := by decide +kernel
theorem dJ0_getBytes_840e7_1 : decode cJ0_getBytes_840e7 1 = .ok (.invokevirtual 335, 3) := by decide +kernel
theorem dJ0_getBytes_840e7_4 : decode cJ0_getBytes_840e7 4 = .ok (.iload_n 3, 1) := by decide +kernel
theorem dJ0_getBytes_840e7_5 : decode cJ0_getBytes_840e7 5 = .ok (.if_icmp .ne 23, 3) := by decide +kernel
theorem dJ0_getBytes_840e7_8 : decode cJ0_getBytes_840e7 8 = .ok (.aload_n 0, 1) := by decide +kernel
theorem dJ0_getBytes_840e7_9 : decode cJ0_getBytes_840e7 9 = .ok (.getfield 9, 3) := by decide +kernel
theorem dJ0_getBytes_840e7_12 : decode cJ0_getBytes_840e7 12 = .ok (.iconst 0, 1) := by decide +kernel
theorem dJ0_getBytes_840e7_13 : decode cJ0_getBytes_840e7 13 = .ok (.aload_n 1, 1) := by decide +kernel
theorem dJ0_getBytes_840e7_14 : decode cJ0_getBytes_840e7 14 = .ok (.iload_n 2, 1) := by decide +kernel
theorem dJ0_getBytes_840e7_15 : decode cJ0_getBytes_840e7 15 = .ok (.iload_n 3, 1) := by decide +kernel
theorem dJ0_getBytes_840e7_16 : decode cJ0_getBytes_840e7 16 = .ok (.ishl, 1) := by decide +kernel
theorem dJ0_getBytes_840e7_17 : decode cJ0_getBytes_840e7 17 = .ok (.aload_n 0, 1) := by decide +kernel
theorem dJ0_getBytes_840e7_18 : decode cJ0_getBytes_840e7 18 = .ok (.getfield 9, 3) := by decide +kernel
theorem dJ0_getBytes_840e7_21 : decode cJ0_getBytes_840e7 21 = .ok (.arraylength, 1) := by decide +kernel
theorem dJ0_getBytes_840e7_22 : decode cJ0_getBytes_840e7 22 = .ok (.invokestatic 212, 3) := by decide +kernel
theorem dJ0_getBytes_840e7_25 : decode cJ0_getBytes_840e7 25 = .ok (.goto 18, 3) := by decide +kernel
theorem dJ0_getBytes_840e7_28 : decode cJ0_getBytes_840e7 28 = .ok (.aload_n 0, 1) := by decide +kernel
theorem dJ0_getBytes_840e7_29 : decode cJ0_getBytes_840e7 29 = .ok (.getfield 9, 3) := by decide +kernel
theorem dJ0_getBytes_840e7_32 : decode cJ0_getBytes_840e7 32 = .ok (.iconst 0, 1) := by decide +kernel
theorem dJ0_getBytes_840e7_33 : decode cJ0_getBytes_840e7 33 = .ok (.aload_n 1, 1) := by decide +kernel
theorem dJ0_getBytes_840e7_34 : decode cJ0_getBytes_840e7 34 = .ok (.iload_n 2, 1) := by decide +kernel
theorem dJ0_getBytes_840e7_35 : decode cJ0_getBytes_840e7 35 = .ok (.aload_n 0, 1) := by decide +kernel
theorem dJ0_getBytes_840e7_36 : decode cJ0_getBytes_840e7 36 = .ok (.getfield 9, 3) := by decide +kernel
theorem dJ0_getBytes_840e7_39 : decode cJ0_getBytes_840e7 39 = .ok (.arraylength, 1) := by decide +kernel
theorem dJ0_getBytes_840e7_40 : decode cJ0_getBytes_840e7 40 = .ok (.invokestatic 106, 3) := by decide +kernel
theorem dJ0_getBytes_840e7_43 : decode cJ0_getBytes_840e7 43 = .ok (.return_, 1) := by decide +kernel
theorem dJ0_init_db425_0 : decode cJ0_init_db425 0 = .ok (.aload_n 0, 1) := by decide +kernel
theorem dJ0_init_db425_1 : decode cJ0_init_db425 1 = .ok (.invokespecial 1, 3) := by decide +kernel
theorem dJ0_init_db425_4 : decode cJ0_init_db425 4 = .ok (.aload_n 1, 1) := by decide +kernel
theorem dJ0_init_db425_5 : decode cJ0_init_db425 5 = .ok (.invokevirtual 552, 3) := by decide +kernel
theorem dJ0_init_db425_8 : decode cJ0_init_db425 8 = .ok (.astore_n 3, 1) := by decide +kernel
theorem dJ0_init_db425_9 : decode cJ0_init_db425 9 = .ok (.aload_n 1, 1) := by decide +kernel
theorem dJ0_init_db425_10 : decode cJ0_init_db425 10 = .ok (.invokevirtual 549, 3) := by decide +kernel
theorem dJ0_init_db425_13 : decode cJ0_init_db425 13 = .ok (.istore 4, 2) := by decide +kernel
theorem dJ0_init_db425_15 : decode cJ0_init_db425 15 = .ok (.aload_n 1, 1) := by decide +kernel
theorem dJ0_init_db425_16 : decode cJ0_init_db425 16 = .ok (.invokevirtual 1047, 3) := by decide +kernel
theorem dJ0_init_db425_19 : decode cJ0_init_db425 19 = .ok (.ifCond .eq 22, 3) := by decide +kernel
theorem dJ0_init_db425_22 : decode cJ0_init_db425 22 = .ok (.aload_n 0, 1) := by decide +kernel
theorem dJ0_init_db425_23 : decode cJ0_init_db425 23 = .ok (.iconst 0, 1) := by decide +kernel
theorem dJ0_init_db425_24 : decode cJ0_init_db425 24 = .ok (.putfield 15, 3) := by decide +kernel
theorem dJ0_init_db425_27 : decode cJ0_init_db425 27 = .ok (.aload_n 0, 1) := by decide +kernel
theorem dJ0_init_db425_28 : decode cJ0_init_db425 28 = .ok (.aload_n 3, 1) := by decide +kernel
theorem dJ0_init_db425_29 : decode cJ0_init_db425 29 = .ok (.iconst 0, 1) := by decide +kernel
theorem dJ0_init_db425_30 : decode cJ0_init_db425 30 = .ok (.iload 4, 2) := by decide +kernel
theorem dJ0_init_db425_32 : decode cJ0_init_db425 32 = .ok (.invokestatic 54, 3) := by decide +kernel
theorem dJ0_init_db425_35 : decode cJ0_init_db425 35 = .ok (.putfield 9, 3) := by decide +kernel
theorem dJ0_init_db425_38 : decode cJ0_init_db425 38 = .ok (.goto 59, 3) := by decide +kernel
theorem dJ0_init_db425_41 : decode cJ0_init_db425 41 = .ok (.getstatic 38, 3) := by decide +kernel
theorem dJ0_init_db425_44 : decode cJ0_init_db425 44 = .ok (.ifCond .eq 35, 3) := by decide +kernel
theorem dJ0_init_db425_47 : decode cJ0_init_db425 47 = .ok (.aload_n 1, 1) := by decide +kernel
theorem dJ0_init_db425_48 : decode cJ0_init_db425 48 = .ok (.getfield 1048, 3) := by decide +kernel
theorem dJ0_init_db425_51 : decode cJ0_init_db425 51 = .ok (.ifCond .eq 28, 3) := by decide +kernel
theorem dJ0_init_db425_54 : decode cJ0_init_db425 54 = .ok (.aload_n 0, 1) := by decide +kernel
theorem dJ0_init_db425_55 : decode cJ0_init_db425 55 = .ok (.aload_n 3, 1) := by decide +kernel
theorem dJ0_init_db425_56 : decode cJ0_init_db425 56 = .ok (.iconst 0, 1) := by decide +kernel
theorem dJ0_init_db425_57 : decode cJ0_init_db425 57 = .ok (.iload 4, 2) := by decide +kernel
theorem dJ0_init_db425_59 : decode cJ0_init_db425 59 = .ok (.invokestatic 1051, 3) := by decide +kernel
theorem dJ0_init_db425_62 : decode cJ0_init_db425 62 = .ok (.putfield 9, 3) := by decide +kernel
theorem dJ0_init_db425_65 : decode cJ0_init_db425 65 = .ok (.aload_n 0, 1) := by decide +kernel
theorem dJ0_init_db425_66 : decode cJ0_init_db425 66 = .ok (.aload_n 0, 1) := by decide +kernel
theorem dJ0_init_db425_67 : decode cJ0_init_db425 67 = .ok (.getfield 9, 3) := by decide +kernel
theorem dJ0_init_db425_70 : decode cJ0_init_db425 70 = .ok (.iload 4, 2) := by decide +kernel
theorem dJ0_init_db425_72 : decode cJ0_init_db425 72 = .ok (.invokestatic 47, 3) := by decide +kernel
theorem dJ0_init_db425_75 : decode cJ0_init_db425 75 = .ok (.putfield 15, 3) := by decide +kernel
theorem dJ0_init_db425_78 : decode cJ0_init_db425 78 = .ok (.return_, 1) := by decide +kernel
theorem dJ0_init_db425_79 : decode cJ0_init_db425 79 = .ok (.aload_n 0, 1) := by decide +kernel
theorem dJ0_init_db425_80 : decode cJ0_init_db425 80 = .ok (.iconst 1, 1) := by decide +kernel
theorem dJ0_init_db425_81 : decode cJ0_init_db425 81 = .ok (.putfield 15, 3) := by decide +kernel
theorem dJ0_init_db425_84 : decode cJ0_init_db425 84 = .ok (.aload_n 0, 1) := by decide +kernel
theorem dJ0_init_db425_85 : decode cJ0_init_db425 85 = .ok (.aload_n 3, 1) := by decide +kernel
theorem dJ0_init_db425_86 : decode cJ0_init_db425 86 = .ok (.iconst 0, 1) := by decide +kernel
theorem dJ0_init_db425_87 : decode cJ0_init_db425 87 = .ok (.iload 4, 2) := by decide +kernel
theorem dJ0_init_db425_89 : decode cJ0_init_db425 89 = .ok (.iconst 1, 1) := by decide +kernel
theorem dJ0_init_db425_90 : decode cJ0_init_db425 90 = .ok (.ishl, 1) := by decide +kernel
theorem dJ0_init_db425_91 : decode cJ0_init_db425 91 = .ok (.invokestatic 54, 3) := by decide +kernel
theorem dJ0_init_db425_94 : decode cJ0_init_db425 94 = .ok (.putfield 9, 3) := by decide +kernel
theorem dJ0_init_db425_97 : decode cJ0_init_db425 97 = .ok (.return_, 1) := by decide +kernel
theorem dJ0_coder_7d493_0 : decode cJ0_coder_7d493 0 = .ok (.getstatic 38, 3) := by decide +kernel
theorem dJ0_coder_7d493_3 : decode cJ0_coder_7d493 3 = .ok (.ifCond .eq 10, 3) := by decide +kernel
theorem dJ0_coder_7d493_6 : decode cJ0_coder_7d493 6 = .ok (.aload_n 0, 1) := by decide +kernel
theorem dJ0_coder_7d493_7 : decode cJ0_coder_7d493 7 = .ok (.getfield 15, 3) := by decide +kernel
theorem dJ0_coder_7d493_10 : decode cJ0_coder_7d493 10 = .ok (.goto 4, 3) := by decide +kernel
theorem dJ0_coder_7d493_13 : decode cJ0_coder_7d493 13 = .ok (.iconst 1, 1) := by decide +kernel
theorem dJ0_coder_7d493_14 : decode cJ0_coder_7d493 14 = .ok (.ireturn, 1) := by decide +kernel
theorem dJ0_checkIndex_df160_0 : decode cJ0_checkIndex_df160 0 = .ok (.iload_n 0, 1) := by decide +kernel
theorem dJ0_checkIndex_df160_1 : decode cJ0_checkIndex_df160 1 = .ok (.iload_n 1, 1) := by decide +kernel
theorem dJ0_checkIndex_df160_2 : decode cJ0_checkIndex_df160 2 = .ok (.getstatic 1053, 3) := by decide +kernel
theorem dJ0_checkIndex_df160_5 : decode cJ0_checkIndex_df160 5 = .ok (.invokestatic 1059, 3) := by decide +kernel
theorem dJ0_checkIndex_df160_8 : decode cJ0_checkIndex_df160 8 = .ok (.pop, 1) := by decide +kernel
theorem dJ0_checkIndex_df160_9 : decode cJ0_checkIndex_df160 9 = .ok (.return_, 1) := by decide +kernel
theorem dJ0_checkBoundsOffCount_cabcc_0 : decode cJ0_checkBoundsOffCount_cabcc 0 = .ok (.iload_n 0, 1) := by decide +kernel
theorem dJ0_checkBoundsOffCount_cabcc_1 : decode cJ0_checkBoundsOffCount_cabcc 1 = .ok (.iload_n 1, 1) := by decide +kernel
theorem dJ0_checkBoundsOffCount_cabcc_2 : decode cJ0_checkBoundsOffCount_cabcc 2 = .ok (.iload_n 2, 1) := by decide +kernel
theorem dJ0_checkBoundsOffCount_cabcc_3 : decode cJ0_checkBoundsOffCount_cabcc 3 = .ok (.getstatic 1053, 3) := by decide +kernel
theorem dJ0_checkBoundsOffCount_cabcc_6 : decode cJ0_checkBoundsOffCount_cabcc 6 = .ok (.invokestatic 1065, 3) := by decide +kernel
theorem dJ0_checkBoundsOffCount_cabcc_9 : decode cJ0_checkBoundsOffCount_cabcc 9 = .ok (.ireturn, 1) := by decide +kernel
theorem dJ0_checkBoundsBeginEnd_23922_0 : decode cJ0_checkBoundsBeginEnd_23922 0 = .ok (.iload_n 0, 1) := by decide +kernel
theorem dJ0_checkBoundsBeginEnd_23922_1 : decode cJ0_checkBoundsBeginEnd_23922 1 = .ok (.iload_n 1, 1) := by decide +kernel
theorem dJ0_checkBoundsBeginEnd_23922_2 : decode cJ0_checkBoundsBeginEnd_23922 2 = .ok (.iload_n 2, 1) := by decide +kernel
theorem dJ0_checkBoundsBeginEnd_23922_3 : decode cJ0_checkBoundsBeginEnd_23922 3 = .ok (.getstatic 1053, 3) := by decide +kernel
theorem dJ0_checkBoundsBeginEnd_23922_6 : decode cJ0_checkBoundsBeginEnd_23922 6 = .ok (.invokestatic 1062, 3) := by decide +kernel
theorem dJ0_checkBoundsBeginEnd_23922_9 : decode cJ0_checkBoundsBeginEnd_23922 9 = .ok (.pop, 1) := by decide +kernel
theorem dJ0_checkBoundsBeginEnd_23922_10 : decode cJ0_checkBoundsBeginEnd_23922 10 = .ok (.return_, 1) := by decide +kernel
theorem dJ4_init_da8c8_0 : decode cJ4_init_da8c8 0 = .ok (.aload_n 0, 1) := by decide +kernel
theorem dJ4_init_da8c8_1 : decode cJ4_init_da8c8 1 = .ok (.bipush 16, 2) := by decide +kernel
theorem dJ4_init_da8c8_3 : decode cJ4_init_da8c8 3 = .ok (.invokespecial 1, 3) := by decide +kernel
theorem dJ4_init_da8c8_6 : decode cJ4_init_da8c8 6 = .ok (.return_, 1) := by decide +kernel
theorem dJ4_append_15ec4_0 : decode cJ4_append_15ec4 0 = .ok (.aload_n 0, 1) := by decide +kernel
theorem dJ4_append_15ec4_1 : decode cJ4_append_15ec4 1 = .ok (.aload_n 1, 1) := by decide +kernel
theorem dJ4_append_15ec4_2 : decode cJ4_append_15ec4 2 = .ok (.invokespecial 29, 3) := by decide +kernel
theorem dJ4_append_15ec4_5 : decode cJ4_append_15ec4 5 = .ok (.pop, 1) := by decide +kernel
theorem dJ4_append_15ec4_6 : decode cJ4_append_15ec4 6 = .ok (.aload_n 0, 1) := by decide +kernel
theorem dJ4_append_15ec4_7 : decode cJ4_append_15ec4 7 = .ok (.areturn, 1) := by decide +kernel
theorem dJ4_append_cf468_0 : decode cJ4_append_cf468 0 = .ok (.aload_n 0, 1) := by decide +kernel
theorem dJ4_append_cf468_1 : decode cJ4_append_cf468 1 = .ok (.iload_n 1, 1) := by decide +kernel
theorem dJ4_append_cf468_2 : decode cJ4_append_cf468 2 = .ok (.invokespecial 50, 3) := by decide +kernel
theorem dJ4_append_cf468_5 : decode cJ4_append_cf468 5 = .ok (.pop, 1) := by decide +kernel
theorem dJ4_append_cf468_6 : decode cJ4_append_cf468 6 = .ok (.aload_n 0, 1) := by decide +kernel
theorem dJ4_append_cf468_7 : decode cJ4_append_cf468 7 = .ok (.areturn, 1) := by decide +kernel
theorem dJ4_append_bf812_0 : decode cJ4_append_bf812 0 = .ok (.aload_n 0, 1) := by decide +kernel
theorem dJ4_append_bf812_1 : decode cJ4_append_bf812 1 = .ok (.iload_n 1, 1) := by decide +kernel
theorem dJ4_append_bf812_2 : decode cJ4_append_bf812 2 = .ok (.invokespecial 53, 3) := by decide +kernel
theorem dJ4_append_bf812_5 : decode cJ4_append_bf812 5 = .ok (.pop, 1) := by decide +kernel
theorem dJ4_append_bf812_6 : decode cJ4_append_bf812 6 = .ok (.aload_n 0, 1) := by decide +kernel
theorem dJ4_append_bf812_7 : decode cJ4_append_bf812 7 = .ok (.areturn, 1) := by decide +kernel
theorem dJ4_toString_0e30d_0 : decode cJ4_toString_0e30d 0 = .ok (.new 18, 3) := by decide +kernel
theorem dJ4_toString_0e30d_3 : decode cJ4_toString_0e30d 3 = .ok (.dup, 1) := by decide +kernel
theorem dJ4_toString_0e30d_4 : decode cJ4_toString_0e30d 4 = .ok (.aload_n 0, 1) := by decide +kernel
theorem dJ4_toString_0e30d_5 : decode cJ4_toString_0e30d 5 = .ok (.invokespecial 137, 3) := by decide +kernel
theorem dJ4_toString_0e30d_8 : decode cJ4_toString_0e30d 8 = .ok (.areturn, 1) := by decide +kernel
theorem dJ4_charAt_5068e_0 : decode cJ4_charAt_5068e 0 = .ok (.aload_n 0, 1) := by decide +kernel
theorem dJ4_charAt_5068e_1 : decode cJ4_charAt_5068e 1 = .ok (.iload_n 1, 1) := by decide +kernel
theorem dJ4_charAt_5068e_2 : decode cJ4_charAt_5068e 2 = .ok (.invokespecial 329, 3) := by decide +kernel
theorem dJ4_charAt_5068e_5 : decode cJ4_charAt_5068e 5 = .ok (.ireturn, 1) := by decide +kernel
theorem dJ4_setLength_d00df_0 : decode cJ4_setLength_d00df 0 = .ok (.aload_n 0, 1) := by decide +kernel
theorem dJ4_setLength_d00df_1 : decode cJ4_setLength_d00df 1 = .ok (.iload_n 1, 1) := by decide +kernel
theorem dJ4_setLength_d00df_2 : decode cJ4_setLength_d00df 2 = .ok (.invokespecial 333, 3) := by decide +kernel
theorem dJ4_setLength_d00df_5 : decode cJ4_setLength_d00df 5 = .ok (.return_, 1) := by decide +kernel
theorem dJ4_length_8abf5_0 : decode cJ4_length_8abf5 0 = .ok (.aload_n 0, 1) := by decide +kernel
theorem dJ4_length_8abf5_1 : decode cJ4_length_8abf5 1 = .ok (.invokespecial 343, 3) := by decide +kernel
theorem dJ4_length_8abf5_4 : decode cJ4_length_8abf5 4 = .ok (.ireturn, 1) := by decide +kernel
theorem dJx7c733_init_d00df_0 : decode cJx7c733_init_d00df 0 = .ok (.aload_n 0, 1) := by decide +kernel
theorem dJx7c733_init_d00df_1 : decode cJx7c733_init_d00df 1 = .ok (.new 10, 3) := by decide +kernel
theorem dJx7c733_init_d00df_4 : decode cJx7c733_init_d00df 4 = .ok (.dup, 1) := by decide +kernel
theorem dJx7c733_init_d00df_5 : decode cJx7c733_init_d00df 5 = .ok (.invokespecial 12, 3) := by decide +kernel
theorem dJx7c733_init_d00df_8 : decode cJx7c733_init_d00df 8 = .ok (.ldc 13, 2) := by decide +kernel
theorem dJx7c733_init_d00df_10 : decode cJx7c733_init_d00df 10 = .ok (.invokevirtual 15, 3) := by decide +kernel
theorem dJx7c733_init_d00df_13 : decode cJx7c733_init_d00df 13 = .ok (.iload_n 1, 1) := by decide +kernel
theorem dJx7c733_init_d00df_14 : decode cJx7c733_init_d00df 14 = .ok (.invokevirtual 19, 3) := by decide +kernel
theorem dJx7c733_init_d00df_17 : decode cJx7c733_init_d00df 17 = .ok (.invokevirtual 22, 3) := by decide +kernel
theorem dJx7c733_init_d00df_20 : decode cJx7c733_init_d00df 20 = .ok (.invokespecial 7, 3) := by decide +kernel
theorem dJx7c733_init_d00df_23 : decode cJx7c733_init_d00df 23 = .ok (.return_, 1) := by decide +kernel
theorem dJ1_canEncode_fc78d_0 : decode cJ1_canEncode_fc78d 0 = .ok (.iload_n 0, 1) := by decide +kernel
theorem dJ1_canEncode_fc78d_1 : decode cJ1_canEncode_fc78d 1 = .ok (.sipush 255, 3) := by decide +kernel
theorem dJ1_canEncode_fc78d_4 : decode cJ1_canEncode_fc78d 4 = .ok (.if_icmp .gt 7, 3) := by decide +kernel
theorem dJ1_canEncode_fc78d_7 : decode cJ1_canEncode_fc78d 7 = .ok (.iconst 1, 1) := by decide +kernel
theorem dJ1_canEncode_fc78d_8 : decode cJ1_canEncode_fc78d 8 = .ok (.goto 4, 3) := by decide +kernel
theorem dJ1_canEncode_fc78d_11 : decode cJ1_canEncode_fc78d 11 = .ok (.iconst 0, 1) := by decide +kernel
theorem dJ1_canEncode_fc78d_12 : decode cJ1_canEncode_fc78d 12 = .ok (.ireturn, 1) := by decide +kernel
theorem dJ1_fillNull_b72d1_0 : decode cJ1_fillNull_b72d1 0 = .ok (.aload_n 0, 1) := by decide +kernel
theorem dJ1_fillNull_b72d1_1 : decode cJ1_fillNull_b72d1 1 = .ok (.iload_n 1, 1) := by decide +kernel
theorem dJ1_fillNull_b72d1_2 : decode cJ1_fillNull_b72d1 2 = .ok (.iload_n 2, 1) := by decide +kernel
theorem dJ1_fillNull_b72d1_3 : decode cJ1_fillNull_b72d1 3 = .ok (.iconst 0, 1) := by decide +kernel
theorem dJ1_fillNull_b72d1_4 : decode cJ1_fillNull_b72d1 4 = .ok (.invokestatic 236, 3) := by decide +kernel
theorem dJ1_fillNull_b72d1_7 : decode cJ1_fillNull_b72d1 7 = .ok (.return_, 1) := by decide +kernel
theorem dJ1_inflate_0e8fd_0 : decode cJ1_inflate_0e8fd 0 = .ok (.aload_n 0, 1) := by decide +kernel
theorem dJ1_inflate_0e8fd_1 : decode cJ1_inflate_0e8fd 1 = .ok (.iload_n 1, 1) := by decide +kernel
theorem dJ1_inflate_0e8fd_2 : decode cJ1_inflate_0e8fd 2 = .ok (.aload_n 2, 1) := by decide +kernel
theorem dJ1_inflate_0e8fd_3 : decode cJ1_inflate_0e8fd 3 = .ok (.iload_n 3, 1) := by decide +kernel
theorem dJ1_inflate_0e8fd_4 : decode cJ1_inflate_0e8fd 4 = .ok (.iload 4, 2) := by decide +kernel
theorem dJ1_inflate_0e8fd_6 : decode cJ1_inflate_0e8fd 6 = .ok (.invokestatic 240, 3) := by decide +kernel
theorem dJ1_inflate_0e8fd_9 : decode cJ1_inflate_0e8fd 9 = .ok (.return_, 1) := by decide +kernel
theorem dJ2_newBytesFor_77867_0 : decode cJ2_newBytesFor_77867 0 = .ok (.iload_n 0, 1) := by decide +kernel
theorem dJ2_newBytesFor_77867_1 : decode cJ2_newBytesFor_77867 1 = .ok (.invokestatic 11, 3) := by decide +kernel
theorem dJ2_newBytesFor_77867_4 : decode cJ2_newBytesFor_77867 4 = .ok (.newarray .byte, 2) := by decide +kernel
theorem dJ2_newBytesFor_77867_6 : decode cJ2_newBytesFor_77867 6 = .ok (.areturn, 1) := by decide +kernel
theorem dJ2_newBytesLength_0f7a4_0 : decode cJ2_newBytesLength_0f7a4 0 = .ok (.iload_n 0, 1) := by decide +kernel
theorem dJ2_newBytesLength_0f7a4_1 : decode cJ2_newBytesLength_0f7a4 1 = .ok (.ifCond .ge 11, 3) := by decide +kernel
theorem dJ2_newBytesLength_0f7a4_4 : decode cJ2_newBytesLength_0f7a4 4 = .ok (.new 17, 3) := by decide +kernel
theorem dJ2_newBytesLength_0f7a4_7 : decode cJ2_newBytesLength_0f7a4 7 = .ok (.dup, 1) := by decide +kernel
theorem dJ2_newBytesLength_0f7a4_8 : decode cJ2_newBytesLength_0f7a4 8 = .ok (.invokespecial 19, 3) := by decide +kernel
theorem dJ2_newBytesLength_0f7a4_11 : decode cJ2_newBytesLength_0f7a4 11 = .ok (.athrow, 1) := by decide +kernel
theorem dJ2_newBytesLength_0f7a4_12 : decode cJ2_newBytesLength_0f7a4 12 = .ok (.iload_n 0, 1) := by decide +kernel
theorem dJ2_newBytesLength_0f7a4_13 : decode cJ2_newBytesLength_0f7a4 13 = .ok (.ldc 20, 2) := by decide +kernel
theorem dJ2_newBytesLength_0f7a4_15 : decode cJ2_newBytesLength_0f7a4 15 = .ok (.if_icmp .lt 40, 3) := by decide +kernel
theorem dJ2_newBytesLength_0f7a4_18 : decode cJ2_newBytesLength_0f7a4 18 = .ok (.new 21, 3) := by decide +kernel
theorem dJ2_newBytesLength_0f7a4_21 : decode cJ2_newBytesLength_0f7a4 21 = .ok (.dup, 1) := by decide +kernel
theorem dJ2_newBytesLength_0f7a4_22 : decode cJ2_newBytesLength_0f7a4 22 = .ok (.new 23, 3) := by decide +kernel
theorem dJ2_newBytesLength_0f7a4_25 : decode cJ2_newBytesLength_0f7a4 25 = .ok (.dup, 1) := by decide +kernel
theorem dJ2_newBytesLength_0f7a4_26 : decode cJ2_newBytesLength_0f7a4 26 = .ok (.invokespecial 25, 3) := by decide +kernel
theorem dJ2_newBytesLength_0f7a4_29 : decode cJ2_newBytesLength_0f7a4 29 = .ok (.ldc 26, 2) := by decide +kernel
theorem dJ2_newBytesLength_0f7a4_31 : decode cJ2_newBytesLength_0f7a4 31 = .ok (.invokevirtual 28, 3) := by decide +kernel
theorem dJ2_newBytesLength_0f7a4_34 : decode cJ2_newBytesLength_0f7a4 34 = .ok (.iload_n 0, 1) := by decide +kernel
theorem dJ2_newBytesLength_0f7a4_35 : decode cJ2_newBytesLength_0f7a4 35 = .ok (.invokevirtual 32, 3) := by decide +kernel
theorem dJ2_newBytesLength_0f7a4_38 : decode cJ2_newBytesLength_0f7a4 38 = .ok (.ldc 35, 2) := by decide +kernel
theorem dJ2_newBytesLength_0f7a4_40 : decode cJ2_newBytesLength_0f7a4 40 = .ok (.invokevirtual 28, 3) := by decide +kernel
theorem dJ2_newBytesLength_0f7a4_43 : decode cJ2_newBytesLength_0f7a4 43 = .ok (.ldc 20, 2) := by decide +kernel
theorem dJ2_newBytesLength_0f7a4_45 : decode cJ2_newBytesLength_0f7a4 45 = .ok (.invokevirtual 32, 3) := by decide +kernel
theorem dJ2_newBytesLength_0f7a4_48 : decode cJ2_newBytesLength_0f7a4 48 = .ok (.invokevirtual 37, 3) := by decide +kernel
theorem dJ2_newBytesLength_0f7a4_51 : decode cJ2_newBytesLength_0f7a4 51 = .ok (.invokespecial 41, 3) := by decide +kernel
theorem dJ2_newBytesLength_0f7a4_54 : decode cJ2_newBytesLength_0f7a4 54 = .ok (.athrow, 1) := by decide +kernel
theorem dJ2_newBytesLength_0f7a4_55 : decode cJ2_newBytesLength_0f7a4 55 = .ok (.iload_n 0, 1) := by decide +kernel
theorem dJ2_newBytesLength_0f7a4_56 : decode cJ2_newBytesLength_0f7a4 56 = .ok (.iconst 1, 1) := by decide +kernel
theorem dJ2_newBytesLength_0f7a4_57 : decode cJ2_newBytesLength_0f7a4 57 = .ok (.ishl, 1) := by decide +kernel
theorem dJ2_newBytesLength_0f7a4_58 : decode cJ2_newBytesLength_0f7a4 58 = .ok (.ireturn, 1) := by decide +kernel
theorem dJ2_putChar_b72d1_0 : decode cJ2_putChar_b72d1 0 = .ok (.getstatic 44, 3) := by decide +kernel
theorem dJ2_putChar_b72d1_3 : decode cJ2_putChar_b72d1 3 = .ok (.ifCond .ne 25, 3) := by decide +kernel
theorem dJ2_putChar_b72d1_6 : decode cJ2_putChar_b72d1 6 = .ok (.iload_n 1, 1) := by decide +kernel
theorem dJ2_putChar_b72d1_7 : decode cJ2_putChar_b72d1 7 = .ok (.ifCond .lt 11, 3) := by decide +kernel
theorem dJ2_putChar_b72d1_10 : decode cJ2_putChar_b72d1 10 = .ok (.iload_n 1, 1) := by decide +kernel
theorem dJ2_putChar_b72d1_11 : decode cJ2_putChar_b72d1 11 = .ok (.aload_n 0, 1) := by decide +kernel
theorem dJ2_putChar_b72d1_12 : decode cJ2_putChar_b72d1 12 = .ok (.invokestatic 48, 3) := by decide +kernel
theorem dJ2_putChar_b72d1_15 : decode cJ2_putChar_b72d1 15 = .ok (.if_icmp .lt 13, 3) := by decide +kernel
theorem dJ2_putChar_b72d1_18 : decode cJ2_putChar_b72d1 18 = .ok (.new 52, 3) := by decide +kernel
theorem dJ2_putChar_b72d1_21 : decode cJ2_putChar_b72d1 21 = .ok (.dup, 1) := by decide +kernel
theorem dJ2_putChar_b72d1_22 : decode cJ2_putChar_b72d1 22 = .ok (.ldc 54, 2) := by decide +kernel
theorem dJ2_putChar_b72d1_24 : decode cJ2_putChar_b72d1 24 = .ok (.invokespecial 56, 3) := by decide +kernel
theorem dJ2_putChar_b72d1_27 : decode cJ2_putChar_b72d1 27 = .ok (.athrow, 1) := by decide +kernel
theorem dJ2_putChar_b72d1_28 : decode cJ2_putChar_b72d1 28 = .ok (.iload_n 1, 1) := by decide +kernel
theorem dJ2_putChar_b72d1_29 : decode cJ2_putChar_b72d1 29 = .ok (.iconst 1, 1) := by decide +kernel
theorem dJ2_putChar_b72d1_30 : decode cJ2_putChar_b72d1 30 = .ok (.ishl, 1) := by decide +kernel
theorem dJ2_putChar_b72d1_31 : decode cJ2_putChar_b72d1 31 = .ok (.istore_n 1, 1) := by decide +kernel
theorem dJ2_putChar_b72d1_32 : decode cJ2_putChar_b72d1 32 = .ok (.aload_n 0, 1) := by decide +kernel
theorem dJ2_putChar_b72d1_33 : decode cJ2_putChar_b72d1 33 = .ok (.iload_n 1, 1) := by decide +kernel
theorem dJ2_putChar_b72d1_34 : decode cJ2_putChar_b72d1 34 = .ok (.iinc 1 1, 3) := by decide +kernel
theorem dJ2_putChar_b72d1_37 : decode cJ2_putChar_b72d1 37 = .ok (.iload_n 2, 1) := by decide +kernel
theorem dJ2_putChar_b72d1_38 : decode cJ2_putChar_b72d1 38 = .ok (.getstatic 59, 3) := by decide +kernel
theorem dJ2_putChar_b72d1_41 : decode cJ2_putChar_b72d1 41 = .ok (.ishr, 1) := by decide +kernel
theorem dJ2_putChar_b72d1_42 : decode cJ2_putChar_b72d1 42 = .ok (.i2b, 1) := by decide +kernel
theorem dJ2_putChar_b72d1_43 : decode cJ2_putChar_b72d1 43 = .ok (.bastore, 1) := by decide +kernel
theorem dJ2_putChar_b72d1_44 : decode cJ2_putChar_b72d1 44 = .ok (.aload_n 0, 1) := by decide +kernel
theorem dJ2_putChar_b72d1_45 : decode cJ2_putChar_b72d1 45 = .ok (.iload_n 1, 1) := by decide +kernel
theorem dJ2_putChar_b72d1_46 : decode cJ2_putChar_b72d1 46 = .ok (.iload_n 2, 1) := by decide +kernel
theorem dJ2_putChar_b72d1_47 : decode cJ2_putChar_b72d1 47 = .ok (.getstatic 63, 3) := by decide +kernel
theorem dJ2_putChar_b72d1_50 : decode cJ2_putChar_b72d1 50 = .ok (.ishr, 1) := by decide +kernel
theorem dJ2_putChar_b72d1_51 : decode cJ2_putChar_b72d1 51 = .ok (.i2b, 1) := by decide +kernel
theorem dJ2_putChar_b72d1_52 : decode cJ2_putChar_b72d1 52 = .ok (.bastore, 1) := by decide +kernel
theorem dJ2_putChar_b72d1_53 : decode cJ2_putChar_b72d1 53 = .ok (.return_, 1) := by decide +kernel
theorem dJ2_getChar_3b067_0 : decode cJ2_getChar_3b067 0 = .ok (.getstatic 44, 3) := by decide +kernel
theorem dJ2_getChar_3b067_3 : decode cJ2_getChar_3b067 3 = .ok (.ifCond .ne 25, 3) := by decide +kernel
theorem dJ2_getChar_3b067_6 : decode cJ2_getChar_3b067 6 = .ok (.iload_n 1, 1) := by decide +kernel
theorem dJ2_getChar_3b067_7 : decode cJ2_getChar_3b067 7 = .ok (.ifCond .lt 11, 3) := by decide +kernel
theorem dJ2_getChar_3b067_10 : decode cJ2_getChar_3b067 10 = .ok (.iload_n 1, 1) := by decide +kernel
theorem dJ2_getChar_3b067_11 : decode cJ2_getChar_3b067 11 = .ok (.aload_n 0, 1) := by decide +kernel
theorem dJ2_getChar_3b067_12 : decode cJ2_getChar_3b067 12 = .ok (.invokestatic 48, 3) := by decide +kernel
theorem dJ2_getChar_3b067_15 : decode cJ2_getChar_3b067 15 = .ok (.if_icmp .lt 13, 3) := by decide +kernel
theorem dJ2_getChar_3b067_18 : decode cJ2_getChar_3b067 18 = .ok (.new 52, 3) := by decide +kernel
theorem dJ2_getChar_3b067_21 : decode cJ2_getChar_3b067 21 = .ok (.dup, 1) := by decide +kernel
theorem dJ2_getChar_3b067_22 : decode cJ2_getChar_3b067 22 = .ok (.ldc 54, 2) := by decide +kernel
theorem dJ2_getChar_3b067_24 : decode cJ2_getChar_3b067 24 = .ok (.invokespecial 56, 3) := by decide +kernel
theorem dJ2_getChar_3b067_27 : decode cJ2_getChar_3b067 27 = .ok (.athrow, 1) := by decide +kernel
theorem dJ2_getChar_3b067_28 : decode cJ2_getChar_3b067 28 = .ok (.iload_n 1, 1) := by decide +kernel
theorem dJ2_getChar_3b067_29 : decode cJ2_getChar_3b067 29 = .ok (.iconst 1, 1) := by decide +kernel
theorem dJ2_getChar_3b067_30 : decode cJ2_getChar_3b067 30 = .ok (.ishl, 1) := by decide +kernel
theorem dJ2_getChar_3b067_31 : decode cJ2_getChar_3b067 31 = .ok (.istore_n 1, 1) := by decide +kernel
theorem dJ2_getChar_3b067_32 : decode cJ2_getChar_3b067 32 = .ok (.aload_n 0, 1) := by decide +kernel
theorem dJ2_getChar_3b067_33 : decode cJ2_getChar_3b067 33 = .ok (.iload_n 1, 1) := by decide +kernel
theorem dJ2_getChar_3b067_34 : decode cJ2_getChar_3b067 34 = .ok (.iinc 1 1, 3) := by decide +kernel
theorem dJ2_getChar_3b067_37 : decode cJ2_getChar_3b067 37 = .ok (.baload, 1) := by decide +kernel
theorem dJ2_getChar_3b067_38 : decode cJ2_getChar_3b067 38 = .ok (.sipush 255, 3) := by decide +kernel
theorem dJ2_getChar_3b067_41 : decode cJ2_getChar_3b067 41 = .ok (.iand, 1) := by decide +kernel
theorem dJ2_getChar_3b067_42 : decode cJ2_getChar_3b067 42 = .ok (.getstatic 59, 3) := by decide +kernel
theorem dJ2_getChar_3b067_45 : decode cJ2_getChar_3b067 45 = .ok (.ishl, 1) := by decide +kernel
theorem dJ2_getChar_3b067_46 : decode cJ2_getChar_3b067 46 = .ok (.aload_n 0, 1) := by decide +kernel
theorem dJ2_getChar_3b067_47 : decode cJ2_getChar_3b067 47 = .ok (.iload_n 1, 1) := by decide +kernel
theorem dJ2_getChar_3b067_48 : decode cJ2_getChar_3b067 48 = .ok (.baload, 1) := by decide +kernel
theorem dJ2_getChar_3b067_49 : decode cJ2_getChar_3b067 49 = .ok (.sipush 255, 3) := by decide +kernel
theorem dJ2_getChar_3b067_52 : decode cJ2_getChar_3b067 52 = .ok (.iand, 1) := by decide +kernel
theorem dJ2_getChar_3b067_53 : decode cJ2_getChar_3b067 53 = .ok (.getstatic 63, 3) := by decide +kernel
theorem dJ2_getChar_3b067_56 : decode cJ2_getChar_3b067 56 = .ok (.ishl, 1) := by decide +kernel
theorem dJ2_getChar_3b067_57 : decode cJ2_getChar_3b067 57 = .ok (.ior, 1) := by decide +kernel
theorem dJ2_getChar_3b067_58 : decode cJ2_getChar_3b067 58 = .ok (.i2c, 1) := by decide +kernel
theorem dJ2_getChar_3b067_59 : decode cJ2_getChar_3b067 59 = .ok (.ireturn, 1) := by decide +kernel
theorem dJ2_length_9d52b_0 : decode cJ2_length_9d52b 0 = .ok (.aload_n 0, 1) := by decide +kernel
theorem dJ2_length_9d52b_1 : decode cJ2_length_9d52b 1 = .ok (.arraylength, 1) := by decide +kernel
theorem dJ2_length_9d52b_2 : decode cJ2_length_9d52b 2 = .ok (.iconst 1, 1) := by decide +kernel
theorem dJ2_length_9d52b_3 : decode cJ2_length_9d52b 3 = .ok (.ishr, 1) := by decide +kernel
theorem dJ2_length_9d52b_4 : decode cJ2_length_9d52b 4 = .ok (.ireturn, 1) := by decide +kernel
theorem dJ2_coderFromArrayLen_85cad_0 : decode cJ2_coderFromArrayLen_85cad 0 = .ok (.iload_n 1, 1) := by decide +kernel
theorem dJ2_coderFromArrayLen_85cad_1 : decode cJ2_coderFromArrayLen_85cad 1 = .ok (.aload_n 0, 1) := by decide +kernel
theorem dJ2_coderFromArrayLen_85cad_2 : decode cJ2_coderFromArrayLen_85cad 2 = .ok (.arraylength, 1) := by decide +kernel
theorem dJ2_coderFromArrayLen_85cad_3 : decode cJ2_coderFromArrayLen_85cad 3 = .ok (.isub, 1) := by decide +kernel
theorem dJ2_coderFromArrayLen_85cad_4 : decode cJ2_coderFromArrayLen_85cad 4 = .ok (.bipush 31, 2) := by decide +kernel
theorem dJ2_coderFromArrayLen_85cad_6 : decode cJ2_coderFromArrayLen_85cad 6 = .ok (.iushr, 1) := by decide +kernel
theorem dJ2_coderFromArrayLen_85cad_7 : decode cJ2_coderFromArrayLen_85cad 7 = .ok (.i2b, 1) := by decide +kernel
theorem dJ2_coderFromArrayLen_85cad_8 : decode cJ2_coderFromArrayLen_85cad 8 = .ok (.ireturn, 1) := by decide +kernel
theorem dJ2_compress_39247_0 : decode cJ2_compress_39247 0 = .ok (.iload_n 2, 1) := by decide +kernel
theorem dJ2_compress_39247_1 : decode cJ2_compress_39247 1 = .ok (.newarray .byte, 2) := by decide +kernel
theorem dJ2_compress_39247_3 : decode cJ2_compress_39247 3 = .ok (.astore_n 3, 1) := by decide +kernel
theorem dJ2_compress_39247_4 : decode cJ2_compress_39247 4 = .ok (.aload_n 0, 1) := by decide +kernel
theorem dJ2_compress_39247_5 : decode cJ2_compress_39247 5 = .ok (.iload_n 1, 1) := by decide +kernel
theorem dJ2_compress_39247_6 : decode cJ2_compress_39247 6 = .ok (.aload_n 3, 1) := by decide +kernel
theorem dJ2_compress_39247_7 : decode cJ2_compress_39247 7 = .ok (.iconst 0, 1) := by decide +kernel
theorem dJ2_compress_39247_8 : decode cJ2_compress_39247 8 = .ok (.iload_n 2, 1) := by decide +kernel
theorem dJ2_compress_39247_9 : decode cJ2_compress_39247 9 = .ok (.invokestatic 123, 3) := by decide +kernel
theorem dJ2_compress_39247_12 : decode cJ2_compress_39247 12 = .ok (.istore 4, 2) := by decide +kernel
theorem dJ2_compress_39247_14 : decode cJ2_compress_39247 14 = .ok (.iload 4, 2) := by decide +kernel
theorem dJ2_compress_39247_16 : decode cJ2_compress_39247 16 = .ok (.iload_n 2, 1) := by decide +kernel
theorem dJ2_compress_39247_17 : decode cJ2_compress_39247 17 = .ok (.if_icmp .eq 47, 3) := by decide +kernel
theorem dJ2_compress_39247_20 : decode cJ2_compress_39247 20 = .ok (.aload_n 0, 1) := by decide +kernel
theorem dJ2_compress_39247_21 : decode cJ2_compress_39247 21 = .ok (.iload_n 1, 1) := by decide +kernel
theorem dJ2_compress_39247_22 : decode cJ2_compress_39247 22 = .ok (.iconst 1, 1) := by decide +kernel
theorem dJ2_compress_39247_23 : decode cJ2_compress_39247 23 = .ok (.ishl, 1) := by decide +kernel
theorem dJ2_compress_39247_24 : decode cJ2_compress_39247 24 = .ok (.iload_n 1, 1) := by decide +kernel
theorem dJ2_compress_39247_25 : decode cJ2_compress_39247 25 = .ok (.iload_n 2, 1) := by decide +kernel
theorem dJ2_compress_39247_26 : decode cJ2_compress_39247 26 = .ok (.iadd, 1) := by decide +kernel
theorem dJ2_compress_39247_27 : decode cJ2_compress_39247 27 = .ok (.invokestatic 11, 3) := by decide +kernel
theorem dJ2_compress_39247_30 : decode cJ2_compress_39247 30 = .ok (.invokestatic 126, 3) := by decide +kernel
theorem dJ2_compress_39247_33 : decode cJ2_compress_39247 33 = .ok (.astore 5, 2) := by decide +kernel
theorem dJ2_compress_39247_35 : decode cJ2_compress_39247 35 = .ok (.aload 5, 2) := by decide +kernel
theorem dJ2_compress_39247_37 : decode cJ2_compress_39247 37 = .ok (.iload 4, 2) := by decide +kernel
theorem dJ2_compress_39247_39 : decode cJ2_compress_39247 39 = .ok (.invokestatic 71, 3) := by decide +kernel
theorem dJ2_compress_39247_42 : decode cJ2_compress_39247 42 = .ok (.sipush 255, 3) := by decide +kernel
theorem dJ2_compress_39247_45 : decode cJ2_compress_39247 45 = .ok (.if_icmp .gt 16, 3) := by decide +kernel
theorem dJ2_compress_39247_48 : decode cJ2_compress_39247 48 = .ok (.aload 5, 2) := by decide +kernel
theorem dJ2_compress_39247_50 : decode cJ2_compress_39247 50 = .ok (.iconst 0, 1) := by decide +kernel
theorem dJ2_compress_39247_51 : decode cJ2_compress_39247 51 = .ok (.aload_n 3, 1) := by decide +kernel
theorem dJ2_compress_39247_52 : decode cJ2_compress_39247 52 = .ok (.iconst 0, 1) := by decide +kernel
theorem dJ2_compress_39247_53 : decode cJ2_compress_39247 53 = .ok (.iload_n 2, 1) := by decide +kernel
theorem dJ2_compress_39247_54 : decode cJ2_compress_39247 54 = .ok (.invokestatic 123, 3) := by decide +kernel
theorem dJ2_compress_39247_57 : decode cJ2_compress_39247 57 = .ok (.iload_n 2, 1) := by decide +kernel
theorem dJ2_compress_39247_58 : decode cJ2_compress_39247 58 = .ok (.if_icmp .eq 6, 3) := by decide +kernel
theorem dJ2_compress_39247_61 : decode cJ2_compress_39247 61 = .ok (.aload 5, 2) := by decide +kernel
theorem dJ2_compress_39247_63 : decode cJ2_compress_39247 63 = .ok (.areturn, 1) := by decide +kernel
theorem dJ2_compress_39247_64 : decode cJ2_compress_39247 64 = .ok (.aload_n 3, 1) := by decide +kernel
theorem dJ2_compress_39247_65 : decode cJ2_compress_39247 65 = .ok (.areturn, 1) := by decide +kernel
theorem dJ2_compress_5af95_0 : decode cJ2_compress_5af95 0 = .ok (.iload_n 1, 1) := by decide +kernel
theorem dJ2_compress_5af95_1 : decode cJ2_compress_5af95 1 = .ok (.iload 4, 2) := by decide +kernel
theorem dJ2_compress_5af95_3 : decode cJ2_compress_5af95 3 = .ok (.aload_n 0, 1) := by decide +kernel
theorem dJ2_compress_5af95_4 : decode cJ2_compress_5af95 4 = .ok (.invokestatic 173, 3) := by decide +kernel
theorem dJ2_compress_5af95_7 : decode cJ2_compress_5af95 7 = .ok (.iconst 0, 1) := by decide +kernel
theorem dJ2_compress_5af95_8 : decode cJ2_compress_5af95 8 = .ok (.istore 5, 2) := by decide +kernel
theorem dJ2_compress_5af95_10 : decode cJ2_compress_5af95 10 = .ok (.iload 5, 2) := by decide +kernel
theorem dJ2_compress_5af95_12 : decode cJ2_compress_5af95 12 = .ok (.iload 4, 2) := by decide +kernel
theorem dJ2_compress_5af95_14 : decode cJ2_compress_5af95 14 = .ok (.if_icmp .ge 39, 3) := by decide +kernel
theorem dJ2_compress_5af95_17 : decode cJ2_compress_5af95 17 = .ok (.aload_n 0, 1) := by decide +kernel
theorem dJ2_compress_5af95_18 : decode cJ2_compress_5af95 18 = .ok (.iload_n 1, 1) := by decide +kernel
theorem dJ2_compress_5af95_19 : decode cJ2_compress_5af95 19 = .ok (.invokestatic 71, 3) := by decide +kernel
theorem dJ2_compress_5af95_22 : decode cJ2_compress_5af95 22 = .ok (.istore 6, 2) := by decide +kernel
theorem dJ2_compress_5af95_24 : decode cJ2_compress_5af95 24 = .ok (.iload 6, 2) := by decide +kernel
theorem dJ2_compress_5af95_26 : decode cJ2_compress_5af95 26 = .ok (.sipush 255, 3) := by decide +kernel
theorem dJ2_compress_5af95_29 : decode cJ2_compress_5af95 29 = .ok (.if_icmp .le 6, 3) := by decide +kernel
theorem dJ2_compress_5af95_32 : decode cJ2_compress_5af95 32 = .ok (.iload 5, 2) := by decide +kernel
theorem dJ2_compress_5af95_34 : decode cJ2_compress_5af95 34 = .ok (.ireturn, 1) := by decide +kernel
theorem dJ2_compress_5af95_35 : decode cJ2_compress_5af95 35 = .ok (.aload_n 2, 1) := by decide +kernel
theorem dJ2_compress_5af95_36 : decode cJ2_compress_5af95 36 = .ok (.iload_n 3, 1) := by decide +kernel
theorem dJ2_compress_5af95_37 : decode cJ2_compress_5af95 37 = .ok (.iload 6, 2) := by decide +kernel
theorem dJ2_compress_5af95_39 : decode cJ2_compress_5af95 39 = .ok (.i2b, 1) := by decide +kernel
theorem dJ2_compress_5af95_40 : decode cJ2_compress_5af95 40 = .ok (.bastore, 1) := by decide +kernel
theorem dJ2_compress_5af95_41 : decode cJ2_compress_5af95 41 = .ok (.iinc 1 1, 3) := by decide +kernel
theorem dJ2_compress_5af95_44 : decode cJ2_compress_5af95 44 = .ok (.iinc 3 1, 3) := by decide +kernel
theorem dJ2_compress_5af95_47 : decode cJ2_compress_5af95 47 = .ok (.iinc 5 1, 3) := by decide +kernel
theorem dJ2_compress_5af95_50 : decode cJ2_compress_5af95 50 = .ok (.goto (-40), 3) := by decide +kernel
theorem dJ2_compress_5af95_53 : decode cJ2_compress_5af95 53 = .ok (.iload 4, 2) := by decide +kernel
theorem dJ2_compress_5af95_55 : decode cJ2_compress_5af95 55 = .ok (.ireturn, 1) := by decide +kernel
theorem dJ2_fillNull_b72d1_0 : decode cJ2_fillNull_b72d1 0 = .ok (.aload_n 0, 1) := by decide +kernel
theorem dJ2_fillNull_b72d1_1 : decode cJ2_fillNull_b72d1 1 = .ok (.iload_n 1, 1) := by decide +kernel
theorem dJ2_fillNull_b72d1_2 : decode cJ2_fillNull_b72d1 2 = .ok (.iconst 1, 1) := by decide +kernel
theorem dJ2_fillNull_b72d1_3 : decode cJ2_fillNull_b72d1 3 = .ok (.ishl, 1) := by decide +kernel
theorem dJ2_fillNull_b72d1_4 : decode cJ2_fillNull_b72d1 4 = .ok (.iload_n 2, 1) := by decide +kernel
theorem dJ2_fillNull_b72d1_5 : decode cJ2_fillNull_b72d1 5 = .ok (.iconst 1, 1) := by decide +kernel
theorem dJ2_fillNull_b72d1_6 : decode cJ2_fillNull_b72d1 6 = .ok (.ishl, 1) := by decide +kernel
theorem dJ2_fillNull_b72d1_7 : decode cJ2_fillNull_b72d1 7 = .ok (.iconst 0, 1) := by decide +kernel
theorem dJ2_fillNull_b72d1_8 : decode cJ2_fillNull_b72d1 8 = .ok (.invokestatic 380, 3) := by decide +kernel
theorem dJ2_fillNull_b72d1_11 : decode cJ2_fillNull_b72d1 11 = .ok (.return_, 1) := by decide +kernel
theorem dJ2_putCharSB_b72d1_0 : decode cJ2_putCharSB_b72d1 0 = .ok (.iload_n 1, 1) := by decide +kernel
theorem dJ2_putCharSB_b72d1_1 : decode cJ2_putCharSB_b72d1 1 = .ok (.aload_n 0, 1) := by decide +kernel
theorem dJ2_putCharSB_b72d1_2 : decode cJ2_putCharSB_b72d1 2 = .ok (.invokestatic 67, 3) := by decide +kernel
theorem dJ2_putCharSB_b72d1_5 : decode cJ2_putCharSB_b72d1 5 = .ok (.aload_n 0, 1) := by decide +kernel
theorem dJ2_putCharSB_b72d1_6 : decode cJ2_putCharSB_b72d1 6 = .ok (.iload_n 1, 1) := by decide +kernel
theorem dJ2_putCharSB_b72d1_7 : decode cJ2_putCharSB_b72d1 7 = .ok (.iload_n 2, 1) := by decide +kernel
theorem dJ2_putCharSB_b72d1_8 : decode cJ2_putCharSB_b72d1 8 = .ok (.invokestatic 111, 3) := by decide +kernel
theorem dJ2_putCharSB_b72d1_11 : decode cJ2_putCharSB_b72d1 11 = .ok (.return_, 1) := by decide +kernel
theorem dJ2_getChars_46870_0 : decode cJ2_getChars_46870 0 = .ok (.iload_n 1, 1) := by decide +kernel
theorem dJ2_getChars_46870_1 : decode cJ2_getChars_46870 1 = .ok (.iload_n 2, 1) := by decide +kernel
theorem dJ2_getChars_46870_2 : decode cJ2_getChars_46870 2 = .ok (.aload_n 3, 1) := by decide +kernel
theorem dJ2_getChars_46870_3 : decode cJ2_getChars_46870 3 = .ok (.invokestatic 96, 3) := by decide +kernel
theorem dJ2_getChars_46870_6 : decode cJ2_getChars_46870 6 = .ok (.iload_n 0, 1) := by decide +kernel
theorem dJ2_getChars_46870_7 : decode cJ2_getChars_46870 7 = .ok (.iload_n 2, 1) := by decide +kernel
theorem dJ2_getChars_46870_8 : decode cJ2_getChars_46870 8 = .ok (.aload_n 3, 1) := by decide +kernel
theorem dJ2_getChars_46870_9 : decode cJ2_getChars_46870 9 = .ok (.invokestatic 393, 3) := by decide +kernel
theorem dJ2_getChars_46870_12 : decode cJ2_getChars_46870 12 = .ok (.istore 4, 2) := by decide +kernel
theorem dJ2_getChars_46870_14 : decode cJ2_getChars_46870 14 = .ok (.getstatic 44, 3) := by decide +kernel
theorem dJ2_getChars_46870_17 : decode cJ2_getChars_46870 17 = .ok (.ifCond .ne 17, 3) := by decide +kernel
theorem dJ2_getChars_46870_20 : decode cJ2_getChars_46870 20 = .ok (.iload_n 1, 1) := by decide +kernel
theorem dJ2_getChars_46870_21 : decode cJ2_getChars_46870 21 = .ok (.iload 4, 2) := by decide +kernel
theorem dJ2_getChars_46870_23 : decode cJ2_getChars_46870 23 = .ok (.if_icmp .eq 11, 3) := by decide +kernel
theorem dJ2_getChars_46870_26 : decode cJ2_getChars_46870 26 = .ok (.new 52, 3) := by decide +kernel
theorem dJ2_getChars_46870_29 : decode cJ2_getChars_46870 29 = .ok (.dup, 1) := by decide +kernel
theorem dJ2_getChars_46870_30 : decode cJ2_getChars_46870 30 = .ok (.invokespecial 66, 3) := by decide +kernel
theorem dJ2_getChars_46870_33 : decode cJ2_getChars_46870 33 = .ok (.athrow, 1) := by decide +kernel
theorem dJ2_getChars_46870_34 : decode cJ2_getChars_46870 34 = .ok (.iload 4, 2) := by decide +kernel
theorem dJ2_getChars_46870_36 : decode cJ2_getChars_46870 36 = .ok (.ireturn, 1) := by decide +kernel
theorem dJ2_putCharsAt_cd4e5_0 : decode cJ2_putCharsAt_cd4e5 0 = .ok (.iload_n 1, 1) := by decide +kernel
theorem dJ2_putCharsAt_cd4e5_1 : decode cJ2_putCharsAt_cd4e5 1 = .ok (.iconst 4, 1) := by decide +kernel
theorem dJ2_putCharsAt_cd4e5_2 : decode cJ2_putCharsAt_cd4e5 2 = .ok (.iadd, 1) := by decide +kernel
theorem dJ2_putCharsAt_cd4e5_3 : decode cJ2_putCharsAt_cd4e5 3 = .ok (.istore 6, 2) := by decide +kernel
theorem dJ2_putCharsAt_cd4e5_5 : decode cJ2_putCharsAt_cd4e5 5 = .ok (.iload_n 1, 1) := by decide +kernel
theorem dJ2_putCharsAt_cd4e5_6 : decode cJ2_putCharsAt_cd4e5 6 = .ok (.iload 6, 2) := by decide +kernel
theorem dJ2_putCharsAt_cd4e5_8 : decode cJ2_putCharsAt_cd4e5 8 = .ok (.aload_n 0, 1) := by decide +kernel
theorem dJ2_putCharsAt_cd4e5_9 : decode cJ2_putCharsAt_cd4e5 9 = .ok (.invokestatic 96, 3) := by decide +kernel
theorem dJ2_putCharsAt_cd4e5_12 : decode cJ2_putCharsAt_cd4e5 12 = .ok (.aload_n 0, 1) := by decide +kernel
theorem dJ2_putCharsAt_cd4e5_13 : decode cJ2_putCharsAt_cd4e5 13 = .ok (.iload_n 1, 1) := by decide +kernel
theorem dJ2_putCharsAt_cd4e5_14 : decode cJ2_putCharsAt_cd4e5 14 = .ok (.iinc 1 1, 3) := by decide +kernel
theorem dJ2_putCharsAt_cd4e5_17 : decode cJ2_putCharsAt_cd4e5 17 = .ok (.iload_n 2, 1) := by decide +kernel
theorem dJ2_putCharsAt_cd4e5_18 : decode cJ2_putCharsAt_cd4e5 18 = .ok (.invokestatic 111, 3) := by decide +kernel
theorem dJ2_putCharsAt_cd4e5_21 : decode cJ2_putCharsAt_cd4e5 21 = .ok (.aload_n 0, 1) := by decide +kernel
theorem dJ2_putCharsAt_cd4e5_22 : decode cJ2_putCharsAt_cd4e5 22 = .ok (.iload_n 1, 1) := by decide +kernel
theorem dJ2_putCharsAt_cd4e5_23 : decode cJ2_putCharsAt_cd4e5 23 = .ok (.iinc 1 1, 3) := by decide +kernel
theorem dJ2_putCharsAt_cd4e5_26 : decode cJ2_putCharsAt_cd4e5 26 = .ok (.iload_n 3, 1) := by decide +kernel
theorem dJ2_putCharsAt_cd4e5_27 : decode cJ2_putCharsAt_cd4e5 27 = .ok (.invokestatic 111, 3) := by decide +kernel
theorem dJ2_putCharsAt_cd4e5_30 : decode cJ2_putCharsAt_cd4e5 30 = .ok (.aload_n 0, 1) := by decide +kernel
theorem dJ2_putCharsAt_cd4e5_31 : decode cJ2_putCharsAt_cd4e5 31 = .ok (.iload_n 1, 1) := by decide +kernel
theorem dJ2_putCharsAt_cd4e5_32 : decode cJ2_putCharsAt_cd4e5 32 = .ok (.iinc 1 1, 3) := by decide +kernel
theorem dJ2_putCharsAt_cd4e5_35 : decode cJ2_putCharsAt_cd4e5 35 = .ok (.iload 4, 2) := by decide +kernel
theorem dJ2_putCharsAt_cd4e5_37 : decode cJ2_putCharsAt_cd4e5 37 = .ok (.invokestatic 111, 3) := by decide +kernel
theorem dJ2_putCharsAt_cd4e5_40 : decode cJ2_putCharsAt_cd4e5 40 = .ok (.aload_n 0, 1) := by decide +kernel
theorem dJ2_putCharsAt_cd4e5_41 : decode cJ2_putCharsAt_cd4e5 41 = .ok (.iload_n 1, 1) := by decide +kernel
theorem dJ2_putCharsAt_cd4e5_42 : decode cJ2_putCharsAt_cd4e5 42 = .ok (.iinc 1 1, 3) := by decide +kernel
theorem dJ2_putCharsAt_cd4e5_45 : decode cJ2_putCharsAt_cd4e5 45 = .ok (.iload 5, 2) := by decide +kernel
theorem dJ2_putCharsAt_cd4e5_47 : decode cJ2_putCharsAt_cd4e5 47 = .ok (.invokestatic 111, 3) := by decide +kernel
theorem dJ2_putCharsAt_cd4e5_50 : decode cJ2_putCharsAt_cd4e5 50 = .ok (.getstatic 44, 3) := by decide +kernel
theorem dJ2_putCharsAt_cd4e5_53 : decode cJ2_putCharsAt_cd4e5 53 = .ok (.ifCond .ne 17, 3) := by decide +kernel
theorem dJ2_putCharsAt_cd4e5_56 : decode cJ2_putCharsAt_cd4e5 56 = .ok (.iload_n 1, 1) := by decide +kernel
theorem dJ2_putCharsAt_cd4e5_57 : decode cJ2_putCharsAt_cd4e5 57 = .ok (.iload 6, 2) := by decide +kernel
theorem dJ2_putCharsAt_cd4e5_59 : decode cJ2_putCharsAt_cd4e5 59 = .ok (.if_icmp .eq 11, 3) := by decide +kernel
theorem dJ2_putCharsAt_cd4e5_62 : decode cJ2_putCharsAt_cd4e5 62 = .ok (.new 52, 3) := by decide +kernel
theorem dJ2_putCharsAt_cd4e5_65 : decode cJ2_putCharsAt_cd4e5 65 = .ok (.dup, 1) := by decide +kernel
theorem dJ2_putCharsAt_cd4e5_66 : decode cJ2_putCharsAt_cd4e5 66 = .ok (.invokespecial 66, 3) := by decide +kernel
theorem dJ2_putCharsAt_cd4e5_69 : decode cJ2_putCharsAt_cd4e5 69 = .ok (.athrow, 1) := by decide +kernel
theorem dJ2_putCharsAt_cd4e5_70 : decode cJ2_putCharsAt_cd4e5 70 = .ok (.iload 6, 2) := by decide +kernel
theorem dJ2_putCharsAt_cd4e5_72 : decode cJ2_putCharsAt_cd4e5 72 = .ok (.ireturn, 1) := by decide +kernel
theorem dJ2_inflate_0e8fd_0 : decode cJ2_inflate_0e8fd 0 = .ok (.iload_n 3, 1) := by decide +kernel
theorem dJ2_inflate_0e8fd_1 : decode cJ2_inflate_0e8fd 1 = .ok (.iload 4, 2) := by decide +kernel
theorem dJ2_inflate_0e8fd_3 : decode cJ2_inflate_0e8fd 3 = .ok (.aload_n 2, 1) := by decide +kernel
theorem dJ2_inflate_0e8fd_4 : decode cJ2_inflate_0e8fd 4 = .ok (.invokestatic 173, 3) := by decide +kernel
theorem dJ2_inflate_0e8fd_7 : decode cJ2_inflate_0e8fd 7 = .ok (.iconst 0, 1) := by decide +kernel
theorem dJ2_inflate_0e8fd_8 : decode cJ2_inflate_0e8fd 8 = .ok (.istore 5, 2) := by decide +kernel
theorem dJ2_inflate_0e8fd_10 : decode cJ2_inflate_0e8fd 10 = .ok (.iload 5, 2) := by decide +kernel
theorem dJ2_inflate_0e8fd_12 : decode cJ2_inflate_0e8fd 12 = .ok (.iload 4, 2) := by decide +kernel
theorem dJ2_inflate_0e8fd_14 : decode cJ2_inflate_0e8fd 14 = .ok (.if_icmp .ge 27, 3) := by decide +kernel
theorem dJ2_inflate_0e8fd_17 : decode cJ2_inflate_0e8fd 17 = .ok (.aload_n 2, 1) := by decide +kernel
theorem dJ2_inflate_0e8fd_18 : decode cJ2_inflate_0e8fd 18 = .ok (.iload_n 3, 1) := by decide +kernel
theorem dJ2_inflate_0e8fd_19 : decode cJ2_inflate_0e8fd 19 = .ok (.iinc 3 1, 3) := by decide +kernel
theorem dJ2_inflate_0e8fd_22 : decode cJ2_inflate_0e8fd 22 = .ok (.aload_n 0, 1) := by decide +kernel
theorem dJ2_inflate_0e8fd_23 : decode cJ2_inflate_0e8fd 23 = .ok (.iload_n 1, 1) := by decide +kernel
theorem dJ2_inflate_0e8fd_24 : decode cJ2_inflate_0e8fd 24 = .ok (.iinc 1 1, 3) := by decide +kernel
theorem dJ2_inflate_0e8fd_27 : decode cJ2_inflate_0e8fd 27 = .ok (.baload, 1) := by decide +kernel
theorem dJ2_inflate_0e8fd_28 : decode cJ2_inflate_0e8fd 28 = .ok (.sipush 255, 3) := by decide +kernel
theorem dJ2_inflate_0e8fd_31 : decode cJ2_inflate_0e8fd 31 = .ok (.iand, 1) := by decide +kernel
theorem dJ2_inflate_0e8fd_32 : decode cJ2_inflate_0e8fd 32 = .ok (.invokestatic 111, 3) := by decide +kernel
theorem dJ2_inflate_0e8fd_35 : decode cJ2_inflate_0e8fd 35 = .ok (.iinc 5 1, 3) := by decide +kernel
theorem dJ2_inflate_0e8fd_38 : decode cJ2_inflate_0e8fd 38 = .ok (.goto (-28), 3) := by decide +kernel
theorem dJ2_inflate_0e8fd_41 : decode cJ2_inflate_0e8fd 41 = .ok (.return_, 1) := by decide +kernel
theorem dJ2_getChars_ba4f3_0 : decode cJ2_getChars_ba4f3 0 = .ok (.iload_n 1, 1) := by decide +kernel
theorem dJ2_getChars_ba4f3_1 : decode cJ2_getChars_ba4f3 1 = .ok (.istore 5, 2) := by decide +kernel
theorem dJ2_getChars_ba4f3_3 : decode cJ2_getChars_ba4f3 3 = .ok (.iload_n 0, 1) := by decide +kernel
theorem dJ2_getChars_ba4f3_4 : decode cJ2_getChars_ba4f3 4 = .ok (.ifCond .ge 7, 3) := by decide +kernel
theorem dJ2_getChars_ba4f3_7 : decode cJ2_getChars_ba4f3 7 = .ok (.iconst 1, 1) := by decide +kernel
theorem dJ2_getChars_ba4f3_8 : decode cJ2_getChars_ba4f3 8 = .ok (.goto 4, 3) := by decide +kernel
theorem dJ2_getChars_ba4f3_11 : decode cJ2_getChars_ba4f3 11 = .ok (.iconst 0, 1) := by decide +kernel
theorem dJ2_getChars_ba4f3_12 : decode cJ2_getChars_ba4f3 12 = .ok (.istore 6, 2) := by decide +kernel
theorem dJ2_getChars_ba4f3_14 : decode cJ2_getChars_ba4f3 14 = .ok (.iload 6, 2) := by decide +kernel
theorem dJ2_getChars_ba4f3_16 : decode cJ2_getChars_ba4f3 16 = .ok (.ifCond .ne 6, 3) := by decide +kernel
theorem dJ2_getChars_ba4f3_19 : decode cJ2_getChars_ba4f3 19 = .ok (.iload_n 0, 1) := by decide +kernel
theorem dJ2_getChars_ba4f3_20 : decode cJ2_getChars_ba4f3 20 = .ok (.ineg, 1) := by decide +kernel
theorem dJ2_getChars_ba4f3_21 : decode cJ2_getChars_ba4f3 21 = .ok (.istore_n 0, 1) := by decide +kernel
theorem dJ2_getChars_ba4f3_22 : decode cJ2_getChars_ba4f3 22 = .ok (.iload_n 0, 1) := by decide +kernel
theorem dJ2_getChars_ba4f3_23 : decode cJ2_getChars_ba4f3 23 = .ok (.bipush (-100), 2) := by decide +kernel
theorem dJ2_getChars_ba4f3_25 : decode cJ2_getChars_ba4f3 25 = .ok (.if_icmp .gt 51, 3) := by decide +kernel
theorem dJ2_getChars_ba4f3_28 : decode cJ2_getChars_ba4f3 28 = .ok (.iload_n 0, 1) := by decide +kernel
theorem dJ2_getChars_ba4f3_29 : decode cJ2_getChars_ba4f3 29 = .ok (.bipush 100, 2) := by decide +kernel
theorem dJ2_getChars_ba4f3_31 : decode cJ2_getChars_ba4f3 31 = .ok (.idiv, 1) := by decide +kernel
theorem dJ2_getChars_ba4f3_32 : decode cJ2_getChars_ba4f3 32 = .ok (.istore_n 3, 1) := by decide +kernel
theorem dJ2_getChars_ba4f3_33 : decode cJ2_getChars_ba4f3 33 = .ok (.iload_n 3, 1) := by decide +kernel
theorem dJ2_getChars_ba4f3_34 : decode cJ2_getChars_ba4f3 34 = .ok (.bipush 100, 2) := by decide +kernel
theorem dJ2_getChars_ba4f3_36 : decode cJ2_getChars_ba4f3 36 = .ok (.imul, 1) := by decide +kernel
theorem dJ2_getChars_ba4f3_37 : decode cJ2_getChars_ba4f3 37 = .ok (.iload_n 0, 1) := by decide +kernel
theorem dJ2_getChars_ba4f3_38 : decode cJ2_getChars_ba4f3 38 = .ok (.isub, 1) := by decide +kernel
theorem dJ2_getChars_ba4f3_39 : decode cJ2_getChars_ba4f3 39 = .ok (.istore 4, 2) := by decide +kernel
theorem dJ2_getChars_ba4f3_41 : decode cJ2_getChars_ba4f3 41 = .ok (.iload_n 3, 1) := by decide +kernel
theorem dJ2_getChars_ba4f3_42 : decode cJ2_getChars_ba4f3 42 = .ok (.istore_n 0, 1) := by decide +kernel
theorem dJ2_getChars_ba4f3_43 : decode cJ2_getChars_ba4f3 43 = .ok (.aload_n 2, 1) := by decide +kernel
theorem dJ2_getChars_ba4f3_44 : decode cJ2_getChars_ba4f3 44 = .ok (.iinc 5 (-1), 3) := by decide +kernel
theorem dJ2_getChars_ba4f3_47 : decode cJ2_getChars_ba4f3 47 = .ok (.iload 5, 2) := by decide +kernel
theorem dJ2_getChars_ba4f3_49 : decode cJ2_getChars_ba4f3 49 = .ok (.getstatic 403, 3) := by decide +kernel
theorem dJ2_getChars_ba4f3_52 : decode cJ2_getChars_ba4f3 52 = .ok (.iload 4, 2) := by decide +kernel
theorem dJ2_getChars_ba4f3_54 : decode cJ2_getChars_ba4f3 54 = .ok (.baload, 1) := by decide +kernel
theorem dJ2_getChars_ba4f3_55 : decode cJ2_getChars_ba4f3 55 = .ok (.invokestatic 111, 3) := by decide +kernel
theorem dJ2_getChars_ba4f3_58 : decode cJ2_getChars_ba4f3 58 = .ok (.aload_n 2, 1) := by decide +kernel
theorem dJ2_getChars_ba4f3_59 : decode cJ2_getChars_ba4f3 59 = .ok (.iinc 5 (-1), 3) := by decide +kernel
theorem dJ2_getChars_ba4f3_62 : decode cJ2_getChars_ba4f3 62 = .ok (.iload 5, 2) := by decide +kernel
theorem dJ2_getChars_ba4f3_64 : decode cJ2_getChars_ba4f3 64 = .ok (.getstatic 407, 3) := by decide +kernel
theorem dJ2_getChars_ba4f3_67 : decode cJ2_getChars_ba4f3 67 = .ok (.iload 4, 2) := by decide +kernel
theorem dJ2_getChars_ba4f3_69 : decode cJ2_getChars_ba4f3 69 = .ok (.baload, 1) := by decide +kernel
theorem dJ2_getChars_ba4f3_70 : decode cJ2_getChars_ba4f3 70 = .ok (.invokestatic 111, 3) := by decide +kernel
theorem dJ2_getChars_ba4f3_73 : decode cJ2_getChars_ba4f3 73 = .ok (.goto (-51), 3) := by decide +kernel
theorem dJ2_getChars_ba4f3_76 : decode cJ2_getChars_ba4f3 76 = .ok (.aload_n 2, 1) := by decide +kernel
theorem dJ2_getChars_ba4f3_77 : decode cJ2_getChars_ba4f3 77 = .ok (.iinc 5 (-1), 3) := by decide +kernel
theorem dJ2_getChars_ba4f3_80 : decode cJ2_getChars_ba4f3 80 = .ok (.iload 5, 2) := by decide +kernel
theorem dJ2_getChars_ba4f3_82 : decode cJ2_getChars_ba4f3 82 = .ok (.getstatic 403, 3) := by decide +kernel
theorem dJ2_getChars_ba4f3_85 : decode cJ2_getChars_ba4f3 85 = .ok (.iload_n 0, 1) := by decide +kernel
theorem dJ2_getChars_ba4f3_86 : decode cJ2_getChars_ba4f3 86 = .ok (.ineg, 1) := by decide +kernel
theorem dJ2_getChars_ba4f3_87 : decode cJ2_getChars_ba4f3 87 = .ok (.baload, 1) := by decide +kernel
theorem dJ2_getChars_ba4f3_88 : decode cJ2_getChars_ba4f3 88 = .ok (.invokestatic 111, 3) := by decide +kernel
theorem dJ2_getChars_ba4f3_91 : decode cJ2_getChars_ba4f3 91 = .ok (.iload_n 0, 1) := by decide +kernel
theorem dJ2_getChars_ba4f3_92 : decode cJ2_getChars_ba4f3 92 = .ok (.bipush (-9), 2) := by decide +kernel
theorem dJ2_getChars_ba4f3_94 : decode cJ2_getChars_ba4f3 94 = .ok (.if_icmp .ge 18, 3) := by decide +kernel
theorem dJ2_getChars_ba4f3_97 : decode cJ2_getChars_ba4f3 97 = .ok (.aload_n 2, 1) := by decide +kernel
theorem dJ2_getChars_ba4f3_98 : decode cJ2_getChars_ba4f3 98 = .ok (.iinc 5 (-1), 3) := by decide +kernel
theorem dJ2_getChars_ba4f3_101 : decode cJ2_getChars_ba4f3 101 = .ok (.iload 5, 2) := by decide +kernel
theorem dJ2_getChars_ba4f3_103 : decode cJ2_getChars_ba4f3 103 = .ok (.getstatic 407, 3) := by decide +kernel
theorem dJ2_getChars_ba4f3_106 : decode cJ2_getChars_ba4f3 106 = .ok (.iload_n 0, 1) := by decide +kernel
theorem dJ2_getChars_ba4f3_107 : decode cJ2_getChars_ba4f3 107 = .ok (.ineg, 1) := by decide +kernel
theorem dJ2_getChars_ba4f3_108 : decode cJ2_getChars_ba4f3 108 = .ok (.baload, 1) := by decide +kernel
theorem dJ2_getChars_ba4f3_109 : decode cJ2_getChars_ba4f3 109 = .ok (.invokestatic 111, 3) := by decide +kernel
theorem dJ2_getChars_ba4f3_112 : decode cJ2_getChars_ba4f3 112 = .ok (.iload 6, 2) := by decide +kernel
theorem dJ2_getChars_ba4f3_114 : decode cJ2_getChars_ba4f3 114 = .ok (.ifCond .eq 14, 3) := by decide +kernel
theorem dJ2_getChars_ba4f3_117 : decode cJ2_getChars_ba4f3 117 = .ok (.aload_n 2, 1) := by decide +kernel
theorem dJ2_getChars_ba4f3_118 : decode cJ2_getChars_ba4f3 118 = .ok (.iinc 5 (-1), 3) := by decide +kernel
theorem dJ2_getChars_ba4f3_121 : decode cJ2_getChars_ba4f3 121 = .ok (.iload 5, 2) := by decide +kernel
theorem dJ2_getChars_ba4f3_123 : decode cJ2_getChars_ba4f3 123 = .ok (.bipush 45, 2) := by decide +kernel
theorem dJ2_getChars_ba4f3_125 : decode cJ2_getChars_ba4f3 125 = .ok (.invokestatic 111, 3) := by decide +kernel
theorem dJ2_getChars_ba4f3_128 : decode cJ2_getChars_ba4f3 128 = .ok (.iload 5, 2) := by decide +kernel
theorem dJ2_getChars_ba4f3_130 : decode cJ2_getChars_ba4f3 130 = .ok (.ireturn, 1) := by decide +kernel
theorem dJ2_checkIndex_2214a_0 : decode cJ2_checkIndex_2214a 0 = .ok (.iload_n 0, 1) := by decide +kernel
theorem dJ2_checkIndex_2214a_1 : decode cJ2_checkIndex_2214a 1 = .ok (.aload_n 1, 1) := by decide +kernel
theorem dJ2_checkIndex_2214a_2 : decode cJ2_checkIndex_2214a 2 = .ok (.invokestatic 48, 3) := by decide +kernel
theorem dJ2_checkIndex_2214a_5 : decode cJ2_checkIndex_2214a 5 = .ok (.invokestatic 414, 3) := by decide +kernel
theorem dJ2_checkIndex_2214a_8 : decode cJ2_checkIndex_2214a 8 = .ok (.return_, 1) := by decide +kernel
theorem dJ2_checkBoundsBeginEnd_d044e_0 : decode cJ2_checkBoundsBeginEnd_d044e 0 = .ok (.iload_n 0, 1) := by decide +kernel
theorem dJ2_checkBoundsBeginEnd_d044e_1 : decode cJ2_checkBoundsBeginEnd_d044e 1 = .ok (.iload_n 1, 1) := by decide +kernel
theorem dJ2_checkBoundsBeginEnd_d044e_2 : decode cJ2_checkBoundsBeginEnd_d044e 2 = .ok (.aload_n 2, 1) := by decide +kernel
theorem dJ2_checkBoundsBeginEnd_d044e_3 : decode cJ2_checkBoundsBeginEnd_d044e 3 = .ok (.invokestatic 48, 3) := by decide +kernel
theorem dJ2_checkBoundsBeginEnd_d044e_6 : decode cJ2_checkBoundsBeginEnd_d044e 6 = .ok (.invokestatic 241, 3) := by decide +kernel
theorem dJ2_checkBoundsBeginEnd_d044e_9 : decode cJ2_checkBoundsBeginEnd_d044e 9 = .ok (.return_, 1) := by decide +kernel
theorem dJ2_checkBoundsOffCount_d044e_0 : decode cJ2_checkBoundsOffCount_d044e 0 = .ok (.iload_n 0, 1) := by decide +kernel
theorem dJ2_checkBoundsOffCount_d044e_1 : decode cJ2_checkBoundsOffCount_d044e 1 = .ok (.iload_n 1, 1) := by decide +kernel
theorem dJ2_checkBoundsOffCount_d044e_2 : decode cJ2_checkBoundsOffCount_d044e 2 = .ok (.aload_n 2, 1) := by decide +kernel
theorem dJ2_checkBoundsOffCount_d044e_3 : decode cJ2_checkBoundsOffCount_d044e 3 = .ok (.invokestatic 48, 3) := by decide +kernel
theorem dJ2_checkBoundsOffCount_d044e_6 : decode cJ2_checkBoundsOffCount_d044e 6 = .ok (.invokestatic 419, 3) := by decide +kernel
theorem dJ2_checkBoundsOffCount_d044e_9 : decode cJ2_checkBoundsOffCount_d044e 9 = .ok (.pop, 1) := by decide +kernel
theorem dJ2_checkBoundsOffCount_d044e_10 : decode cJ2_checkBoundsOffCount_d044e 10 = .ok (.return_, 1) := by decide +kernel
theorem dJxa1e45_init_da8c8_0 : decode cJxa1e45_init_da8c8 0 = .ok (.aload_n 0, 1) := by decide +kernel
theorem dJxa1e45_init_da8c8_1 : decode cJxa1e45_init_da8c8 1 = .ok (.invokespecial 1, 3) := by decide +kernel
theorem dJxa1e45_init_da8c8_4 : decode cJxa1e45_init_da8c8 4 = .ok (.return_, 1) := by decide +kernel
theorem dJxc12de_init_da8c8_0 : decode cJxc12de_init_da8c8 0 = .ok (.aload_n 0, 1) := by decide +kernel
theorem dJxc12de_init_da8c8_1 : decode cJxc12de_init_da8c8 1 = .ok (.invokespecial 1, 3) := by decide +kernel
theorem dJxc12de_init_da8c8_4 : decode cJxc12de_init_da8c8 4 = .ok (.aload_n 0, 1) := by decide +kernel
theorem dJxc12de_init_da8c8_5 : decode cJxc12de_init_da8c8 5 = .ok (.iconst 0, 1) := by decide +kernel
theorem dJxc12de_init_da8c8_6 : decode cJxc12de_init_da8c8 6 = .ok (.putfield 7, 3) := by decide +kernel
theorem dJxc12de_init_da8c8_9 : decode cJxc12de_init_da8c8 9 = .ok (.return_, 1) := by decide +kernel
theorem dJx4a65c_init_da8c8_0 : decode cJx4a65c_init_da8c8 0 = .ok (.aload_n 0, 1) := by decide +kernel
theorem dJx4a65c_init_da8c8_1 : decode cJx4a65c_init_da8c8 1 = .ok (.invokespecial 1, 3) := by decide +kernel
theorem dJx4a65c_init_da8c8_4 : decode cJx4a65c_init_da8c8 4 = .ok (.aload_n 0, 1) := by decide +kernel
theorem dJx4a65c_init_da8c8_5 : decode cJx4a65c_init_da8c8 5 = .ok (.getstatic 39, 3) := by decide +kernel
theorem dJx4a65c_init_da8c8_8 : decode cJx4a65c_init_da8c8 8 = .ok (.putfield 9, 3) := by decide +kernel
theorem dJx4a65c_init_da8c8_11 : decode cJx4a65c_init_da8c8 11 = .ok (.return_, 1) := by decide +kernel
theorem dJx4a65c_grow_92f84_0 : decode cJx4a65c_grow_92f84 0 = .ok (.aload_n 0, 1) := by decide +kernel
theorem dJx4a65c_grow_92f84_1 : decode cJx4a65c_grow_92f84 1 = .ok (.getfield 9, 3) := by decide +kernel
theorem dJx4a65c_grow_92f84_4 : decode cJx4a65c_grow_92f84 4 = .ok (.arraylength, 1) := by decide +kernel
theorem dJx4a65c_grow_92f84_5 : decode cJx4a65c_grow_92f84 5 = .ok (.istore_n 2, 1) := by decide +kernel
theorem dJx4a65c_grow_92f84_6 : decode cJx4a65c_grow_92f84 6 = .ok (.iload_n 2, 1) := by decide +kernel
theorem dJx4a65c_grow_92f84_7 : decode cJx4a65c_grow_92f84 7 = .ok (.ifCond .gt 13, 3) := by decide +kernel
theorem dJx4a65c_grow_92f84_10 : decode cJx4a65c_grow_92f84 10 = .ok (.aload_n 0, 1) := by decide +kernel
theorem dJx4a65c_grow_92f84_11 : decode cJx4a65c_grow_92f84 11 = .ok (.getfield 9, 3) := by decide +kernel
theorem dJx4a65c_grow_92f84_14 : decode cJx4a65c_grow_92f84 14 = .ok (.getstatic 39, 3) := by decide +kernel
theorem dJx4a65c_grow_92f84_17 : decode cJx4a65c_grow_92f84 17 = .ok (.if_acmp .eq 28, 3) := by decide +kernel
theorem dJx4a65c_grow_92f84_20 : decode cJx4a65c_grow_92f84 20 = .ok (.iload_n 2, 1) := by decide +kernel
theorem dJx4a65c_grow_92f84_21 : decode cJx4a65c_grow_92f84 21 = .ok (.iload_n 1, 1) := by decide +kernel
theorem dJx4a65c_grow_92f84_22 : decode cJx4a65c_grow_92f84 22 = .ok (.iload_n 2, 1) := by decide +kernel
theorem dJx4a65c_grow_92f84_23 : decode cJx4a65c_grow_92f84 23 = .ok (.isub, 1) := by decide +kernel
theorem dJx4a65c_grow_92f84_24 : decode cJx4a65c_grow_92f84 24 = .ok (.iload_n 2, 1) := by decide +kernel
theorem dJx4a65c_grow_92f84_25 : decode cJx4a65c_grow_92f84 25 = .ok (.iconst 1, 1) := by decide +kernel
theorem dJx4a65c_grow_92f84_26 : decode cJx4a65c_grow_92f84 26 = .ok (.ishr, 1) := by decide +kernel
theorem dJx4a65c_grow_92f84_27 : decode cJx4a65c_grow_92f84 27 = .ok (.invokestatic 73, 3) := by decide +kernel
theorem dJx4a65c_grow_92f84_30 : decode cJx4a65c_grow_92f84 30 = .ok (.istore_n 3, 1) := by decide +kernel
theorem dJx4a65c_grow_92f84_31 : decode cJx4a65c_grow_92f84 31 = .ok (.aload_n 0, 1) := by decide +kernel
theorem dJx4a65c_grow_92f84_32 : decode cJx4a65c_grow_92f84 32 = .ok (.aload_n 0, 1) := by decide +kernel
theorem dJx4a65c_grow_92f84_33 : decode cJx4a65c_grow_92f84 33 = .ok (.getfield 9, 3) := by decide +kernel
theorem dJx4a65c_grow_92f84_36 : decode cJx4a65c_grow_92f84 36 = .ok (.iload_n 3, 1) := by decide +kernel
theorem dJx4a65c_grow_92f84_37 : decode cJx4a65c_grow_92f84 37 = .ok (.invokestatic 66, 3) := by decide +kernel
theorem dJx4a65c_grow_92f84_40 : decode cJx4a65c_grow_92f84 40 = .ok (.dup_x1, 1) := by decide +kernel
theorem dJx4a65c_grow_92f84_41 : decode cJx4a65c_grow_92f84 41 = .ok (.putfield 9, 3) := by decide +kernel
theorem dJx4a65c_grow_92f84_44 : decode cJx4a65c_grow_92f84 44 = .ok (.areturn, 1) := by decide +kernel
theorem dJx4a65c_grow_92f84_45 : decode cJx4a65c_grow_92f84 45 = .ok (.aload_n 0, 1) := by decide +kernel
theorem dJx4a65c_grow_92f84_46 : decode cJx4a65c_grow_92f84 46 = .ok (.bipush 10, 2) := by decide +kernel
theorem dJx4a65c_grow_92f84_48 : decode cJx4a65c_grow_92f84 48 = .ok (.iload_n 1, 1) := by decide +kernel
theorem dJx4a65c_grow_92f84_49 : decode cJx4a65c_grow_92f84 49 = .ok (.invokestatic 79, 3) := by decide +kernel
theorem dJx4a65c_grow_92f84_52 : decode cJx4a65c_grow_92f84 52 = .ok (.anewarray 7, 3) := by decide +kernel
theorem dJx4a65c_grow_92f84_55 : decode cJx4a65c_grow_92f84 55 = .ok (.dup_x1, 1) := by decide +kernel
theorem dJx4a65c_grow_92f84_56 : decode cJx4a65c_grow_92f84 56 = .ok (.putfield 9, 3) := by decide +kernel
theorem dJx4a65c_grow_92f84_59 : decode cJx4a65c_grow_92f84 59 = .ok (.areturn, 1) := by decide +kernel
theorem dJx4a65c_grow_d5877_0 : decode cJx4a65c_grow_d5877 0 = .ok (.aload_n 0, 1) := by decide +kernel
theorem dJx4a65c_grow_d5877_1 : decode cJx4a65c_grow_d5877 1 = .ok (.aload_n 0, 1) := by decide +kernel
theorem dJx4a65c_grow_d5877_2 : decode cJx4a65c_grow_d5877 2 = .ok (.getfield 48, 3) := by decide +kernel
theorem dJx4a65c_grow_d5877_5 : decode cJx4a65c_grow_d5877 5 = .ok (.iconst 1, 1) := by decide +kernel
theorem dJx4a65c_grow_d5877_6 : decode cJx4a65c_grow_d5877 6 = .ok (.iadd, 1) := by decide +kernel
theorem dJx4a65c_grow_d5877_7 : decode cJx4a65c_grow_d5877 7 = .ok (.invokevirtual 69, 3) := by decide +kernel
theorem dJx4a65c_grow_d5877_10 : decode cJx4a65c_grow_d5877 10 = .ok (.areturn, 1) := by decide +kernel
theorem dJx4a65c_size_8abf5_0 : decode cJx4a65c_size_8abf5 0 = .ok (.aload_n 0, 1) := by decide +kernel
theorem dJx4a65c_size_8abf5_1 : decode cJx4a65c_size_8abf5 1 = .ok (.getfield 48, 3) := by decide +kernel
theorem dJx4a65c_size_8abf5_4 : decode cJx4a65c_size_8abf5 4 = .ok (.ireturn, 1) := by decide +kernel
theorem dJx4a65c_isEmpty_aae02_0 : decode cJx4a65c_isEmpty_aae02 0 = .ok (.aload_n 0, 1) := by decide +kernel
theorem dJx4a65c_isEmpty_aae02_1 : decode cJx4a65c_isEmpty_aae02 1 = .ok (.getfield 48, 3) := by decide +kernel
theorem dJx4a65c_isEmpty_aae02_4 : decode cJx4a65c_isEmpty_aae02 4 = .ok (.ifCond .ne 7, 3) := by decide +kernel
theorem dJx4a65c_isEmpty_aae02_7 : decode cJx4a65c_isEmpty_aae02 7 = .ok (.iconst 1, 1) := by decide +kernel
theorem dJx4a65c_isEmpty_aae02_8 : decode cJx4a65c_isEmpty_aae02 8 = .ok (.goto 4, 3) := by decide +kernel
theorem dJx4a65c_isEmpty_aae02_11 : decode cJx4a65c_isEmpty_aae02 11 = .ok (.iconst 0, 1) := by decide +kernel
theorem dJx4a65c_isEmpty_aae02_12 : decode cJx4a65c_isEmpty_aae02 12 = .ok (.ireturn, 1) := by decide +kernel
theorem dJx4a65c_elementData_915e3_0 : decode cJx4a65c_elementData_915e3 0 = .ok (.aload_n 0, 1) := by decide +kernel
theorem dJx4a65c_elementData_915e3_1 : decode cJx4a65c_elementData_915e3 1 = .ok (.getfield 9, 3) := by decide +kernel
theorem dJx4a65c_elementData_915e3_4 : decode cJx4a65c_elementData_915e3 4 = .ok (.iload_n 1, 1) := by decide +kernel
theorem dJx4a65c_elementData_915e3_5 : decode cJx4a65c_elementData_915e3 5 = .ok (.aaload, 1) := by decide +kernel
theorem dJx4a65c_elementData_915e3_6 : decode cJx4a65c_elementData_915e3 6 = .ok (.areturn, 1) := by decide +kernel
theorem dJx4a65c_get_915e3_0 : decode cJx4a65c_get_915e3 0 = .ok (.iload_n 1, 1) := by decide +kernel
theorem dJx4a65c_get_915e3_1 : decode cJx4a65c_get_915e3 1 = .ok (.aload_n 0, 1) := by decide +kernel
theorem dJx4a65c_get_915e3_2 : decode cJx4a65c_get_915e3 2 = .ok (.getfield 48, 3) := by decide +kernel
theorem dJx4a65c_get_915e3_5 : decode cJx4a65c_get_915e3 5 = .ok (.invokestatic 118, 3) := by decide +kernel
theorem dJx4a65c_get_915e3_8 : decode cJx4a65c_get_915e3 8 = .ok (.pop, 1) := by decide +kernel
theorem dJx4a65c_get_915e3_9 : decode cJx4a65c_get_915e3 9 = .ok (.aload_n 0, 1) := by decide +kernel
theorem dJx4a65c_get_915e3_10 : decode cJx4a65c_get_915e3 10 = .ok (.iload_n 1, 1) := by decide +kernel
theorem dJx4a65c_get_915e3_11 : decode cJx4a65c_get_915e3 11 = .ok (.invokevirtual 123, 3) := by decide +kernel
theorem dJx4a65c_get_915e3_14 : decode cJx4a65c_get_915e3 14 = .ok (.areturn, 1) := by decide +kernel
theorem dJx4a65c_add_72be8_0 : decode cJx4a65c_add_72be8 0 = .ok (.iload_n 3, 1) := by decide +kernel
theorem dJx4a65c_add_72be8_1 : decode cJx4a65c_add_72be8 1 = .ok (.aload_n 2, 1) := by decide +kernel
theorem dJx4a65c_add_72be8_2 : decode cJx4a65c_add_72be8 2 = .ok (.arraylength, 1) := by decide +kernel
theorem dJx4a65c_add_72be8_3 : decode cJx4a65c_add_72be8 3 = .ok (.if_icmp .ne 8, 3) := by decide +kernel
theorem dJx4a65c_add_72be8_6 : decode cJx4a65c_add_72be8 6 = .ok (.aload_n 0, 1) := by decide +kernel
theorem dJx4a65c_add_72be8_7 : decode cJx4a65c_add_72be8 7 = .ok (.invokevirtual 129, 3) := by decide +kernel
theorem dJx4a65c_add_72be8_10 : decode cJx4a65c_add_72be8 10 = .ok (.astore_n 2, 1) := by decide +kernel
theorem dJx4a65c_add_72be8_11 : decode cJx4a65c_add_72be8 11 = .ok (.aload_n 2, 1) := by decide +kernel
theorem dJx4a65c_add_72be8_12 : decode cJx4a65c_add_72be8 12 = .ok (.iload_n 3, 1) := by decide +kernel
theorem dJx4a65c_add_72be8_13 : decode cJx4a65c_add_72be8 13 = .ok (.aload_n 1, 1) := by decide +kernel
theorem dJx4a65c_add_72be8_14 : decode cJx4a65c_add_72be8 14 = .ok (.aastore, 1) := by decide +kernel
theorem dJx4a65c_add_72be8_15 : decode cJx4a65c_add_72be8 15 = .ok (.aload_n 0, 1) := by decide +kernel
theorem dJx4a65c_add_72be8_16 : decode cJx4a65c_add_72be8 16 = .ok (.iload_n 3, 1) := by decide +kernel
theorem dJx4a65c_add_72be8_17 : decode cJx4a65c_add_72be8 17 = .ok (.iconst 1, 1) := by decide +kernel
theorem dJx4a65c_add_72be8_18 : decode cJx4a65c_add_72be8 18 = .ok (.iadd, 1) := by decide +kernel
theorem dJx4a65c_add_72be8_19 : decode cJx4a65c_add_72be8 19 = .ok (.putfield 48, 3) := by decide +kernel
theorem dJx4a65c_add_72be8_22 : decode cJx4a65c_add_72be8 22 = .ok (.return_, 1) := by decide +kernel
theorem dJx4a65c_add_9ea2d_0 : decode cJx4a65c_add_9ea2d 0 = .ok (.aload_n 0, 1) := by decide +kernel
theorem dJx4a65c_add_9ea2d_1 : decode cJx4a65c_add_9ea2d 1 = .ok (.dup, 1) := by decide +kernel
theorem dJx4a65c_add_9ea2d_2 : decode cJx4a65c_add_9ea2d 2 = .ok (.getfield 63, 3) := by decide +kernel
theorem dJx4a65c_add_9ea2d_5 : decode cJx4a65c_add_9ea2d 5 = .ok (.iconst 1, 1) := by decide +kernel
theorem dJx4a65c_add_9ea2d_6 : decode cJx4a65c_add_9ea2d 6 = .ok (.iadd, 1) := by decide +kernel
theorem dJx4a65c_add_9ea2d_7 : decode cJx4a65c_add_9ea2d 7 = .ok (.putfield 63, 3) := by decide +kernel
theorem dJx4a65c_add_9ea2d_10 : decode cJx4a65c_add_9ea2d 10 = .ok (.aload_n 0, 1) := by decide +kernel
theorem dJx4a65c_add_9ea2d_11 : decode cJx4a65c_add_9ea2d 11 = .ok (.aload_n 1, 1) := by decide +kernel
theorem dJx4a65c_add_9ea2d_12 : decode cJx4a65c_add_9ea2d 12 = .ok (.aload_n 0, 1) := by decide +kernel
theorem dJx4a65c_add_9ea2d_13 : decode cJx4a65c_add_9ea2d 13 = .ok (.getfield 9, 3) := by decide +kernel
theorem dJx4a65c_add_9ea2d_16 : decode cJx4a65c_add_9ea2d 16 = .ok (.aload_n 0, 1) := by decide +kernel
theorem dJx4a65c_add_9ea2d_17 : decode cJx4a65c_add_9ea2d 17 = .ok (.getfield 48, 3) := by decide +kernel
theorem dJx4a65c_add_9ea2d_20 : decode cJx4a65c_add_9ea2d 20 = .ok (.invokevirtual 131, 3) := by decide +kernel
theorem dJx4a65c_add_9ea2d_23 : decode cJx4a65c_add_9ea2d 23 = .ok (.iconst 1, 1) := by decide +kernel
theorem dJx4a65c_add_9ea2d_24 : decode cJx4a65c_add_9ea2d 24 = .ok (.ireturn, 1) := by decide +kernel
theorem dJx4a65c_remove_915e3_0 : decode cJx4a65c_remove_915e3 0 = .ok (.iload_n 1, 1) := by decide +kernel
theorem dJx4a65c_remove_915e3_1 : decode cJx4a65c_remove_915e3 1 = .ok (.aload_n 0, 1) := by decide +kernel
theorem dJx4a65c_remove_915e3_2 : decode cJx4a65c_remove_915e3 2 = .ok (.getfield 48, 3) := by decide +kernel
theorem dJx4a65c_remove_915e3_5 : decode cJx4a65c_remove_915e3 5 = .ok (.invokestatic 118, 3) := by decide +kernel
theorem dJx4a65c_remove_915e3_8 : decode cJx4a65c_remove_915e3 8 = .ok (.pop, 1) := by decide +kernel
theorem dJx4a65c_remove_915e3_9 : decode cJx4a65c_remove_915e3 9 = .ok (.aload_n 0, 1) := by decide +kernel
theorem dJx4a65c_remove_915e3_10 : decode cJx4a65c_remove_915e3 10 = .ok (.getfield 9, 3) := by decide +kernel
theorem dJx4a65c_remove_915e3_13 : decode cJx4a65c_remove_915e3 13 = .ok (.astore_n 2, 1) := by decide +kernel
theorem dJx4a65c_remove_915e3_14 : decode cJx4a65c_remove_915e3 14 = .ok (.aload_n 2, 1) := by decide +kernel
theorem dJx4a65c_remove_915e3_15 : decode cJx4a65c_remove_915e3 15 = .ok (.iload_n 1, 1) := by decide +kernel
theorem dJx4a65c_remove_915e3_16 : decode cJx4a65c_remove_915e3 16 = .ok (.aaload, 1) := by decide +kernel
theorem dJx4a65c_remove_915e3_17 : decode cJx4a65c_remove_915e3 17 = .ok (.astore_n 3, 1) := by decide +kernel
theorem dJx4a65c_remove_915e3_18 : decode cJx4a65c_remove_915e3 18 = .ok (.aload_n 0, 1) := by decide +kernel
theorem dJx4a65c_remove_915e3_19 : decode cJx4a65c_remove_915e3 19 = .ok (.aload_n 2, 1) := by decide +kernel
theorem dJx4a65c_remove_915e3_20 : decode cJx4a65c_remove_915e3 20 = .ok (.iload_n 1, 1) := by decide +kernel
theorem dJx4a65c_remove_915e3_21 : decode cJx4a65c_remove_915e3 21 = .ok (.invokevirtual 144, 3) := by decide +kernel
theorem dJx4a65c_remove_915e3_24 : decode cJx4a65c_remove_915e3 24 = .ok (.aload_n 3, 1) := by decide +kernel
theorem dJx4a65c_remove_915e3_25 : decode cJx4a65c_remove_915e3 25 = .ok (.areturn, 1) := by decide +kernel
theorem dJx4a65c_fastRemove_b59b0_0 : decode cJx4a65c_fastRemove_b59b0 0 = .ok (.aload_n 0, 1) := by decide +kernel
theorem dJx4a65c_fastRemove_b59b0_1 : decode cJx4a65c_fastRemove_b59b0 1 = .ok (.dup, 1) := by decide +kernel
theorem dJx4a65c_fastRemove_b59b0_2 : decode cJx4a65c_fastRemove_b59b0 2 = .ok (.getfield 63, 3) := by decide +kernel
theorem dJx4a65c_fastRemove_b59b0_5 : decode cJx4a65c_fastRemove_b59b0 5 = .ok (.iconst 1, 1) := by decide +kernel
theorem dJx4a65c_fastRemove_b59b0_6 : decode cJx4a65c_fastRemove_b59b0 6 = .ok (.iadd, 1) := by decide +kernel
theorem dJx4a65c_fastRemove_b59b0_7 : decode cJx4a65c_fastRemove_b59b0 7 = .ok (.putfield 63, 3) := by decide +kernel
theorem dJx4a65c_fastRemove_b59b0_10 : decode cJx4a65c_fastRemove_b59b0 10 = .ok (.aload_n 0, 1) := by decide +kernel
theorem dJx4a65c_fastRemove_b59b0_11 : decode cJx4a65c_fastRemove_b59b0 11 = .ok (.getfield 48, 3) := by decide +kernel
theorem dJx4a65c_fastRemove_b59b0_14 : decode cJx4a65c_fastRemove_b59b0 14 = .ok (.iconst 1, 1) := by decide +kernel
theorem dJx4a65c_fastRemove_b59b0_15 : decode cJx4a65c_fastRemove_b59b0 15 = .ok (.isub, 1) := by decide +kernel
theorem dJx4a65c_fastRemove_b59b0_16 : decode cJx4a65c_fastRemove_b59b0 16 = .ok (.dup, 1) := by decide +kernel
theorem dJx4a65c_fastRemove_b59b0_17 : decode cJx4a65c_fastRemove_b59b0 17 = .ok (.istore_n 3, 1) := by decide +kernel
theorem dJx4a65c_fastRemove_b59b0_18 : decode cJx4a65c_fastRemove_b59b0 18 = .ok (.iload_n 2, 1) := by decide +kernel
theorem dJx4a65c_fastRemove_b59b0_19 : decode cJx4a65c_fastRemove_b59b0 19 = .ok (.if_icmp .le 15, 3) := by decide +kernel
theorem dJx4a65c_fastRemove_b59b0_22 : decode cJx4a65c_fastRemove_b59b0 22 = .ok (.aload_n 1, 1) := by decide +kernel
theorem dJx4a65c_fastRemove_b59b0_23 : decode cJx4a65c_fastRemove_b59b0 23 = .ok (.iload_n 2, 1) := by decide +kernel
theorem dJx4a65c_fastRemove_b59b0_24 : decode cJx4a65c_fastRemove_b59b0 24 = .ok (.iconst 1, 1) := by decide +kernel
theorem dJx4a65c_fastRemove_b59b0_25 : decode cJx4a65c_fastRemove_b59b0 25 = .ok (.iadd, 1) := by decide +kernel
theorem dJx4a65c_fastRemove_b59b0_26 : decode cJx4a65c_fastRemove_b59b0 26 = .ok (.aload_n 1, 1) := by decide +kernel
theorem dJx4a65c_fastRemove_b59b0_27 : decode cJx4a65c_fastRemove_b59b0 27 = .ok (.iload_n 2, 1) := by decide +kernel
theorem dJx4a65c_fastRemove_b59b0_28 : decode cJx4a65c_fastRemove_b59b0 28 = .ok (.iload_n 3, 1) := by decide +kernel
theorem dJx4a65c_fastRemove_b59b0_29 : decode cJx4a65c_fastRemove_b59b0 29 = .ok (.iload_n 2, 1) := by decide +kernel
theorem dJx4a65c_fastRemove_b59b0_30 : decode cJx4a65c_fastRemove_b59b0 30 = .ok (.isub, 1) := by decide +kernel
theorem dJx4a65c_fastRemove_b59b0_31 : decode cJx4a65c_fastRemove_b59b0 31 = .ok (.invokestatic 112, 3) := by decide +kernel
theorem dJx4a65c_fastRemove_b59b0_34 : decode cJx4a65c_fastRemove_b59b0 34 = .ok (.aload_n 1, 1) := by decide +kernel
theorem dJx4a65c_fastRemove_b59b0_35 : decode cJx4a65c_fastRemove_b59b0 35 = .ok (.aload_n 0, 1) := by decide +kernel
theorem dJx4a65c_fastRemove_b59b0_36 : decode cJx4a65c_fastRemove_b59b0 36 = .ok (.iload_n 3, 1) := by decide +kernel
theorem dJx4a65c_fastRemove_b59b0_37 : decode cJx4a65c_fastRemove_b59b0 37 = .ok (.dup_x1, 1) := by decide +kernel
theorem dJx4a65c_fastRemove_b59b0_38 : decode cJx4a65c_fastRemove_b59b0 38 = .ok (.putfield 48, 3) := by decide +kernel
theorem dJx4a65c_fastRemove_b59b0_41 : decode cJx4a65c_fastRemove_b59b0 41 = .ok (.aconst_null, 1) := by decide +kernel
theorem dJx4a65c_fastRemove_b59b0_42 : decode cJx4a65c_fastRemove_b59b0 42 = .ok (.aastore, 1) := by decide +kernel
theorem dJx4a65c_fastRemove_b59b0_43 : decode cJx4a65c_fastRemove_b59b0 43 = .ok (.return_, 1) := by decide +kernel
theorem dJ7_rangeCheck_23922_0 : decode cJ7_rangeCheck_23922 0 = .ok (.iload_n 1, 1) := by decide +kernel
theorem dJ7_rangeCheck_23922_1 : decode cJ7_rangeCheck_23922 1 = .ok (.iload_n 2, 1) := by decide +kernel
theorem dJ7_rangeCheck_23922_2 : decode cJ7_rangeCheck_23922 2 = .ok (.if_icmp .le 44, 3) := by decide +kernel
theorem dJ7_rangeCheck_23922_5 : decode cJ7_rangeCheck_23922 5 = .ok (.new 43, 3) := by decide +kernel
theorem dJ7_rangeCheck_23922_8 : decode cJ7_rangeCheck_23922 8 = .ok (.dup, 1) := by decide +kernel
theorem dJ7_rangeCheck_23922_9 : decode cJ7_rangeCheck_23922 9 = .ok (.new 45, 3) := by decide +kernel
theorem dJ7_rangeCheck_23922_12 : decode cJ7_rangeCheck_23922 12 = .ok (.dup, 1) := by decide +kernel
theorem dJ7_rangeCheck_23922_13 : decode cJ7_rangeCheck_23922 13 = .ok (.invokespecial 47, 3) := by decide +kernel
theorem dJ7_rangeCheck_23922_16 : decode cJ7_rangeCheck_23922 16 = .ok (.ldc 48, 2) := by decide +kernel
theorem dJ7_rangeCheck_23922_18 : decode cJ7_rangeCheck_23922 18 = .ok (.invokevirtual 50, 3) := by decide +kernel
theorem dJ7_rangeCheck_23922_21 : decode cJ7_rangeCheck_23922 21 = .ok (.iload_n 1, 1) := by decide +kernel
theorem dJ7_rangeCheck_23922_22 : decode cJ7_rangeCheck_23922 22 = .ok (.invokevirtual 54, 3) := by decide +kernel
theorem dJ7_rangeCheck_23922_25 : decode cJ7_rangeCheck_23922 25 = .ok (.ldc 57, 2) := by decide +kernel
theorem dJ7_rangeCheck_23922_27 : decode cJ7_rangeCheck_23922 27 = .ok (.invokevirtual 50, 3) := by decide +kernel
theorem dJ7_rangeCheck_23922_30 : decode cJ7_rangeCheck_23922 30 = .ok (.iload_n 2, 1) := by decide +kernel
theorem dJ7_rangeCheck_23922_31 : decode cJ7_rangeCheck_23922 31 = .ok (.invokevirtual 54, 3) := by decide +kernel
theorem dJ7_rangeCheck_23922_34 : decode cJ7_rangeCheck_23922 34 = .ok (.ldc 59, 2) := by decide +kernel
theorem dJ7_rangeCheck_23922_36 : decode cJ7_rangeCheck_23922 36 = .ok (.invokevirtual 50, 3) := by decide +kernel
theorem dJ7_rangeCheck_23922_39 : decode cJ7_rangeCheck_23922 39 = .ok (.invokevirtual 61, 3) := by decide +kernel
theorem dJ7_rangeCheck_23922_42 : decode cJ7_rangeCheck_23922 42 = .ok (.invokespecial 65, 3) := by decide +kernel
theorem dJ7_rangeCheck_23922_45 : decode cJ7_rangeCheck_23922 45 = .ok (.athrow, 1) := by decide +kernel
theorem dJ7_rangeCheck_23922_46 : decode cJ7_rangeCheck_23922 46 = .ok (.iload_n 1, 1) := by decide +kernel
theorem dJ7_rangeCheck_23922_47 : decode cJ7_rangeCheck_23922 47 = .ok (.ifCond .ge 12, 3) := by decide +kernel
theorem dJ7_rangeCheck_23922_50 : decode cJ7_rangeCheck_23922 50 = .ok (.new 68, 3) := by decide +kernel
theorem dJ7_rangeCheck_23922_53 : decode cJ7_rangeCheck_23922 53 = .ok (.dup, 1) := by decide +kernel
theorem dJ7_rangeCheck_23922_54 : decode cJ7_rangeCheck_23922 54 = .ok (.iload_n 1, 1) := by decide +kernel
theorem dJ7_rangeCheck_23922_55 : decode cJ7_rangeCheck_23922 55 = .ok (.invokespecial 70, 3) := by decide +kernel
theorem dJ7_rangeCheck_23922_58 : decode cJ7_rangeCheck_23922 58 = .ok (.athrow, 1) := by decide +kernel
theorem dJ7_rangeCheck_23922_59 : decode cJ7_rangeCheck_23922 59 = .ok (.iload_n 2, 1) := by decide +kernel
theorem dJ7_rangeCheck_23922_60 : decode cJ7_rangeCheck_23922 60 = .ok (.iload_n 0, 1) := by decide +kernel
theorem dJ7_rangeCheck_23922_61 : decode cJ7_rangeCheck_23922 61 = .ok (.if_icmp .le 12, 3) := by decide +kernel
theorem dJ7_rangeCheck_23922_64 : decode cJ7_rangeCheck_23922 64 = .ok (.new 68, 3) := by decide +kernel
theorem dJ7_rangeCheck_23922_67 : decode cJ7_rangeCheck_23922 67 = .ok (.dup, 1) := by decide +kernel
theorem dJ7_rangeCheck_23922_68 : decode cJ7_rangeCheck_23922 68 = .ok (.iload_n 2, 1) := by decide +kernel
theorem dJ7_rangeCheck_23922_69 : decode cJ7_rangeCheck_23922 69 = .ok (.invokespecial 70, 3) := by decide +kernel
theorem dJ7_rangeCheck_23922_72 : decode cJ7_rangeCheck_23922 72 = .ok (.athrow, 1) := by decide +kernel
theorem dJ7_rangeCheck_23922_73 : decode cJ7_rangeCheck_23922 73 = .ok (.return_, 1) := by decide +kernel
theorem dJ7_fill_53178_0 : decode cJ7_fill_53178 0 = .ok (.iconst 0, 1) := by decide +kernel
theorem dJ7_fill_53178_1 : decode cJ7_fill_53178 1 = .ok (.istore_n 2, 1) := by decide +kernel
theorem dJ7_fill_53178_2 : decode cJ7_fill_53178 2 = .ok (.aload_n 0, 1) := by decide +kernel
theorem dJ7_fill_53178_3 : decode cJ7_fill_53178 3 = .ok (.arraylength, 1) := by decide +kernel
theorem dJ7_fill_53178_4 : decode cJ7_fill_53178 4 = .ok (.istore_n 3, 1) := by decide +kernel
theorem dJ7_fill_53178_5 : decode cJ7_fill_53178 5 = .ok (.iload_n 2, 1) := by decide +kernel
theorem dJ7_fill_53178_6 : decode cJ7_fill_53178 6 = .ok (.iload_n 3, 1) := by decide +kernel
theorem dJ7_fill_53178_7 : decode cJ7_fill_53178 7 = .ok (.if_icmp .ge 13, 3) := by decide +kernel
theorem dJ7_fill_53178_10 : decode cJ7_fill_53178 10 = .ok (.aload_n 0, 1) := by decide +kernel
theorem dJ7_fill_53178_11 : decode cJ7_fill_53178 11 = .ok (.iload_n 2, 1) := by decide +kernel
theorem dJ7_fill_53178_12 : decode cJ7_fill_53178 12 = .ok (.iload_n 1, 1) := by decide +kernel
theorem dJ7_fill_53178_13 : decode cJ7_fill_53178 13 = .ok (.iastore, 1) := by decide +kernel
theorem dJ7_fill_53178_14 : decode cJ7_fill_53178 14 = .ok (.iinc 2 1, 3) := by decide +kernel
theorem dJ7_fill_53178_17 : decode cJ7_fill_53178 17 = .ok (.goto (-12), 3) := by decide +kernel
theorem dJ7_fill_53178_20 : decode cJ7_fill_53178 20 = .ok (.return_, 1) := by decide +kernel
theorem dJ7_fill_eb02e_0 : decode cJ7_fill_eb02e 0 = .ok (.aload_n 0, 1) := by decide +kernel
theorem dJ7_fill_eb02e_1 : decode cJ7_fill_eb02e 1 = .ok (.arraylength, 1) := by decide +kernel
theorem dJ7_fill_eb02e_2 : decode cJ7_fill_eb02e 2 = .ok (.iload_n 1, 1) := by decide +kernel
theorem dJ7_fill_eb02e_3 : decode cJ7_fill_eb02e 3 = .ok (.iload_n 2, 1) := by decide +kernel
theorem dJ7_fill_eb02e_4 : decode cJ7_fill_eb02e 4 = .ok (.invokestatic 13, 3) := by decide +kernel
theorem dJ7_fill_eb02e_7 : decode cJ7_fill_eb02e 7 = .ok (.iload_n 1, 1) := by decide +kernel
theorem dJ7_fill_eb02e_8 : decode cJ7_fill_eb02e 8 = .ok (.istore 4, 2) := by decide +kernel
theorem dJ7_fill_eb02e_10 : decode cJ7_fill_eb02e 10 = .ok (.iload 4, 2) := by decide +kernel
theorem dJ7_fill_eb02e_12 : decode cJ7_fill_eb02e 12 = .ok (.iload_n 2, 1) := by decide +kernel
theorem dJ7_fill_eb02e_13 : decode cJ7_fill_eb02e 13 = .ok (.if_icmp .ge 14, 3) := by decide +kernel
theorem dJ7_fill_eb02e_16 : decode cJ7_fill_eb02e 16 = .ok (.aload_n 0, 1) := by decide +kernel
theorem dJ7_fill_eb02e_17 : decode cJ7_fill_eb02e 17 = .ok (.iload 4, 2) := by decide +kernel
theorem dJ7_fill_eb02e_19 : decode cJ7_fill_eb02e 19 = .ok (.iload_n 3, 1) := by decide +kernel
theorem dJ7_fill_eb02e_20 : decode cJ7_fill_eb02e 20 = .ok (.bastore, 1) := by decide +kernel
theorem dJ7_fill_eb02e_21 : decode cJ7_fill_eb02e 21 = .ok (.iinc 4 1, 3) := by decide +kernel
theorem dJ7_fill_eb02e_24 : decode cJ7_fill_eb02e 24 = .ok (.goto (-14), 3) := by decide +kernel
theorem dJ7_fill_eb02e_27 : decode cJ7_fill_eb02e 27 = .ok (.return_, 1) := by decide +kernel
theorem dJ7_copyOf_1904c_0 : decode cJ7_copyOf_1904c 0 = .ok (.aload_n 0, 1) := by decide +kernel
theorem dJ7_copyOf_1904c_1 : decode cJ7_copyOf_1904c 1 = .ok (.iload_n 1, 1) := by decide +kernel
theorem dJ7_copyOf_1904c_2 : decode cJ7_copyOf_1904c 2 = .ok (.aload_n 0, 1) := by decide +kernel
theorem dJ7_copyOf_1904c_3 : decode cJ7_copyOf_1904c 3 = .ok (.invokevirtual 86, 3) := by decide +kernel
theorem dJ7_copyOf_1904c_6 : decode cJ7_copyOf_1904c 6 = .ok (.invokestatic 300, 3) := by decide +kernel
theorem dJ7_copyOf_1904c_9 : decode cJ7_copyOf_1904c 9 = .ok (.areturn, 1) := by decide +kernel
theorem dJ7_copyOf_6403c_0 : decode cJ7_copyOf_6403c 0 = .ok (.aload_n 2, 1) := by decide +kernel
theorem dJ7_copyOf_6403c_1 : decode cJ7_copyOf_6403c 1 = .ok (.ldc 110, 2) := by decide +kernel
theorem dJ7_copyOf_6403c_3 : decode cJ7_copyOf_6403c 3 = .ok (.if_acmp .ne 10, 3) := by decide +kernel
theorem dJ7_copyOf_6403c_6 : decode cJ7_copyOf_6403c 6 = .ok (.iload_n 1, 1) := by decide +kernel
theorem dJ7_copyOf_6403c_7 : decode cJ7_copyOf_6403c 7 = .ok (.anewarray 2, 3) := by decide +kernel
theorem dJ7_copyOf_6403c_10 : decode cJ7_copyOf_6403c 10 = .ok (.goto 14, 3) := by decide +kernel
theorem dJ7_copyOf_6403c_13 : decode cJ7_copyOf_6403c 13 = .ok (.aload_n 2, 1) := by decide +kernel
theorem dJ7_copyOf_6403c_14 : decode cJ7_copyOf_6403c 14 = .ok (.invokevirtual 90, 3) := by decide +kernel
theorem dJ7_copyOf_6403c_17 : decode cJ7_copyOf_6403c 17 = .ok (.iload_n 1, 1) := by decide +kernel
theorem dJ7_copyOf_6403c_18 : decode cJ7_copyOf_6403c 18 = .ok (.invokestatic 95, 3) := by decide +kernel
theorem dJ7_copyOf_6403c_21 : decode cJ7_copyOf_6403c 21 = .ok (.checkcast 110, 3) := by decide +kernel
theorem dJ7_copyOf_6403c_24 : decode cJ7_copyOf_6403c 24 = .ok (.astore_n 3, 1) := by decide +kernel
theorem dJ7_copyOf_6403c_25 : decode cJ7_copyOf_6403c 25 = .ok (.aload_n 0, 1) := by decide +kernel
theorem dJ7_copyOf_6403c_26 : decode cJ7_copyOf_6403c 26 = .ok (.iconst 0, 1) := by decide +kernel
theorem dJ7_copyOf_6403c_27 : decode cJ7_copyOf_6403c 27 = .ok (.aload_n 3, 1) := by decide +kernel
theorem dJ7_copyOf_6403c_28 : decode cJ7_copyOf_6403c 28 = .ok (.iconst 0, 1) := by decide +kernel
theorem dJ7_copyOf_6403c_29 : decode cJ7_copyOf_6403c 29 = .ok (.aload_n 0, 1) := by decide +kernel
theorem dJ7_copyOf_6403c_30 : decode cJ7_copyOf_6403c 30 = .ok (.arraylength, 1) := by decide +kernel
theorem dJ7_copyOf_6403c_31 : decode cJ7_copyOf_6403c 31 = .ok (.iload_n 1, 1) := by decide +kernel
theorem dJ7_copyOf_6403c_32 : decode cJ7_copyOf_6403c 32 = .ok (.invokestatic 304, 3) := by decide +kernel
theorem dJ7_copyOf_6403c_35 : decode cJ7_copyOf_6403c 35 = .ok (.invokestatic 150, 3) := by decide +kernel
theorem dJ7_copyOf_6403c_38 : decode cJ7_copyOf_6403c 38 = .ok (.aload_n 3, 1) := by decide +kernel
theorem dJ7_copyOf_6403c_39 : decode cJ7_copyOf_6403c 39 = .ok (.areturn, 1) := by decide +kernel
theorem dJ7_copyOf_9075b_0 : decode cJ7_copyOf_9075b 0 = .ok (.iload_n 1, 1) := by decide +kernel
theorem dJ7_copyOf_9075b_1 : decode cJ7_copyOf_9075b 1 = .ok (.aload_n 0, 1) := by decide +kernel
theorem dJ7_copyOf_9075b_2 : decode cJ7_copyOf_9075b 2 = .ok (.arraylength, 1) := by decide +kernel
theorem dJ7_copyOf_9075b_3 : decode cJ7_copyOf_9075b 3 = .ok (.if_icmp .ne 11, 3) := by decide +kernel
theorem dJ7_copyOf_9075b_6 : decode cJ7_copyOf_9075b 6 = .ok (.aload_n 0, 1) := by decide +kernel
theorem dJ7_copyOf_9075b_7 : decode cJ7_copyOf_9075b 7 = .ok (.invokevirtual 310, 3) := by decide +kernel
theorem dJ7_copyOf_9075b_10 : decode cJ7_copyOf_9075b 10 = .ok (.checkcast 311, 3) := by decide +kernel
theorem dJ7_copyOf_9075b_13 : decode cJ7_copyOf_9075b 13 = .ok (.areturn, 1) := by decide +kernel
theorem dJ7_copyOf_9075b_14 : decode cJ7_copyOf_9075b 14 = .ok (.iload_n 1, 1) := by decide +kernel
theorem dJ7_copyOf_9075b_15 : decode cJ7_copyOf_9075b 15 = .ok (.newarray .byte, 2) := by decide +kernel
theorem dJ7_copyOf_9075b_17 : decode cJ7_copyOf_9075b 17 = .ok (.astore_n 2, 1) := by decide +kernel
theorem dJ7_copyOf_9075b_18 : decode cJ7_copyOf_9075b 18 = .ok (.aload_n 0, 1) := by decide +kernel
theorem dJ7_copyOf_9075b_19 : decode cJ7_copyOf_9075b 19 = .ok (.iconst 0, 1) := by decide +kernel
theorem dJ7_copyOf_9075b_20 : decode cJ7_copyOf_9075b 20 = .ok (.aload_n 2, 1) := by decide +kernel
theorem dJ7_copyOf_9075b_21 : decode cJ7_copyOf_9075b 21 = .ok (.iconst 0, 1) := by decide +kernel
theorem dJ7_copyOf_9075b_22 : decode cJ7_copyOf_9075b 22 = .ok (.aload_n 0, 1) := by decide +kernel
theorem dJ7_copyOf_9075b_23 : decode cJ7_copyOf_9075b 23 = .ok (.arraylength, 1) := by decide +kernel
theorem dJ7_copyOf_9075b_24 : decode cJ7_copyOf_9075b 24 = .ok (.iload_n 1, 1) := by decide +kernel
theorem dJ7_copyOf_9075b_25 : decode cJ7_copyOf_9075b 25 = .ok (.invokestatic 304, 3) := by decide +kernel
theorem dJ7_copyOf_9075b_28 : decode cJ7_copyOf_9075b 28 = .ok (.invokestatic 150, 3) := by decide +kernel
theorem dJ7_copyOf_9075b_31 : decode cJ7_copyOf_9075b 31 = .ok (.aload_n 2, 1) := by decide +kernel
theorem dJ7_copyOf_9075b_32 : decode cJ7_copyOf_9075b 32 = .ok (.areturn, 1) := by decide +kernel
theorem dJ7_checkLength_df160_0 : decode cJ7_checkLength_df160 0 = .ok (.iload_n 1, 1) := by decide +kernel
theorem dJ7_checkLength_df160_1 : decode cJ7_checkLength_df160 1 = .ok (.iload_n 0, 1) := by decide +kernel
theorem dJ7_checkLength_df160_2 : decode cJ7_checkLength_df160 2 = .ok (.if_icmp .ge 35, 3) := by decide +kernel
theorem dJ7_checkLength_df160_5 : decode cJ7_checkLength_df160 5 = .ok (.new 43, 3) := by decide +kernel
theorem dJ7_checkLength_df160_8 : decode cJ7_checkLength_df160 8 = .ok (.dup, 1) := by decide +kernel
theorem dJ7_checkLength_df160_9 : decode cJ7_checkLength_df160 9 = .ok (.new 45, 3) := by decide +kernel
theorem dJ7_checkLength_df160_12 : decode cJ7_checkLength_df160 12 = .ok (.dup, 1) := by decide +kernel
theorem dJ7_checkLength_df160_13 : decode cJ7_checkLength_df160 13 = .ok (.invokespecial 47, 3) := by decide +kernel
theorem dJ7_checkLength_df160_16 : decode cJ7_checkLength_df160 16 = .ok (.iload_n 0, 1) := by decide +kernel
theorem dJ7_checkLength_df160_17 : decode cJ7_checkLength_df160 17 = .ok (.invokevirtual 54, 3) := by decide +kernel
theorem dJ7_checkLength_df160_20 : decode cJ7_checkLength_df160 20 = .ok (.ldc_w 337, 3) := by decide +kernel
theorem dJ7_checkLength_df160_23 : decode cJ7_checkLength_df160 23 = .ok (.invokevirtual 50, 3) := by decide +kernel
theorem dJ7_checkLength_df160_26 : decode cJ7_checkLength_df160 26 = .ok (.iload_n 1, 1) := by decide +kernel
theorem dJ7_checkLength_df160_27 : decode cJ7_checkLength_df160 27 = .ok (.invokevirtual 54, 3) := by decide +kernel
theorem dJ7_checkLength_df160_30 : decode cJ7_checkLength_df160 30 = .ok (.invokevirtual 61, 3) := by decide +kernel
theorem dJ7_checkLength_df160_33 : decode cJ7_checkLength_df160 33 = .ok (.invokespecial 65, 3) := by decide +kernel
theorem dJ7_checkLength_df160_36 : decode cJ7_checkLength_df160 36 = .ok (.athrow, 1) := by decide +kernel
theorem dJ7_checkLength_df160_37 : decode cJ7_checkLength_df160 37 = .ok (.return_, 1) := by decide +kernel
theorem dJ7_copyOfRange_39247_0 : decode cJ7_copyOfRange_39247 0 = .ok (.iload_n 1, 1) := by decide +kernel
theorem dJ7_copyOfRange_39247_1 : decode cJ7_copyOfRange_39247 1 = .ok (.ifCond .ne 9, 3) := by decide +kernel
theorem dJ7_copyOfRange_39247_4 : decode cJ7_copyOfRange_39247 4 = .ok (.iload_n 2, 1) := by decide +kernel
theorem dJ7_copyOfRange_39247_5 : decode cJ7_copyOfRange_39247 5 = .ok (.aload_n 0, 1) := by decide +kernel
theorem dJ7_copyOfRange_39247_6 : decode cJ7_copyOfRange_39247 6 = .ok (.arraylength, 1) := by decide +kernel
theorem dJ7_copyOfRange_39247_7 : decode cJ7_copyOfRange_39247 7 = .ok (.if_icmp .eq 10, 3) := by decide +kernel
theorem dJ7_copyOfRange_39247_10 : decode cJ7_copyOfRange_39247 10 = .ok (.aload_n 0, 1) := by decide +kernel
theorem dJ7_copyOfRange_39247_11 : decode cJ7_copyOfRange_39247 11 = .ok (.iload_n 1, 1) := by decide +kernel
theorem dJ7_copyOfRange_39247_12 : decode cJ7_copyOfRange_39247 12 = .ok (.iload_n 2, 1) := by decide +kernel
theorem dJ7_copyOfRange_39247_13 : decode cJ7_copyOfRange_39247 13 = .ok (.invokestatic 339, 3) := by decide +kernel
theorem dJ7_copyOfRange_39247_16 : decode cJ7_copyOfRange_39247 16 = .ok (.areturn, 1) := by decide +kernel
theorem dJ7_copyOfRange_39247_17 : decode cJ7_copyOfRange_39247 17 = .ok (.aload_n 0, 1) := by decide +kernel
theorem dJ7_copyOfRange_39247_18 : decode cJ7_copyOfRange_39247 18 = .ok (.invokevirtual 310, 3) := by decide +kernel
theorem dJ7_copyOfRange_39247_21 : decode cJ7_copyOfRange_39247 21 = .ok (.checkcast 311, 3) := by decide +kernel
theorem dJ7_copyOfRange_39247_24 : decode cJ7_copyOfRange_39247 24 = .ok (.areturn, 1) := by decide +kernel
theorem dJ7_copyOfRangeByte_39247_0 : decode cJ7_copyOfRangeByte_39247 0 = .ok (.iload_n 1, 1) := by decide +kernel
theorem dJ7_copyOfRangeByte_39247_1 : decode cJ7_copyOfRangeByte_39247 1 = .ok (.iload_n 2, 1) := by decide +kernel
theorem dJ7_copyOfRangeByte_39247_2 : decode cJ7_copyOfRangeByte_39247 2 = .ok (.invokestatic 343, 3) := by decide +kernel
theorem dJ7_copyOfRangeByte_39247_5 : decode cJ7_copyOfRangeByte_39247 5 = .ok (.iload_n 2, 1) := by decide +kernel
theorem dJ7_copyOfRangeByte_39247_6 : decode cJ7_copyOfRangeByte_39247 6 = .ok (.iload_n 1, 1) := by decide +kernel
theorem dJ7_copyOfRangeByte_39247_7 : decode cJ7_copyOfRangeByte_39247 7 = .ok (.isub, 1) := by decide +kernel
theorem dJ7_copyOfRangeByte_39247_8 : decode cJ7_copyOfRangeByte_39247 8 = .ok (.istore_n 3, 1) := by decide +kernel
theorem dJ7_copyOfRangeByte_39247_9 : decode cJ7_copyOfRangeByte_39247 9 = .ok (.iload_n 3, 1) := by decide +kernel
theorem dJ7_copyOfRangeByte_39247_10 : decode cJ7_copyOfRangeByte_39247 10 = .ok (.newarray .byte, 2) := by decide +kernel
theorem dJ7_copyOfRangeByte_39247_12 : decode cJ7_copyOfRangeByte_39247 12 = .ok (.astore 4, 2) := by decide +kernel
theorem dJ7_copyOfRangeByte_39247_14 : decode cJ7_copyOfRangeByte_39247 14 = .ok (.aload_n 0, 1) := by decide +kernel
theorem dJ7_copyOfRangeByte_39247_15 : decode cJ7_copyOfRangeByte_39247 15 = .ok (.iload_n 1, 1) := by decide +kernel
theorem dJ7_copyOfRangeByte_39247_16 : decode cJ7_copyOfRangeByte_39247 16 = .ok (.aload 4, 2) := by decide +kernel
theorem dJ7_copyOfRangeByte_39247_18 : decode cJ7_copyOfRangeByte_39247 18 = .ok (.iconst 0, 1) := by decide +kernel
theorem dJ7_copyOfRangeByte_39247_19 : decode cJ7_copyOfRangeByte_39247 19 = .ok (.aload_n 0, 1) := by decide +kernel
theorem dJ7_copyOfRangeByte_39247_20 : decode cJ7_copyOfRangeByte_39247 20 = .ok (.arraylength, 1) := by decide +kernel
theorem dJ7_copyOfRangeByte_39247_21 : decode cJ7_copyOfRangeByte_39247 21 = .ok (.iload_n 1, 1) := by decide +kernel
theorem dJ7_copyOfRangeByte_39247_22 : decode cJ7_copyOfRangeByte_39247 22 = .ok (.isub, 1) := by decide +kernel
theorem dJ7_copyOfRangeByte_39247_23 : decode cJ7_copyOfRangeByte_39247 23 = .ok (.iload_n 3, 1) := by decide +kernel
theorem dJ7_copyOfRangeByte_39247_24 : decode cJ7_copyOfRangeByte_39247 24 = .ok (.invokestatic 304, 3) := by decide +kernel
theorem dJ7_copyOfRangeByte_39247_27 : decode cJ7_copyOfRangeByte_39247 27 = .ok (.invokestatic 150, 3) := by decide +kernel
theorem dJ7_copyOfRangeByte_39247_30 : decode cJ7_copyOfRangeByte_39247 30 = .ok (.aload 4, 2) := by decide +kernel
theorem dJ7_copyOfRangeByte_39247_32 : decode cJ7_copyOfRangeByte_39247 32 = .ok (.areturn, 1) := by decide +kernel
theorem dJ15_checkIndex_7cf53_0 : decode cJ15_checkIndex_7cf53 0 = .ok (.iload_n 0, 1) := by decide +kernel
theorem dJ15_checkIndex_7cf53_1 : decode cJ15_checkIndex_7cf53 1 = .ok (.iload_n 1, 1) := by decide +kernel
theorem dJ15_checkIndex_7cf53_2 : decode cJ15_checkIndex_7cf53 2 = .ok (.aconst_null, 1) := by decide +kernel
theorem dJ15_checkIndex_7cf53_3 : decode cJ15_checkIndex_7cf53 3 = .ok (.invokestatic 105, 3) := by decide +kernel
theorem dJ15_checkIndex_7cf53_6 : decode cJ15_checkIndex_7cf53 6 = .ok (.ireturn, 1) := by decide +kernel
theorem dJ8_newLength_cabcc_0 : decode cJ8_newLength_cabcc 0 = .ok (.iload_n 0, 1) := by decide +kernel
theorem dJ8_newLength_cabcc_1 : decode cJ8_newLength_cabcc 1 = .ok (.iload_n 1, 1) := by decide +kernel
theorem dJ8_newLength_cabcc_2 : decode cJ8_newLength_cabcc 2 = .ok (.iload_n 2, 1) := by decide +kernel
theorem dJ8_newLength_cabcc_3 : decode cJ8_newLength_cabcc 3 = .ok (.invokestatic 194, 3) := by decide +kernel
theorem dJ8_newLength_cabcc_6 : decode cJ8_newLength_cabcc 6 = .ok (.iadd, 1) := by decide +kernel
theorem dJ8_newLength_cabcc_7 : decode cJ8_newLength_cabcc 7 = .ok (.istore_n 3, 1) := by decide +kernel
theorem dJ8_newLength_cabcc_8 : decode cJ8_newLength_cabcc 8 = .ok (.iconst 0, 1) := by decide +kernel
theorem dJ8_newLength_cabcc_9 : decode cJ8_newLength_cabcc 9 = .ok (.iload_n 3, 1) := by decide +kernel
theorem dJ8_newLength_cabcc_10 : decode cJ8_newLength_cabcc 10 = .ok (.if_icmp .ge 11, 3) := by decide +kernel
theorem dJ8_newLength_cabcc_13 : decode cJ8_newLength_cabcc 13 = .ok (.iload_n 3, 1) := by decide +kernel
theorem dJ8_newLength_cabcc_14 : decode cJ8_newLength_cabcc 14 = .ok (.ldc 200, 2) := by decide +kernel
theorem dJ8_newLength_cabcc_16 : decode cJ8_newLength_cabcc 16 = .ok (.if_icmp .gt 5, 3) := by decide +kernel
theorem dJ8_newLength_cabcc_19 : decode cJ8_newLength_cabcc 19 = .ok (.iload_n 3, 1) := by decide +kernel
theorem dJ8_newLength_cabcc_20 : decode cJ8_newLength_cabcc 20 = .ok (.ireturn, 1) := by decide +kernel
theorem dJ8_newLength_cabcc_21 : decode cJ8_newLength_cabcc 21 = .ok (.iload_n 0, 1) := by decide +kernel
theorem dJ8_newLength_cabcc_22 : decode cJ8_newLength_cabcc 22 = .ok (.iload_n 1, 1) := by decide +kernel
theorem dJ8_newLength_cabcc_23 : decode cJ8_newLength_cabcc 23 = .ok (.invokestatic 201, 3) := by decide +kernel
theorem dJ8_newLength_cabcc_26 : decode cJ8_newLength_cabcc 26 = .ok (.ireturn, 1) := by decide +kernel
theorem dJ8_hugeLength_7cf53_0 : decode cJ8_hugeLength_7cf53 0 = .ok (.iload_n 0, 1) := by decide +kernel
theorem dJ8_hugeLength_7cf53_1 : decode cJ8_hugeLength_7cf53 1 = .ok (.iload_n 1, 1) := by decide +kernel
theorem dJ8_hugeLength_7cf53_2 : decode cJ8_hugeLength_7cf53 2 = .ok (.iadd, 1) := by decide +kernel
theorem dJ8_hugeLength_7cf53_3 : decode cJ8_hugeLength_7cf53 3 = .ok (.istore_n 2, 1) := by decide +kernel
theorem dJ8_hugeLength_7cf53_4 : decode cJ8_hugeLength_7cf53 4 = .ok (.iload_n 2, 1) := by decide +kernel
theorem dJ8_hugeLength_7cf53_5 : decode cJ8_hugeLength_7cf53 5 = .ok (.ifCond .ge 44, 3) := by decide +kernel
theorem dJ8_hugeLength_7cf53_8 : decode cJ8_hugeLength_7cf53 8 = .ok (.new 204, 3) := by decide +kernel
theorem dJ8_hugeLength_7cf53_11 : decode cJ8_hugeLength_7cf53 11 = .ok (.dup, 1) := by decide +kernel
theorem dJ8_hugeLength_7cf53_12 : decode cJ8_hugeLength_7cf53 12 = .ok (.new 89, 3) := by decide +kernel
theorem dJ8_hugeLength_7cf53_15 : decode cJ8_hugeLength_7cf53 15 = .ok (.dup, 1) := by decide +kernel
theorem dJ8_hugeLength_7cf53_16 : decode cJ8_hugeLength_7cf53 16 = .ok (.invokespecial 91, 3) := by decide +kernel
theorem dJ8_hugeLength_7cf53_19 : decode cJ8_hugeLength_7cf53 19 = .ok (.ldc 206, 2) := by decide +kernel
theorem dJ8_hugeLength_7cf53_21 : decode cJ8_hugeLength_7cf53 21 = .ok (.invokevirtual 94, 3) := by decide +kernel
theorem dJ8_hugeLength_7cf53_24 : decode cJ8_hugeLength_7cf53 24 = .ok (.iload_n 0, 1) := by decide +kernel
theorem dJ8_hugeLength_7cf53_25 : decode cJ8_hugeLength_7cf53 25 = .ok (.invokevirtual 98, 3) := by decide +kernel
theorem dJ8_hugeLength_7cf53_28 : decode cJ8_hugeLength_7cf53 28 = .ok (.ldc 208, 2) := by decide +kernel
theorem dJ8_hugeLength_7cf53_30 : decode cJ8_hugeLength_7cf53 30 = .ok (.invokevirtual 94, 3) := by decide +kernel
theorem dJ8_hugeLength_7cf53_33 : decode cJ8_hugeLength_7cf53 33 = .ok (.iload_n 1, 1) := by decide +kernel
theorem dJ8_hugeLength_7cf53_34 : decode cJ8_hugeLength_7cf53 34 = .ok (.invokevirtual 98, 3) := by decide +kernel
theorem dJ8_hugeLength_7cf53_37 : decode cJ8_hugeLength_7cf53 37 = .ok (.ldc 210, 2) := by decide +kernel
theorem dJ8_hugeLength_7cf53_39 : decode cJ8_hugeLength_7cf53 39 = .ok (.invokevirtual 94, 3) := by decide +kernel
theorem dJ8_hugeLength_7cf53_42 : decode cJ8_hugeLength_7cf53 42 = .ok (.invokevirtual 101, 3) := by decide +kernel
theorem dJ8_hugeLength_7cf53_45 : decode cJ8_hugeLength_7cf53 45 = .ok (.invokespecial 212, 3) := by decide +kernel
theorem dJ8_hugeLength_7cf53_48 : decode cJ8_hugeLength_7cf53 48 = .ok (.athrow, 1) := by decide +kernel
theorem dJ8_hugeLength_7cf53_49 : decode cJ8_hugeLength_7cf53 49 = .ok (.iload_n 2, 1) := by decide +kernel
theorem dJ8_hugeLength_7cf53_50 : decode cJ8_hugeLength_7cf53 50 = .ok (.ldc 200, 2) := by decide +kernel
theorem dJ8_hugeLength_7cf53_52 : decode cJ8_hugeLength_7cf53 52 = .ok (.if_icmp .gt 6, 3) := by decide +kernel
theorem dJ8_hugeLength_7cf53_55 : decode cJ8_hugeLength_7cf53 55 = .ok (.ldc 200, 2) := by decide +kernel
theorem dJ8_hugeLength_7cf53_57 : decode cJ8_hugeLength_7cf53 57 = .ok (.ireturn, 1) := by decide +kernel
theorem dJ8_hugeLength_7cf53_58 : decode cJ8_hugeLength_7cf53 58 = .ok (.iload_n 2, 1) := by decide +kernel
theorem dJ8_hugeLength_7cf53_59 : decode cJ8_hugeLength_7cf53 59 = .ok (.ireturn, 1) := by decide +kernel
theorem dJ3_checkIndex_8e157_0 : decode cJ3_checkIndex_8e157 0 = .ok (.iload_n 0, 1) := by decide +kernel
theorem dJ3_checkIndex_8e157_1 : decode cJ3_checkIndex_8e157 1 = .ok (.ifCond .lt 8, 3) := by decide +kernel
theorem dJ3_checkIndex_8e157_4 : decode cJ3_checkIndex_8e157 4 = .ok (.iload_n 0, 1) := by decide +kernel
theorem dJ3_checkIndex_8e157_5 : decode cJ3_checkIndex_8e157 5 = .ok (.iload_n 1, 1) := by decide +kernel
theorem dJ3_checkIndex_8e157_6 : decode cJ3_checkIndex_8e157 6 = .ok (.if_icmp .lt 10, 3) := by decide +kernel
theorem dJ3_checkIndex_8e157_9 : decode cJ3_checkIndex_8e157 9 = .ok (.aload_n 2, 1) := by decide +kernel
theorem dJ3_checkIndex_8e157_10 : decode cJ3_checkIndex_8e157 10 = .ok (.iload_n 0, 1) := by decide +kernel
theorem dJ3_checkIndex_8e157_11 : decode cJ3_checkIndex_8e157 11 = .ok (.iload_n 1, 1) := by decide +kernel
theorem dJ3_checkIndex_8e157_12 : decode cJ3_checkIndex_8e157 12 = .ok (.invokestatic 95, 3) := by decide +kernel
theorem dJ3_checkIndex_8e157_15 : decode cJ3_checkIndex_8e157 15 = .ok (.athrow, 1) := by decide +kernel
theorem dJ3_checkIndex_8e157_16 : decode cJ3_checkIndex_8e157 16 = .ok (.iload_n 0, 1) := by decide +kernel
theorem dJ3_checkIndex_8e157_17 : decode cJ3_checkIndex_8e157 17 = .ok (.ireturn, 1) := by decide +kernel
theorem dJ3_checkFromToIndex_8c36e_0 : decode cJ3_checkFromToIndex_8c36e 0 = .ok (.iload_n 0, 1) := by decide +kernel
theorem dJ3_checkFromToIndex_8c36e_1 : decode cJ3_checkFromToIndex_8c36e 1 = .ok (.ifCond .lt 13, 3) := by decide +kernel
theorem dJ3_checkFromToIndex_8c36e_4 : decode cJ3_checkFromToIndex_8c36e 4 = .ok (.iload_n 0, 1) := by decide +kernel
theorem dJ3_checkFromToIndex_8c36e_5 : decode cJ3_checkFromToIndex_8c36e 5 = .ok (.iload_n 1, 1) := by decide +kernel
theorem dJ3_checkFromToIndex_8c36e_6 : decode cJ3_checkFromToIndex_8c36e 6 = .ok (.if_icmp .gt 8, 3) := by decide +kernel
theorem dJ3_checkFromToIndex_8c36e_9 : decode cJ3_checkFromToIndex_8c36e 9 = .ok (.iload_n 1, 1) := by decide +kernel
theorem dJ3_checkFromToIndex_8c36e_10 : decode cJ3_checkFromToIndex_8c36e 10 = .ok (.iload_n 2, 1) := by decide +kernel
theorem dJ3_checkFromToIndex_8c36e_11 : decode cJ3_checkFromToIndex_8c36e 11 = .ok (.if_icmp .le 11, 3) := by decide +kernel
theorem dJ3_checkFromToIndex_8c36e_14 : decode cJ3_checkFromToIndex_8c36e 14 = .ok (.aload_n 3, 1) := by decide +kernel
theorem dJ3_checkFromToIndex_8c36e_15 : decode cJ3_checkFromToIndex_8c36e 15 = .ok (.iload_n 0, 1) := by decide +kernel
theorem dJ3_checkFromToIndex_8c36e_16 : decode cJ3_checkFromToIndex_8c36e 16 = .ok (.iload_n 1, 1) := by decide +kernel
theorem dJ3_checkFromToIndex_8c36e_17 : decode cJ3_checkFromToIndex_8c36e 17 = .ok (.iload_n 2, 1) := by decide +kernel
theorem dJ3_checkFromToIndex_8c36e_18 : decode cJ3_checkFromToIndex_8c36e 18 = .ok (.invokestatic 99, 3) := by decide +kernel
theorem dJ3_checkFromToIndex_8c36e_21 : decode cJ3_checkFromToIndex_8c36e 21 = .ok (.athrow, 1) := by decide +kernel
theorem dJ3_checkFromToIndex_8c36e_22 : decode cJ3_checkFromToIndex_8c36e 22 = .ok (.iload_n 0, 1) := by decide +kernel
theorem dJ3_checkFromToIndex_8c36e_23 : decode cJ3_checkFromToIndex_8c36e 23 = .ok (.ireturn, 1) := by decide +kernel
theorem dJ3_checkFromIndexSize_8c36e_0 : decode cJ3_checkFromIndexSize_8c36e 0 = .ok (.iload_n 2, 1) := by decide +kernel
theorem dJ3_checkFromIndexSize_8c36e_1 : decode cJ3_checkFromIndexSize_8c36e 1 = .ok (.iload_n 0, 1) := by decide +kernel
theorem dJ3_checkFromIndexSize_8c36e_2 : decode cJ3_checkFromIndexSize_8c36e 2 = .ok (.ior, 1) := by decide +kernel
theorem dJ3_checkFromIndexSize_8c36e_3 : decode cJ3_checkFromIndexSize_8c36e 3 = .ok (.iload_n 1, 1) := by decide +kernel
theorem dJ3_checkFromIndexSize_8c36e_4 : decode cJ3_checkFromIndexSize_8c36e 4 = .ok (.ior, 1) := by decide +kernel
theorem dJ3_checkFromIndexSize_8c36e_5 : decode cJ3_checkFromIndexSize_8c36e 5 = .ok (.ifCond .lt 10, 3) := by decide +kernel
theorem dJ3_checkFromIndexSize_8c36e_8 : decode cJ3_checkFromIndexSize_8c36e 8 = .ok (.iload_n 1, 1) := by decide +kernel
theorem dJ3_checkFromIndexSize_8c36e_9 : decode cJ3_checkFromIndexSize_8c36e 9 = .ok (.iload_n 2, 1) := by decide +kernel
theorem dJ3_checkFromIndexSize_8c36e_10 : decode cJ3_checkFromIndexSize_8c36e 10 = .ok (.iload_n 0, 1) := by decide +kernel
theorem dJ3_checkFromIndexSize_8c36e_11 : decode cJ3_checkFromIndexSize_8c36e 11 = .ok (.isub, 1) := by decide +kernel
theorem dJ3_checkFromIndexSize_8c36e_12 : decode cJ3_checkFromIndexSize_8c36e 12 = .ok (.if_icmp .le 11, 3) := by decide +kernel
theorem dJ3_checkFromIndexSize_8c36e_15 : decode cJ3_checkFromIndexSize_8c36e 15 = .ok (.aload_n 3, 1) := by decide +kernel
theorem dJ3_checkFromIndexSize_8c36e_16 : decode cJ3_checkFromIndexSize_8c36e 16 = .ok (.iload_n 0, 1) := by decide +kernel
theorem dJ3_checkFromIndexSize_8c36e_17 : decode cJ3_checkFromIndexSize_8c36e 17 = .ok (.iload_n 1, 1) := by decide +kernel
theorem dJ3_checkFromIndexSize_8c36e_18 : decode cJ3_checkFromIndexSize_8c36e 18 = .ok (.iload_n 2, 1) := by decide +kernel
theorem dJ3_checkFromIndexSize_8c36e_19 : decode cJ3_checkFromIndexSize_8c36e 19 = .ok (.invokestatic 103, 3) := by decide +kernel
theorem dJ3_checkFromIndexSize_8c36e_22 : decode cJ3_checkFromIndexSize_8c36e 22 = .ok (.athrow, 1) := by decide +kernel
theorem dJ3_checkFromIndexSize_8c36e_23 : decode cJ3_checkFromIndexSize_8c36e 23 = .ok (.iload_n 0, 1) := by decide +kernel
theorem dJ3_checkFromIndexSize_8c36e_24 : decode cJ3_checkFromIndexSize_8c36e 24 = .ok (.ireturn, 1) := by decide +kernel
end
section
theorem dL_addBasin_0 : decode cL_addBasin 0 = .ok (.aload 6, 2) := by decide +kernel
theorem dL_addBasin_2 : decode cL_addBasin 2 = .ok (.iconst 0, 1) := by decide +kernel
theorem dL_addBasin_3 : decode cL_addBasin 3 = .ok (.aload_n 0, 1) := by decide +kernel
theorem dL_addBasin_4 : decode cL_addBasin 4 = .ok (.iload_n 1, 1) := by decide +kernel
theorem dL_addBasin_5 : decode cL_addBasin 5 = .ok (.iload_n 2, 1) := by decide +kernel
theorem dL_addBasin_6 : decode cL_addBasin 6 = .ok (.iload_n 3, 1) := by decide +kernel
theorem dL_addBasin_7 : decode cL_addBasin 7 = .ok (.iload 4, 2) := by decide +kernel
theorem dL_addBasin_9 : decode cL_addBasin 9 = .ok (.iload 5, 2) := by decide +kernel
theorem dL_addBasin_11 : decode cL_addBasin 11 = .ok (.invokevirtual 7, 3) := by decide +kernel
theorem dL_addBasin_14 : decode cL_addBasin 14 = .ok (.i2l, 1) := by decide +kernel
theorem dL_addBasin_15 : decode cL_addBasin 15 = .ok (.lastore, 1) := by decide +kernel
theorem dL_addBasin_16 : decode cL_addBasin 16 = .ok (.goto 15, 3) := by decide +kernel
theorem dL_addBasin_19 : decode cL_addBasin 19 = .ok (.astore 7, 2) := by decide +kernel
theorem dL_addBasin_21 : decode cL_addBasin 21 = .ok (.iconst 1, 1) := by decide +kernel
theorem dL_addBasin_22 : decode cL_addBasin 22 = .ok (.ireturn, 1) := by decide +kernel
theorem dL_addBasin_23 : decode cL_addBasin 23 = .ok (.astore 7, 2) := by decide +kernel
theorem dL_addBasin_25 : decode cL_addBasin 25 = .ok (.iconst 2, 1) := by decide +kernel
theorem dL_addBasin_26 : decode cL_addBasin 26 = .ok (.ireturn, 1) := by decide +kernel
theorem dL_addBasin_27 : decode cL_addBasin 27 = .ok (.astore 7, 2) := by decide +kernel
theorem dL_addBasin_29 : decode cL_addBasin 29 = .ok (.iconst 3, 1) := by decide +kernel
theorem dL_addBasin_30 : decode cL_addBasin 30 = .ok (.ireturn, 1) := by decide +kernel
theorem dL_addBasin_31 : decode cL_addBasin 31 = .ok (.iconst 0, 1) := by decide +kernel
theorem dL_addBasin_32 : decode cL_addBasin 32 = .ok (.ireturn, 1) := by decide +kernel
theorem dL_addCell_0 : decode cL_addCell 0 = .ok (.aload_n 3, 1) := by decide +kernel
theorem dL_addCell_1 : decode cL_addCell 1 = .ok (.iconst 0, 1) := by decide +kernel
theorem dL_addCell_2 : decode cL_addCell 2 = .ok (.aload_n 0, 1) := by decide +kernel
theorem dL_addCell_3 : decode cL_addCell 3 = .ok (.iload_n 1, 1) := by decide +kernel
theorem dL_addCell_4 : decode cL_addCell 4 = .ok (.iload_n 2, 1) := by decide +kernel
theorem dL_addCell_5 : decode cL_addCell 5 = .ok (.invokevirtual 19, 3) := by decide +kernel
theorem dL_addCell_8 : decode cL_addCell 8 = .ok (.i2l, 1) := by decide +kernel
theorem dL_addCell_9 : decode cL_addCell 9 = .ok (.lastore, 1) := by decide +kernel
theorem dL_addCell_10 : decode cL_addCell 10 = .ok (.goto 15, 3) := by decide +kernel
theorem dL_addCell_13 : decode cL_addCell 13 = .ok (.astore 4, 2) := by decide +kernel
theorem dL_addCell_15 : decode cL_addCell 15 = .ok (.iconst 1, 1) := by decide +kernel
theorem dL_addCell_16 : decode cL_addCell 16 = .ok (.ireturn, 1) := by decide +kernel
theorem dL_addCell_17 : decode cL_addCell 17 = .ok (.astore 4, 2) := by decide +kernel
theorem dL_addCell_19 : decode cL_addCell 19 = .ok (.iconst 2, 1) := by decide +kernel
theorem dL_addCell_20 : decode cL_addCell 20 = .ok (.ireturn, 1) := by decide +kernel
theorem dL_addCell_21 : decode cL_addCell 21 = .ok (.astore 4, 2) := by decide +kernel
theorem dL_addCell_23 : decode cL_addCell 23 = .ok (.iconst 3, 1) := by decide +kernel
theorem dL_addCell_24 : decode cL_addCell 24 = .ok (.ireturn, 1) := by decide +kernel
theorem dL_addCell_25 : decode cL_addCell 25 = .ok (.iconst 0, 1) := by decide +kernel
theorem dL_addCell_26 : decode cL_addCell 26 = .ok (.ireturn, 1) := by decide +kernel
theorem dL_cellCount_0 : decode cL_cellCount 0 = .ok (.aload_n 2, 1) := by decide +kernel
theorem dL_cellCount_1 : decode cL_cellCount 1 = .ok (.iconst 0, 1) := by decide +kernel
theorem dL_cellCount_2 : decode cL_cellCount 2 = .ok (.aload_n 0, 1) := by decide +kernel
theorem dL_cellCount_3 : decode cL_cellCount 3 = .ok (.iload_n 1, 1) := by decide +kernel
theorem dL_cellCount_4 : decode cL_cellCount 4 = .ok (.invokevirtual 23, 3) := by decide +kernel
theorem dL_cellCount_7 : decode cL_cellCount 7 = .ok (.i2l, 1) := by decide +kernel
theorem dL_cellCount_8 : decode cL_cellCount 8 = .ok (.lastore, 1) := by decide +kernel
theorem dL_cellCount_9 : decode cL_cellCount 9 = .ok (.goto 6, 3) := by decide +kernel
theorem dL_cellCount_12 : decode cL_cellCount 12 = .ok (.astore_n 3, 1) := by decide +kernel
theorem dL_cellCount_13 : decode cL_cellCount 13 = .ok (.iconst 1, 1) := by decide +kernel
theorem dL_cellCount_14 : decode cL_cellCount 14 = .ok (.ireturn, 1) := by decide +kernel
theorem dL_cellCount_15 : decode cL_cellCount 15 = .ok (.iconst 0, 1) := by decide +kernel
theorem dL_cellCount_16 : decode cL_cellCount 16 = .ok (.ireturn, 1) := by decide +kernel
theorem dL_capacityOf_0 : decode cL_capacityOf 0 = .ok (.aload_n 2, 1) := by decide +kernel
theorem dL_capacityOf_1 : decode cL_capacityOf 1 = .ok (.iconst 0, 1) := by decide +kernel
theorem dL_capacityOf_2 : decode cL_capacityOf 2 = .ok (.aload_n 0, 1) := by decide +kernel
theorem dL_capacityOf_3 : decode cL_capacityOf 3 = .ok (.iload_n 1, 1) := by decide +kernel
theorem dL_capacityOf_4 : decode cL_capacityOf 4 = .ok (.invokevirtual 27, 3) := by decide +kernel
theorem dL_capacityOf_7 : decode cL_capacityOf 7 = .ok (.i2l, 1) := by decide +kernel
theorem dL_capacityOf_8 : decode cL_capacityOf 8 = .ok (.lastore, 1) := by decide +kernel
theorem dL_capacityOf_9 : decode cL_capacityOf 9 = .ok (.goto 6, 3) := by decide +kernel
theorem dL_capacityOf_12 : decode cL_capacityOf 12 = .ok (.astore_n 3, 1) := by decide +kernel
theorem dL_capacityOf_13 : decode cL_capacityOf 13 = .ok (.iconst 1, 1) := by decide +kernel
theorem dL_capacityOf_14 : decode cL_capacityOf 14 = .ok (.ireturn, 1) := by decide +kernel
theorem dL_capacityOf_15 : decode cL_capacityOf 15 = .ok (.iconst 0, 1) := by decide +kernel
theorem dL_capacityOf_16 : decode cL_capacityOf 16 = .ok (.ireturn, 1) := by decide +kernel
theorem dL_setHand_0 : decode cL_setHand 0 = .ok (.aload_n 3, 1) := by decide +kernel
theorem dL_setHand_1 : decode cL_setHand 1 = .ok (.iconst 0, 1) := by decide +kernel
theorem dL_setHand_2 : decode cL_setHand 2 = .ok (.aload_n 0, 1) := by decide +kernel
theorem dL_setHand_3 : decode cL_setHand 3 = .ok (.iload_n 1, 1) := by decide +kernel
theorem dL_setHand_4 : decode cL_setHand 4 = .ok (.iload_n 2, 1) := by decide +kernel
theorem dL_setHand_5 : decode cL_setHand 5 = .ok (.invokevirtual 30, 3) := by decide +kernel
theorem dL_setHand_8 : decode cL_setHand 8 = .ok (.i2l, 1) := by decide +kernel
theorem dL_setHand_9 : decode cL_setHand 9 = .ok (.lastore, 1) := by decide +kernel
theorem dL_setHand_10 : decode cL_setHand 10 = .ok (.goto 11, 3) := by decide +kernel
theorem dL_setHand_13 : decode cL_setHand 13 = .ok (.astore 4, 2) := by decide +kernel
theorem dL_setHand_15 : decode cL_setHand 15 = .ok (.iconst 1, 1) := by decide +kernel
theorem dL_setHand_16 : decode cL_setHand 16 = .ok (.ireturn, 1) := by decide +kernel
theorem dL_setHand_17 : decode cL_setHand 17 = .ok (.astore 4, 2) := by decide +kernel
theorem dL_setHand_19 : decode cL_setHand 19 = .ok (.iconst 2, 1) := by decide +kernel
theorem dL_setHand_20 : decode cL_setHand 20 = .ok (.ireturn, 1) := by decide +kernel
theorem dL_setHand_21 : decode cL_setHand 21 = .ok (.iconst 0, 1) := by decide +kernel
theorem dL_setHand_22 : decode cL_setHand 22 = .ok (.ireturn, 1) := by decide +kernel
theorem dL_addRule_0 : decode cL_addRule 0 = .ok (.aload 6, 2) := by decide +kernel
theorem dL_addRule_2 : decode cL_addRule 2 = .ok (.iconst 0, 1) := by decide +kernel
theorem dL_addRule_3 : decode cL_addRule 3 = .ok (.aload_n 0, 1) := by decide +kernel
theorem dL_addRule_4 : decode cL_addRule 4 = .ok (.iload_n 1, 1) := by decide +kernel
theorem dL_addRule_5 : decode cL_addRule 5 = .ok (.iload_n 2, 1) := by decide +kernel
theorem dL_addRule_6 : decode cL_addRule 6 = .ok (.iload_n 3, 1) := by decide +kernel
theorem dL_addRule_7 : decode cL_addRule 7 = .ok (.iload 4, 2) := by decide +kernel
theorem dL_addRule_9 : decode cL_addRule 9 = .ok (.iload 5, 2) := by decide +kernel
theorem dL_addRule_11 : decode cL_addRule 11 = .ok (.invokevirtual 33, 3) := by decide +kernel
theorem dL_addRule_14 : decode cL_addRule 14 = .ok (.i2l, 1) := by decide +kernel
theorem dL_addRule_15 : decode cL_addRule 15 = .ok (.lastore, 1) := by decide +kernel
theorem dL_addRule_16 : decode cL_addRule 16 = .ok (.goto 15, 3) := by decide +kernel
theorem dL_addRule_19 : decode cL_addRule 19 = .ok (.astore 7, 2) := by decide +kernel
theorem dL_addRule_21 : decode cL_addRule 21 = .ok (.iconst 1, 1) := by decide +kernel
theorem dL_addRule_22 : decode cL_addRule 22 = .ok (.ireturn, 1) := by decide +kernel
theorem dL_addRule_23 : decode cL_addRule 23 = .ok (.astore 7, 2) := by decide +kernel
theorem dL_addRule_25 : decode cL_addRule 25 = .ok (.iconst 2, 1) := by decide +kernel
theorem dL_addRule_26 : decode cL_addRule 26 = .ok (.ireturn, 1) := by decide +kernel
theorem dL_addRule_27 : decode cL_addRule 27 = .ok (.astore 7, 2) := by decide +kernel
theorem dL_addRule_29 : decode cL_addRule 29 = .ok (.iconst 3, 1) := by decide +kernel
theorem dL_addRule_30 : decode cL_addRule 30 = .ok (.ireturn, 1) := by decide +kernel
theorem dL_addRule_31 : decode cL_addRule 31 = .ok (.iconst 0, 1) := by decide +kernel
theorem dL_addRule_32 : decode cL_addRule 32 = .ok (.ireturn, 1) := by decide +kernel
theorem dL_removeRule_0 : decode cL_removeRule 0 = .ok (.aload_n 2, 1) := by decide +kernel
theorem dL_removeRule_1 : decode cL_removeRule 1 = .ok (.iconst 0, 1) := by decide +kernel
theorem dL_removeRule_2 : decode cL_removeRule 2 = .ok (.aload_n 0, 1) := by decide +kernel
theorem dL_removeRule_3 : decode cL_removeRule 3 = .ok (.iload_n 1, 1) := by decide +kernel
theorem dL_removeRule_4 : decode cL_removeRule 4 = .ok (.invokevirtual 37, 3) := by decide +kernel
theorem dL_removeRule_7 : decode cL_removeRule 7 = .ok (.i2l, 1) := by decide +kernel
theorem dL_removeRule_8 : decode cL_removeRule 8 = .ok (.lastore, 1) := by decide +kernel
theorem dL_removeRule_9 : decode cL_removeRule 9 = .ok (.goto 6, 3) := by decide +kernel
theorem dL_removeRule_12 : decode cL_removeRule 12 = .ok (.astore_n 3, 1) := by decide +kernel
theorem dL_removeRule_13 : decode cL_removeRule 13 = .ok (.iconst 1, 1) := by decide +kernel
theorem dL_removeRule_14 : decode cL_removeRule 14 = .ok (.ireturn, 1) := by decide +kernel
theorem dL_removeRule_15 : decode cL_removeRule 15 = .ok (.iconst 0, 1) := by decide +kernel
theorem dL_removeRule_16 : decode cL_removeRule 16 = .ok (.ireturn, 1) := by decide +kernel
theorem dL_doesHold_0 : decode cL_doesHold 0 = .ok (.aload_n 2, 1) := by decide +kernel
theorem dL_doesHold_1 : decode cL_doesHold 1 = .ok (.iconst 0, 1) := by decide +kernel
theorem dL_doesHold_2 : decode cL_doesHold 2 = .ok (.aload_n 0, 1) := by decide +kernel
theorem dL_doesHold_3 : decode cL_doesHold 3 = .ok (.iload_n 1, 1) := by decide +kernel
theorem dL_doesHold_4 : decode cL_doesHold 4 = .ok (.invokevirtual 40, 3) := by decide +kernel
theorem dL_doesHold_7 : decode cL_doesHold 7 = .ok (.ifCond .eq 7, 3) := by decide +kernel
theorem dL_doesHold_10 : decode cL_doesHold 10 = .ok (.lconst 1, 1) := by decide +kernel
theorem dL_doesHold_11 : decode cL_doesHold 11 = .ok (.goto 4, 3) := by decide +kernel
theorem dL_doesHold_14 : decode cL_doesHold 14 = .ok (.lconst 0, 1) := by decide +kernel
theorem dL_doesHold_15 : decode cL_doesHold 15 = .ok (.lastore, 1) := by decide +kernel
theorem dL_doesHold_16 : decode cL_doesHold 16 = .ok (.goto 6, 3) := by decide +kernel
theorem dL_doesHold_19 : decode cL_doesHold 19 = .ok (.astore_n 3, 1) := by decide +kernel
theorem dL_doesHold_20 : decode cL_doesHold 20 = .ok (.iconst 1, 1) := by decide +kernel
theorem dL_doesHold_21 : decode cL_doesHold 21 = .ok (.ireturn, 1) := by decide +kernel
theorem dL_doesHold_22 : decode cL_doesHold 22 = .ok (.iconst 0, 1) := by decide +kernel
theorem dL_doesHold_23 : decode cL_doesHold 23 = .ok (.ireturn, 1) := by decide +kernel
theorem dL_openingNow_0 : decode cL_openingNow 0 = .ok (.aload_n 2, 1) := by decide +kernel
theorem dL_openingNow_1 : decode cL_openingNow 1 = .ok (.iconst 0, 1) := by decide +kernel
theorem dL_openingNow_2 : decode cL_openingNow 2 = .ok (.aload_n 0, 1) := by decide +kernel
theorem dL_openingNow_3 : decode cL_openingNow 3 = .ok (.iload_n 1, 1) := by decide +kernel
theorem dL_openingNow_4 : decode cL_openingNow 4 = .ok (.invokevirtual 44, 3) := by decide +kernel
theorem dL_openingNow_7 : decode cL_openingNow 7 = .ok (.i2l, 1) := by decide +kernel
theorem dL_openingNow_8 : decode cL_openingNow 8 = .ok (.lastore, 1) := by decide +kernel
theorem dL_openingNow_9 : decode cL_openingNow 9 = .ok (.goto 6, 3) := by decide +kernel
theorem dL_openingNow_12 : decode cL_openingNow 12 = .ok (.astore_n 3, 1) := by decide +kernel
theorem dL_openingNow_13 : decode cL_openingNow 13 = .ok (.iconst 1, 1) := by decide +kernel
theorem dL_openingNow_14 : decode cL_openingNow 14 = .ok (.ireturn, 1) := by decide +kernel
theorem dL_openingNow_15 : decode cL_openingNow 15 = .ok (.iconst 0, 1) := by decide +kernel
theorem dL_openingNow_16 : decode cL_openingNow 16 = .ok (.ireturn, 1) := by decide +kernel
theorem dL_setRain_0 : decode cL_setRain 0 = .ok (.aload_n 3, 1) := by decide +kernel
theorem dL_setRain_1 : decode cL_setRain 1 = .ok (.iconst 0, 1) := by decide +kernel
theorem dL_setRain_2 : decode cL_setRain 2 = .ok (.aload_n 0, 1) := by decide +kernel
theorem dL_setRain_3 : decode cL_setRain 3 = .ok (.iload_n 1, 1) := by decide +kernel
theorem dL_setRain_4 : decode cL_setRain 4 = .ok (.iload_n 2, 1) := by decide +kernel
theorem dL_setRain_5 : decode cL_setRain 5 = .ok (.invokevirtual 47, 3) := by decide +kernel
theorem dL_setRain_8 : decode cL_setRain 8 = .ok (.i2l, 1) := by decide +kernel
theorem dL_setRain_9 : decode cL_setRain 9 = .ok (.lastore, 1) := by decide +kernel
theorem dL_setRain_10 : decode cL_setRain 10 = .ok (.goto 11, 3) := by decide +kernel
theorem dL_setRain_13 : decode cL_setRain 13 = .ok (.astore 4, 2) := by decide +kernel
theorem dL_setRain_15 : decode cL_setRain 15 = .ok (.iconst 1, 1) := by decide +kernel
theorem dL_setRain_16 : decode cL_setRain 16 = .ok (.ireturn, 1) := by decide +kernel
theorem dL_setRain_17 : decode cL_setRain 17 = .ok (.astore 4, 2) := by decide +kernel
theorem dL_setRain_19 : decode cL_setRain 19 = .ok (.iconst 2, 1) := by decide +kernel
theorem dL_setRain_20 : decode cL_setRain 20 = .ok (.ireturn, 1) := by decide +kernel
theorem dL_setRain_21 : decode cL_setRain 21 = .ok (.iconst 0, 1) := by decide +kernel
theorem dL_setRain_22 : decode cL_setRain 22 = .ok (.ireturn, 1) := by decide +kernel
theorem dL_pass_0 : decode cL_pass 0 = .ok (.aload_n 2, 1) := by decide +kernel
theorem dL_pass_1 : decode cL_pass 1 = .ok (.iconst 0, 1) := by decide +kernel
theorem dL_pass_2 : decode cL_pass 2 = .ok (.aload_n 0, 1) := by decide +kernel
theorem dL_pass_3 : decode cL_pass 3 = .ok (.iload_n 1, 1) := by decide +kernel
theorem dL_pass_4 : decode cL_pass 4 = .ok (.invokevirtual 50, 3) := by decide +kernel
theorem dL_pass_7 : decode cL_pass 7 = .ok (.i2l, 1) := by decide +kernel
theorem dL_pass_8 : decode cL_pass 8 = .ok (.lastore, 1) := by decide +kernel
theorem dL_pass_9 : decode cL_pass 9 = .ok (.goto 9, 3) := by decide +kernel
theorem dL_pass_12 : decode cL_pass 12 = .ok (.astore_n 3, 1) := by decide +kernel
theorem dL_pass_13 : decode cL_pass 13 = .ok (.iconst 1, 1) := by decide +kernel
theorem dL_pass_14 : decode cL_pass 14 = .ok (.ireturn, 1) := by decide +kernel
theorem dL_pass_15 : decode cL_pass 15 = .ok (.astore_n 3, 1) := by decide +kernel
theorem dL_pass_16 : decode cL_pass 16 = .ok (.iconst 2, 1) := by decide +kernel
theorem dL_pass_17 : decode cL_pass 17 = .ok (.ireturn, 1) := by decide +kernel
theorem dL_pass_18 : decode cL_pass 18 = .ok (.iconst 0, 1) := by decide +kernel
theorem dL_pass_19 : decode cL_pass 19 = .ok (.ireturn, 1) := by decide +kernel
theorem dL_volumeOf_0 : decode cL_volumeOf 0 = .ok (.aload_n 2, 1) := by decide +kernel
theorem dL_volumeOf_1 : decode cL_volumeOf 1 = .ok (.iconst 0, 1) := by decide +kernel
theorem dL_volumeOf_2 : decode cL_volumeOf 2 = .ok (.aload_n 0, 1) := by decide +kernel
theorem dL_volumeOf_3 : decode cL_volumeOf 3 = .ok (.iload_n 1, 1) := by decide +kernel
theorem dL_volumeOf_4 : decode cL_volumeOf 4 = .ok (.invokevirtual 53, 3) := by decide +kernel
theorem dL_volumeOf_7 : decode cL_volumeOf 7 = .ok (.i2l, 1) := by decide +kernel
theorem dL_volumeOf_8 : decode cL_volumeOf 8 = .ok (.lastore, 1) := by decide +kernel
theorem dL_volumeOf_9 : decode cL_volumeOf 9 = .ok (.goto 6, 3) := by decide +kernel
theorem dL_volumeOf_12 : decode cL_volumeOf 12 = .ok (.astore_n 3, 1) := by decide +kernel
theorem dL_volumeOf_13 : decode cL_volumeOf 13 = .ok (.iconst 1, 1) := by decide +kernel
theorem dL_volumeOf_14 : decode cL_volumeOf 14 = .ok (.ireturn, 1) := by decide +kernel
theorem dL_volumeOf_15 : decode cL_volumeOf 15 = .ok (.iconst 0, 1) := by decide +kernel
theorem dL_volumeOf_16 : decode cL_volumeOf 16 = .ok (.ireturn, 1) := by decide +kernel
theorem dL_levelOf_0 : decode cL_levelOf 0 = .ok (.aload_n 2, 1) := by decide +kernel
theorem dL_levelOf_1 : decode cL_levelOf 1 = .ok (.iconst 0, 1) := by decide +kernel
theorem dL_levelOf_2 : decode cL_levelOf 2 = .ok (.aload_n 0, 1) := by decide +kernel
theorem dL_levelOf_3 : decode cL_levelOf 3 = .ok (.iload_n 1, 1) := by decide +kernel
theorem dL_levelOf_4 : decode cL_levelOf 4 = .ok (.invokevirtual 56, 3) := by decide +kernel
theorem dL_levelOf_7 : decode cL_levelOf 7 = .ok (.i2l, 1) := by decide +kernel
theorem dL_levelOf_8 : decode cL_levelOf 8 = .ok (.lastore, 1) := by decide +kernel
theorem dL_levelOf_9 : decode cL_levelOf 9 = .ok (.goto 6, 3) := by decide +kernel
theorem dL_levelOf_12 : decode cL_levelOf 12 = .ok (.astore_n 3, 1) := by decide +kernel
theorem dL_levelOf_13 : decode cL_levelOf 13 = .ok (.iconst 1, 1) := by decide +kernel
theorem dL_levelOf_14 : decode cL_levelOf 14 = .ok (.ireturn, 1) := by decide +kernel
theorem dL_levelOf_15 : decode cL_levelOf 15 = .ok (.iconst 0, 1) := by decide +kernel
theorem dL_levelOf_16 : decode cL_levelOf 16 = .ok (.ireturn, 1) := by decide +kernel
theorem dL_streetVolume_0 : decode cL_streetVolume 0 = .ok (.aload_n 2, 1) := by decide +kernel
theorem dL_streetVolume_1 : decode cL_streetVolume 1 = .ok (.iconst 0, 1) := by decide +kernel
theorem dL_streetVolume_2 : decode cL_streetVolume 2 = .ok (.aload_n 0, 1) := by decide +kernel
theorem dL_streetVolume_3 : decode cL_streetVolume 3 = .ok (.iload_n 1, 1) := by decide +kernel
theorem dL_streetVolume_4 : decode cL_streetVolume 4 = .ok (.invokevirtual 59, 3) := by decide +kernel
theorem dL_streetVolume_7 : decode cL_streetVolume 7 = .ok (.i2l, 1) := by decide +kernel
theorem dL_streetVolume_8 : decode cL_streetVolume 8 = .ok (.lastore, 1) := by decide +kernel
theorem dL_streetVolume_9 : decode cL_streetVolume 9 = .ok (.goto 6, 3) := by decide +kernel
theorem dL_streetVolume_12 : decode cL_streetVolume 12 = .ok (.astore_n 3, 1) := by decide +kernel
theorem dL_streetVolume_13 : decode cL_streetVolume 13 = .ok (.iconst 1, 1) := by decide +kernel
theorem dL_streetVolume_14 : decode cL_streetVolume 14 = .ok (.ireturn, 1) := by decide +kernel
theorem dL_streetVolume_15 : decode cL_streetVolume 15 = .ok (.iconst 0, 1) := by decide +kernel
theorem dL_streetVolume_16 : decode cL_streetVolume 16 = .ok (.ireturn, 1) := by decide +kernel
theorem dL_depthAt_0 : decode cL_depthAt 0 = .ok (.aload_n 3, 1) := by decide +kernel
theorem dL_depthAt_1 : decode cL_depthAt 1 = .ok (.iconst 0, 1) := by decide +kernel
theorem dL_depthAt_2 : decode cL_depthAt 2 = .ok (.aload_n 0, 1) := by decide +kernel
theorem dL_depthAt_3 : decode cL_depthAt 3 = .ok (.iload_n 1, 1) := by decide +kernel
theorem dL_depthAt_4 : decode cL_depthAt 4 = .ok (.iload_n 2, 1) := by decide +kernel
theorem dL_depthAt_5 : decode cL_depthAt 5 = .ok (.invokevirtual 62, 3) := by decide +kernel
theorem dL_depthAt_8 : decode cL_depthAt 8 = .ok (.i2l, 1) := by decide +kernel
theorem dL_depthAt_9 : decode cL_depthAt 9 = .ok (.lastore, 1) := by decide +kernel
theorem dL_depthAt_10 : decode cL_depthAt 10 = .ok (.goto 7, 3) := by decide +kernel
theorem dL_depthAt_13 : decode cL_depthAt 13 = .ok (.astore 4, 2) := by decide +kernel
theorem dL_depthAt_15 : decode cL_depthAt 15 = .ok (.iconst 1, 1) := by decide +kernel
theorem dL_depthAt_16 : decode cL_depthAt 16 = .ok (.ireturn, 1) := by decide +kernel
theorem dL_depthAt_17 : decode cL_depthAt 17 = .ok (.iconst 0, 1) := by decide +kernel
theorem dL_depthAt_18 : decode cL_depthAt 18 = .ok (.ireturn, 1) := by decide +kernel
theorem dL_depthByPouring_0 : decode cL_depthByPouring 0 = .ok (.aload_n 3, 1) := by decide +kernel
theorem dL_depthByPouring_1 : decode cL_depthByPouring 1 = .ok (.iconst 0, 1) := by decide +kernel
theorem dL_depthByPouring_2 : decode cL_depthByPouring 2 = .ok (.aload_n 0, 1) := by decide +kernel
theorem dL_depthByPouring_3 : decode cL_depthByPouring 3 = .ok (.iload_n 1, 1) := by decide +kernel
theorem dL_depthByPouring_4 : decode cL_depthByPouring 4 = .ok (.iload_n 2, 1) := by decide +kernel
theorem dL_depthByPouring_5 : decode cL_depthByPouring 5 = .ok (.invokevirtual 65, 3) := by decide +kernel
theorem dL_depthByPouring_8 : decode cL_depthByPouring 8 = .ok (.i2l, 1) := by decide +kernel
theorem dL_depthByPouring_9 : decode cL_depthByPouring 9 = .ok (.lastore, 1) := by decide +kernel
theorem dL_depthByPouring_10 : decode cL_depthByPouring 10 = .ok (.goto 7, 3) := by decide +kernel
theorem dL_depthByPouring_13 : decode cL_depthByPouring 13 = .ok (.astore 4, 2) := by decide +kernel
theorem dL_depthByPouring_15 : decode cL_depthByPouring 15 = .ok (.iconst 1, 1) := by decide +kernel
theorem dL_depthByPouring_16 : decode cL_depthByPouring 16 = .ok (.ireturn, 1) := by decide +kernel
theorem dL_depthByPouring_17 : decode cL_depthByPouring 17 = .ok (.iconst 0, 1) := by decide +kernel
theorem dL_depthByPouring_18 : decode cL_depthByPouring 18 = .ok (.ireturn, 1) := by decide +kernel
theorem dL_depthThen_0 : decode cL_depthThen 0 = .ok (.aload 4, 2) := by decide +kernel
theorem dL_depthThen_2 : decode cL_depthThen 2 = .ok (.iconst 0, 1) := by decide +kernel
theorem dL_depthThen_3 : decode cL_depthThen 3 = .ok (.aload_n 0, 1) := by decide +kernel
theorem dL_depthThen_4 : decode cL_depthThen 4 = .ok (.iload_n 1, 1) := by decide +kernel
theorem dL_depthThen_5 : decode cL_depthThen 5 = .ok (.iload_n 2, 1) := by decide +kernel
theorem dL_depthThen_6 : decode cL_depthThen 6 = .ok (.iload_n 3, 1) := by decide +kernel
theorem dL_depthThen_7 : decode cL_depthThen 7 = .ok (.invokevirtual 68, 3) := by decide +kernel
theorem dL_depthThen_10 : decode cL_depthThen 10 = .ok (.i2l, 1) := by decide +kernel
theorem dL_depthThen_11 : decode cL_depthThen 11 = .ok (.lastore, 1) := by decide +kernel
theorem dL_depthThen_12 : decode cL_depthThen 12 = .ok (.goto 11, 3) := by decide +kernel
theorem dL_depthThen_15 : decode cL_depthThen 15 = .ok (.astore 5, 2) := by decide +kernel
theorem dL_depthThen_17 : decode cL_depthThen 17 = .ok (.iconst 1, 1) := by decide +kernel
theorem dL_depthThen_18 : decode cL_depthThen 18 = .ok (.ireturn, 1) := by decide +kernel
theorem dL_depthThen_19 : decode cL_depthThen 19 = .ok (.astore 5, 2) := by decide +kernel
theorem dL_depthThen_21 : decode cL_depthThen 21 = .ok (.iconst 2, 1) := by decide +kernel
theorem dL_depthThen_22 : decode cL_depthThen 22 = .ok (.ireturn, 1) := by decide +kernel
theorem dL_depthThen_23 : decode cL_depthThen 23 = .ok (.iconst 0, 1) := by decide +kernel
theorem dL_depthThen_24 : decode cL_depthThen 24 = .ok (.ireturn, 1) := by decide +kernel
theorem dL_wetCells_0 : decode cL_wetCells 0 = .ok (.aload_n 2, 1) := by decide +kernel
theorem dL_wetCells_1 : decode cL_wetCells 1 = .ok (.iconst 0, 1) := by decide +kernel
theorem dL_wetCells_2 : decode cL_wetCells 2 = .ok (.aload_n 0, 1) := by decide +kernel
theorem dL_wetCells_3 : decode cL_wetCells 3 = .ok (.iload_n 1, 1) := by decide +kernel
theorem dL_wetCells_4 : decode cL_wetCells 4 = .ok (.invokevirtual 72, 3) := by decide +kernel
theorem dL_wetCells_7 : decode cL_wetCells 7 = .ok (.i2l, 1) := by decide +kernel
theorem dL_wetCells_8 : decode cL_wetCells 8 = .ok (.lastore, 1) := by decide +kernel
theorem dL_wetCells_9 : decode cL_wetCells 9 = .ok (.goto 6, 3) := by decide +kernel
theorem dL_wetCells_12 : decode cL_wetCells 12 = .ok (.astore_n 3, 1) := by decide +kernel
theorem dL_wetCells_13 : decode cL_wetCells 13 = .ok (.iconst 1, 1) := by decide +kernel
theorem dL_wetCells_14 : decode cL_wetCells 14 = .ok (.ireturn, 1) := by decide +kernel
theorem dL_wetCells_15 : decode cL_wetCells 15 = .ok (.iconst 0, 1) := by decide +kernel
theorem dL_wetCells_16 : decode cL_wetCells 16 = .ok (.ireturn, 1) := by decide +kernel
theorem dL_wetHours_0 : decode cL_wetHours 0 = .ok (.aload_n 3, 1) := by decide +kernel
theorem dL_wetHours_1 : decode cL_wetHours 1 = .ok (.iconst 0, 1) := by decide +kernel
theorem dL_wetHours_2 : decode cL_wetHours 2 = .ok (.aload_n 0, 1) := by decide +kernel
theorem dL_wetHours_3 : decode cL_wetHours 3 = .ok (.iload_n 1, 1) := by decide +kernel
theorem dL_wetHours_4 : decode cL_wetHours 4 = .ok (.iload_n 2, 1) := by decide +kernel
theorem dL_wetHours_5 : decode cL_wetHours 5 = .ok (.invokevirtual 75, 3) := by decide +kernel
theorem dL_wetHours_8 : decode cL_wetHours 8 = .ok (.i2l, 1) := by decide +kernel
theorem dL_wetHours_9 : decode cL_wetHours 9 = .ok (.lastore, 1) := by decide +kernel
theorem dL_wetHours_10 : decode cL_wetHours 10 = .ok (.goto 7, 3) := by decide +kernel
theorem dL_wetHours_13 : decode cL_wetHours 13 = .ok (.astore 4, 2) := by decide +kernel
theorem dL_wetHours_15 : decode cL_wetHours 15 = .ok (.iconst 1, 1) := by decide +kernel
theorem dL_wetHours_16 : decode cL_wetHours 16 = .ok (.ireturn, 1) := by decide +kernel
theorem dL_wetHours_17 : decode cL_wetHours 17 = .ok (.iconst 0, 1) := by decide +kernel
theorem dL_wetHours_18 : decode cL_wetHours 18 = .ok (.ireturn, 1) := by decide +kernel
theorem dL_addHouse_0 : decode cL_addHouse 0 = .ok (.aload 5, 2) := by decide +kernel
theorem dL_addHouse_2 : decode cL_addHouse 2 = .ok (.iconst 0, 1) := by decide +kernel
theorem dL_addHouse_3 : decode cL_addHouse 3 = .ok (.aload_n 0, 1) := by decide +kernel
theorem dL_addHouse_4 : decode cL_addHouse 4 = .ok (.iload_n 1, 1) := by decide +kernel
theorem dL_addHouse_5 : decode cL_addHouse 5 = .ok (.iload_n 2, 1) := by decide +kernel
theorem dL_addHouse_6 : decode cL_addHouse 6 = .ok (.iload_n 3, 1) := by decide +kernel
theorem dL_addHouse_7 : decode cL_addHouse 7 = .ok (.iload 4, 2) := by decide +kernel
theorem dL_addHouse_9 : decode cL_addHouse 9 = .ok (.invokevirtual 78, 3) := by decide +kernel
theorem dL_addHouse_12 : decode cL_addHouse 12 = .ok (.i2l, 1) := by decide +kernel
theorem dL_addHouse_13 : decode cL_addHouse 13 = .ok (.lastore, 1) := by decide +kernel
theorem dL_addHouse_14 : decode cL_addHouse 14 = .ok (.goto 15, 3) := by decide +kernel
theorem dL_addHouse_17 : decode cL_addHouse 17 = .ok (.astore 6, 2) := by decide +kernel
theorem dL_addHouse_19 : decode cL_addHouse 19 = .ok (.iconst 1, 1) := by decide +kernel
theorem dL_addHouse_20 : decode cL_addHouse 20 = .ok (.ireturn, 1) := by decide +kernel
theorem dL_addHouse_21 : decode cL_addHouse 21 = .ok (.astore 6, 2) := by decide +kernel
theorem dL_addHouse_23 : decode cL_addHouse 23 = .ok (.iconst 2, 1) := by decide +kernel
theorem dL_addHouse_24 : decode cL_addHouse 24 = .ok (.ireturn, 1) := by decide +kernel
theorem dL_addHouse_25 : decode cL_addHouse 25 = .ok (.astore 6, 2) := by decide +kernel
theorem dL_addHouse_27 : decode cL_addHouse 27 = .ok (.iconst 3, 1) := by decide +kernel
theorem dL_addHouse_28 : decode cL_addHouse 28 = .ok (.ireturn, 1) := by decide +kernel
theorem dL_addHouse_29 : decode cL_addHouse 29 = .ok (.iconst 0, 1) := by decide +kernel
theorem dL_addHouse_30 : decode cL_addHouse 30 = .ok (.ireturn, 1) := by decide +kernel
theorem dL_wasWet_0 : decode cL_wasWet 0 = .ok (.aload_n 3, 1) := by decide +kernel
theorem dL_wasWet_1 : decode cL_wasWet 1 = .ok (.iconst 0, 1) := by decide +kernel
theorem dL_wasWet_2 : decode cL_wasWet 2 = .ok (.aload_n 0, 1) := by decide +kernel
theorem dL_wasWet_3 : decode cL_wasWet 3 = .ok (.iload_n 1, 1) := by decide +kernel
theorem dL_wasWet_4 : decode cL_wasWet 4 = .ok (.iload_n 2, 1) := by decide +kernel
theorem dL_wasWet_5 : decode cL_wasWet 5 = .ok (.invokevirtual 82, 3) := by decide +kernel
theorem dL_wasWet_8 : decode cL_wasWet 8 = .ok (.ifCond .eq 7, 3) := by decide +kernel
theorem dL_wasWet_11 : decode cL_wasWet 11 = .ok (.lconst 1, 1) := by decide +kernel
theorem dL_wasWet_12 : decode cL_wasWet 12 = .ok (.goto 4, 3) := by decide +kernel
theorem dL_wasWet_15 : decode cL_wasWet 15 = .ok (.lconst 0, 1) := by decide +kernel
theorem dL_wasWet_16 : decode cL_wasWet 16 = .ok (.lastore, 1) := by decide +kernel
theorem dL_wasWet_17 : decode cL_wasWet 17 = .ok (.goto 11, 3) := by decide +kernel
theorem dL_wasWet_20 : decode cL_wasWet 20 = .ok (.astore 4, 2) := by decide +kernel
theorem dL_wasWet_22 : decode cL_wasWet 22 = .ok (.iconst 1, 1) := by decide +kernel
theorem dL_wasWet_23 : decode cL_wasWet 23 = .ok (.ireturn, 1) := by decide +kernel
theorem dL_wasWet_24 : decode cL_wasWet 24 = .ok (.astore 4, 2) := by decide +kernel
theorem dL_wasWet_26 : decode cL_wasWet 26 = .ok (.iconst 2, 1) := by decide +kernel
theorem dL_wasWet_27 : decode cL_wasWet 27 = .ok (.ireturn, 1) := by decide +kernel
theorem dL_wasWet_28 : decode cL_wasWet 28 = .ok (.iconst 0, 1) := by decide +kernel
theorem dL_wasWet_29 : decode cL_wasWet 29 = .ok (.ireturn, 1) := by decide +kernel
theorem dL_worthOf_0 : decode cL_worthOf 0 = .ok (.aload_n 3, 1) := by decide +kernel
theorem dL_worthOf_1 : decode cL_worthOf 1 = .ok (.iconst 0, 1) := by decide +kernel
theorem dL_worthOf_2 : decode cL_worthOf 2 = .ok (.aload_n 0, 1) := by decide +kernel
theorem dL_worthOf_3 : decode cL_worthOf 3 = .ok (.iload_n 1, 1) := by decide +kernel
theorem dL_worthOf_4 : decode cL_worthOf 4 = .ok (.iload_n 2, 1) := by decide +kernel
theorem dL_worthOf_5 : decode cL_worthOf 5 = .ok (.invokevirtual 86, 3) := by decide +kernel
theorem dL_worthOf_8 : decode cL_worthOf 8 = .ok (.i2l, 1) := by decide +kernel
theorem dL_worthOf_9 : decode cL_worthOf 9 = .ok (.lastore, 1) := by decide +kernel
theorem dL_worthOf_10 : decode cL_worthOf 10 = .ok (.goto 11, 3) := by decide +kernel
theorem dL_worthOf_13 : decode cL_worthOf 13 = .ok (.astore 4, 2) := by decide +kernel
theorem dL_worthOf_15 : decode cL_worthOf 15 = .ok (.iconst 1, 1) := by decide +kernel
theorem dL_worthOf_16 : decode cL_worthOf 16 = .ok (.ireturn, 1) := by decide +kernel
theorem dL_worthOf_17 : decode cL_worthOf 17 = .ok (.astore 4, 2) := by decide +kernel
theorem dL_worthOf_19 : decode cL_worthOf 19 = .ok (.iconst 2, 1) := by decide +kernel
theorem dL_worthOf_20 : decode cL_worthOf 20 = .ok (.ireturn, 1) := by decide +kernel
theorem dL_worthOf_21 : decode cL_worthOf 21 = .ok (.iconst 0, 1) := by decide +kernel
theorem dL_worthOf_22 : decode cL_worthOf 22 = .ok (.ireturn, 1) := by decide +kernel
theorem dL_claim_0 : decode cL_claim 0 = .ok (.aload_n 3, 1) := by decide +kernel
theorem dL_claim_1 : decode cL_claim 1 = .ok (.iconst 0, 1) := by decide +kernel
theorem dL_claim_2 : decode cL_claim 2 = .ok (.aload_n 0, 1) := by decide +kernel
theorem dL_claim_3 : decode cL_claim 3 = .ok (.iload_n 1, 1) := by decide +kernel
theorem dL_claim_4 : decode cL_claim 4 = .ok (.iload_n 2, 1) := by decide +kernel
theorem dL_claim_5 : decode cL_claim 5 = .ok (.invokevirtual 89, 3) := by decide +kernel
theorem dL_claim_8 : decode cL_claim 8 = .ok (.i2l, 1) := by decide +kernel
theorem dL_claim_9 : decode cL_claim 9 = .ok (.lastore, 1) := by decide +kernel
theorem dL_claim_10 : decode cL_claim 10 = .ok (.goto 19, 3) := by decide +kernel
theorem dL_claim_13 : decode cL_claim 13 = .ok (.astore 4, 2) := by decide +kernel
theorem dL_claim_15 : decode cL_claim 15 = .ok (.iconst 1, 1) := by decide +kernel
theorem dL_claim_16 : decode cL_claim 16 = .ok (.ireturn, 1) := by decide +kernel
theorem dL_claim_17 : decode cL_claim 17 = .ok (.astore 4, 2) := by decide +kernel
theorem dL_claim_19 : decode cL_claim 19 = .ok (.iconst 2, 1) := by decide +kernel
theorem dL_claim_20 : decode cL_claim 20 = .ok (.ireturn, 1) := by decide +kernel
theorem dL_claim_21 : decode cL_claim 21 = .ok (.astore 4, 2) := by decide +kernel
theorem dL_claim_23 : decode cL_claim 23 = .ok (.iconst 3, 1) := by decide +kernel
theorem dL_claim_24 : decode cL_claim 24 = .ok (.ireturn, 1) := by decide +kernel
theorem dL_claim_25 : decode cL_claim 25 = .ok (.astore 4, 2) := by decide +kernel
theorem dL_claim_27 : decode cL_claim 27 = .ok (.iconst 4, 1) := by decide +kernel
theorem dL_claim_28 : decode cL_claim 28 = .ok (.ireturn, 1) := by decide +kernel
theorem dL_claim_29 : decode cL_claim 29 = .ok (.iconst 0, 1) := by decide +kernel
theorem dL_claim_30 : decode cL_claim 30 = .ok (.ireturn, 1) := by decide +kernel
theorem dL_claimWorst_0 : decode cL_claimWorst 0 = .ok (.aload_n 2, 1) := by decide +kernel
theorem dL_claimWorst_1 : decode cL_claimWorst 1 = .ok (.iconst 0, 1) := by decide +kernel
theorem dL_claimWorst_2 : decode cL_claimWorst 2 = .ok (.aload_n 0, 1) := by decide +kernel
theorem dL_claimWorst_3 : decode cL_claimWorst 3 = .ok (.iload_n 1, 1) := by decide +kernel
theorem dL_claimWorst_4 : decode cL_claimWorst 4 = .ok (.invokevirtual 94, 3) := by decide +kernel
theorem dL_claimWorst_7 : decode cL_claimWorst 7 = .ok (.i2l, 1) := by decide +kernel
theorem dL_claimWorst_8 : decode cL_claimWorst 8 = .ok (.lastore, 1) := by decide +kernel
theorem dL_claimWorst_9 : decode cL_claimWorst 9 = .ok (.goto 9, 3) := by decide +kernel
theorem dL_claimWorst_12 : decode cL_claimWorst 12 = .ok (.astore_n 3, 1) := by decide +kernel
theorem dL_claimWorst_13 : decode cL_claimWorst 13 = .ok (.iconst 1, 1) := by decide +kernel
theorem dL_claimWorst_14 : decode cL_claimWorst 14 = .ok (.ireturn, 1) := by decide +kernel
theorem dL_claimWorst_15 : decode cL_claimWorst 15 = .ok (.astore_n 3, 1) := by decide +kernel
theorem dL_claimWorst_16 : decode cL_claimWorst 16 = .ok (.iconst 2, 1) := by decide +kernel
theorem dL_claimWorst_17 : decode cL_claimWorst 17 = .ok (.ireturn, 1) := by decide +kernel
theorem dL_claimWorst_18 : decode cL_claimWorst 18 = .ok (.iconst 0, 1) := by decide +kernel
theorem dL_claimWorst_19 : decode cL_claimWorst 19 = .ok (.ireturn, 1) := by decide +kernel
theorem dL_claimCount_0 : decode cL_claimCount 0 = .ok (.aload_n 2, 1) := by decide +kernel
theorem dL_claimCount_1 : decode cL_claimCount 1 = .ok (.iconst 0, 1) := by decide +kernel
theorem dL_claimCount_2 : decode cL_claimCount 2 = .ok (.aload_n 0, 1) := by decide +kernel
theorem dL_claimCount_3 : decode cL_claimCount 3 = .ok (.iload_n 1, 1) := by decide +kernel
theorem dL_claimCount_4 : decode cL_claimCount 4 = .ok (.invokevirtual 99, 3) := by decide +kernel
theorem dL_claimCount_7 : decode cL_claimCount 7 = .ok (.i2l, 1) := by decide +kernel
theorem dL_claimCount_8 : decode cL_claimCount 8 = .ok (.lastore, 1) := by decide +kernel
theorem dL_claimCount_9 : decode cL_claimCount 9 = .ok (.goto 6, 3) := by decide +kernel
theorem dL_claimCount_12 : decode cL_claimCount 12 = .ok (.astore_n 3, 1) := by decide +kernel
theorem dL_claimCount_13 : decode cL_claimCount 13 = .ok (.iconst 1, 1) := by decide +kernel
theorem dL_claimCount_14 : decode cL_claimCount 14 = .ok (.ireturn, 1) := by decide +kernel
theorem dL_claimCount_15 : decode cL_claimCount 15 = .ok (.iconst 0, 1) := by decide +kernel
theorem dL_claimCount_16 : decode cL_claimCount 16 = .ok (.ireturn, 1) := by decide +kernel
theorem dL_paidTo_0 : decode cL_paidTo 0 = .ok (.aload_n 2, 1) := by decide +kernel
theorem dL_paidTo_1 : decode cL_paidTo 1 = .ok (.iconst 0, 1) := by decide +kernel
theorem dL_paidTo_2 : decode cL_paidTo 2 = .ok (.aload_n 0, 1) := by decide +kernel
theorem dL_paidTo_3 : decode cL_paidTo 3 = .ok (.iload_n 1, 1) := by decide +kernel
theorem dL_paidTo_4 : decode cL_paidTo 4 = .ok (.invokevirtual 102, 3) := by decide +kernel
theorem dL_paidTo_7 : decode cL_paidTo 7 = .ok (.i2l, 1) := by decide +kernel
theorem dL_paidTo_8 : decode cL_paidTo 8 = .ok (.lastore, 1) := by decide +kernel
theorem dL_paidTo_9 : decode cL_paidTo 9 = .ok (.goto 6, 3) := by decide +kernel
theorem dL_paidTo_12 : decode cL_paidTo 12 = .ok (.astore_n 3, 1) := by decide +kernel
theorem dL_paidTo_13 : decode cL_paidTo 13 = .ok (.iconst 1, 1) := by decide +kernel
theorem dL_paidTo_14 : decode cL_paidTo 14 = .ok (.ireturn, 1) := by decide +kernel
theorem dL_paidTo_15 : decode cL_paidTo 15 = .ok (.iconst 0, 1) := by decide +kernel
theorem dL_paidTo_16 : decode cL_paidTo 16 = .ok (.ireturn, 1) := by decide +kernel
theorem dL_meanPayment_0 : decode cL_meanPayment 0 = .ok (.aload_n 1, 1) := by decide +kernel
theorem dL_meanPayment_1 : decode cL_meanPayment 1 = .ok (.iconst 0, 1) := by decide +kernel
theorem dL_meanPayment_2 : decode cL_meanPayment 2 = .ok (.aload_n 0, 1) := by decide +kernel
theorem dL_meanPayment_3 : decode cL_meanPayment 3 = .ok (.invokevirtual 105, 3) := by decide +kernel
theorem dL_meanPayment_6 : decode cL_meanPayment 6 = .ok (.dastore, 1) := by decide +kernel
theorem dL_meanPayment_7 : decode cL_meanPayment 7 = .ok (.goto 6, 3) := by decide +kernel
theorem dL_meanPayment_10 : decode cL_meanPayment 10 = .ok (.astore_n 2, 1) := by decide +kernel
theorem dL_meanPayment_11 : decode cL_meanPayment 11 = .ok (.iconst 1, 1) := by decide +kernel
theorem dL_meanPayment_12 : decode cL_meanPayment 12 = .ok (.ireturn, 1) := by decide +kernel
theorem dL_meanPayment_13 : decode cL_meanPayment 13 = .ok (.iconst 0, 1) := by decide +kernel
theorem dL_meanPayment_14 : decode cL_meanPayment 14 = .ok (.ireturn, 1) := by decide +kernel
theorem dL_floodedWithOpening_0 : decode cL_floodedWithOpening 0 = .ok (.aload_n 3, 1) := by decide +kernel
theorem dL_floodedWithOpening_1 : decode cL_floodedWithOpening 1 = .ok (.iconst 0, 1) := by decide +kernel
theorem dL_floodedWithOpening_2 : decode cL_floodedWithOpening 2 = .ok (.aload_n 0, 1) := by decide +kernel
theorem dL_floodedWithOpening_3 : decode cL_floodedWithOpening 3 = .ok (.iload_n 1, 1) := by decide +kernel
theorem dL_floodedWithOpening_4 : decode cL_floodedWithOpening 4 = .ok (.iload_n 2, 1) := by decide +kernel
theorem dL_floodedWithOpening_5 : decode cL_floodedWithOpening 5 = .ok (.invokevirtual 111, 3) := by decide +kernel
theorem dL_floodedWithOpening_8 : decode cL_floodedWithOpening 8 = .ok (.i2l, 1) := by decide +kernel
theorem dL_floodedWithOpening_9 : decode cL_floodedWithOpening 9 = .ok (.lastore, 1) := by decide +kernel
theorem dL_floodedWithOpening_10 : decode cL_floodedWithOpening 10 = .ok (.goto 11, 3) := by decide +kernel
theorem dL_floodedWithOpening_13 : decode cL_floodedWithOpening 13 = .ok (.astore 4, 2) := by decide +kernel
theorem dL_floodedWithOpening_15 : decode cL_floodedWithOpening 15 = .ok (.iconst 1, 1) := by decide +kernel
theorem dL_floodedWithOpening_16 : decode cL_floodedWithOpening 16 = .ok (.ireturn, 1) := by decide +kernel
theorem dL_floodedWithOpening_17 : decode cL_floodedWithOpening 17 = .ok (.astore 4, 2) := by decide +kernel
theorem dL_floodedWithOpening_19 : decode cL_floodedWithOpening 19 = .ok (.iconst 2, 1) := by decide +kernel
theorem dL_floodedWithOpening_20 : decode cL_floodedWithOpening 20 = .ok (.ireturn, 1) := by decide +kernel
theorem dL_floodedWithOpening_21 : decode cL_floodedWithOpening 21 = .ok (.iconst 0, 1) := by decide +kernel
theorem dL_floodedWithOpening_22 : decode cL_floodedWithOpening 22 = .ok (.ireturn, 1) := by decide +kernel
theorem dL_bestOpening_0 : decode cL_bestOpening 0 = .ok (.aload_n 2, 1) := by decide +kernel
theorem dL_bestOpening_1 : decode cL_bestOpening 1 = .ok (.iconst 0, 1) := by decide +kernel
theorem dL_bestOpening_2 : decode cL_bestOpening 2 = .ok (.aload_n 0, 1) := by decide +kernel
theorem dL_bestOpening_3 : decode cL_bestOpening 3 = .ok (.iload_n 1, 1) := by decide +kernel
theorem dL_bestOpening_4 : decode cL_bestOpening 4 = .ok (.invokevirtual 114, 3) := by decide +kernel
theorem dL_bestOpening_7 : decode cL_bestOpening 7 = .ok (.i2l, 1) := by decide +kernel
theorem dL_bestOpening_8 : decode cL_bestOpening 8 = .ok (.lastore, 1) := by decide +kernel
theorem dL_bestOpening_9 : decode cL_bestOpening 9 = .ok (.goto 6, 3) := by decide +kernel
theorem dL_bestOpening_12 : decode cL_bestOpening 12 = .ok (.astore_n 3, 1) := by decide +kernel
theorem dL_bestOpening_13 : decode cL_bestOpening 13 = .ok (.iconst 1, 1) := by decide +kernel
theorem dL_bestOpening_14 : decode cL_bestOpening 14 = .ok (.ireturn, 1) := by decide +kernel
theorem dL_bestOpening_15 : decode cL_bestOpening 15 = .ok (.iconst 0, 1) := by decide +kernel
theorem dL_bestOpening_16 : decode cL_bestOpening 16 = .ok (.ireturn, 1) := by decide +kernel
theorem dL_writeRule_0 : decode cL_writeRule 0 = .ok (.aload_n 2, 1) := by decide +kernel
theorem dL_writeRule_1 : decode cL_writeRule 1 = .ok (.iconst 0, 1) := by decide +kernel
theorem dL_writeRule_2 : decode cL_writeRule 2 = .ok (.aload_n 0, 1) := by decide +kernel
theorem dL_writeRule_3 : decode cL_writeRule 3 = .ok (.iload_n 1, 1) := by decide +kernel
theorem dL_writeRule_4 : decode cL_writeRule 4 = .ok (.invokevirtual 117, 3) := by decide +kernel
theorem dL_writeRule_7 : decode cL_writeRule 7 = .ok (.i2l, 1) := by decide +kernel
theorem dL_writeRule_8 : decode cL_writeRule 8 = .ok (.lastore, 1) := by decide +kernel
theorem dL_writeRule_9 : decode cL_writeRule 9 = .ok (.goto 6, 3) := by decide +kernel
theorem dL_writeRule_12 : decode cL_writeRule 12 = .ok (.astore_n 3, 1) := by decide +kernel
theorem dL_writeRule_13 : decode cL_writeRule 13 = .ok (.iconst 1, 1) := by decide +kernel
theorem dL_writeRule_14 : decode cL_writeRule 14 = .ok (.ireturn, 1) := by decide +kernel
theorem dL_writeRule_15 : decode cL_writeRule 15 = .ok (.iconst 0, 1) := by decide +kernel
theorem dL_writeRule_16 : decode cL_writeRule 16 = .ok (.ireturn, 1) := by decide +kernel
theorem dL_lineAt_0 : decode cL_lineAt 0 = .ok (.aload_n 2, 1) := by decide +kernel
theorem dL_lineAt_1 : decode cL_lineAt 1 = .ok (.iconst 0, 1) := by decide +kernel
theorem dL_lineAt_2 : decode cL_lineAt 2 = .ok (.aload_n 0, 1) := by decide +kernel
theorem dL_lineAt_3 : decode cL_lineAt 3 = .ok (.iload_n 1, 1) := by decide +kernel
theorem dL_lineAt_4 : decode cL_lineAt 4 = .ok (.invokevirtual 120, 3) := by decide +kernel
theorem dL_lineAt_7 : decode cL_lineAt 7 = .ok (.i2l, 1) := by decide +kernel
theorem dL_lineAt_8 : decode cL_lineAt 8 = .ok (.lastore, 1) := by decide +kernel
theorem dL_lineAt_9 : decode cL_lineAt 9 = .ok (.goto 6, 3) := by decide +kernel
theorem dL_lineAt_12 : decode cL_lineAt 12 = .ok (.astore_n 3, 1) := by decide +kernel
theorem dL_lineAt_13 : decode cL_lineAt 13 = .ok (.iconst 1, 1) := by decide +kernel
theorem dL_lineAt_14 : decode cL_lineAt 14 = .ok (.ireturn, 1) := by decide +kernel
theorem dL_lineAt_15 : decode cL_lineAt 15 = .ok (.iconst 0, 1) := by decide +kernel
theorem dL_lineAt_16 : decode cL_lineAt 16 = .ok (.ireturn, 1) := by decide +kernel
end
section
theorem dL_law_0 : decode cL_law 0 = .ok (.new 8, 3) := by decide +kernel
theorem dL_law_3 : decode cL_law 3 = .ok (.dup, 1) := by decide +kernel
theorem dL_law_4 : decode cL_law 4 = .ok (.invokespecial 124, 3) := by decide +kernel
theorem dL_law_7 : decode cL_law 7 = .ok (.astore_n 1, 1) := by decide +kernel
theorem dL_law_8 : decode cL_law 8 = .ok (.new 125, 3) := by decide +kernel
theorem dL_law_11 : decode cL_law 11 = .ok (.dup, 1) := by decide +kernel
theorem dL_law_12 : decode cL_law 12 = .ok (.invokespecial 127, 3) := by decide +kernel
theorem dL_law_15 : decode cL_law 15 = .ok (.astore_n 2, 1) := by decide +kernel
theorem dL_law_16 : decode cL_law 16 = .ok (.iconst 1, 1) := by decide +kernel
theorem dL_law_17 : decode cL_law 17 = .ok (.newarray .long, 2) := by decide +kernel
theorem dL_law_19 : decode cL_law 19 = .ok (.astore_n 3, 1) := by decide +kernel
theorem dL_law_20 : decode cL_law 20 = .ok (.iconst 1, 1) := by decide +kernel
theorem dL_law_21 : decode cL_law 21 = .ok (.newarray .double, 2) := by decide +kernel
theorem dL_law_23 : decode cL_law 23 = .ok (.astore 4, 2) := by decide +kernel
theorem dL_law_25 : decode cL_law 25 = .ok (.iconst 0, 1) := by decide +kernel
theorem dL_law_26 : decode cL_law 26 = .ok (.istore 5, 2) := by decide +kernel
theorem dL_law_28 : decode cL_law 28 = .ok (.iload 5, 2) := by decide +kernel
theorem dL_law_30 : decode cL_law 30 = .ok (.aload_n 0, 1) := by decide +kernel
theorem dL_law_31 : decode cL_law 31 = .ok (.arraylength, 1) := by decide +kernel
theorem dL_law_32 : decode cL_law 32 = .ok (.bipush 6, 2) := by decide +kernel
theorem dL_law_34 : decode cL_law 34 = .ok (.isub, 1) := by decide +kernel
theorem dL_law_35 : decode cL_law 35 = .ok (.if_icmp .gt 2394, 3) := by decide +kernel
theorem dL_law_38 : decode cL_law 38 = .ok (.aload_n 0, 1) := by decide +kernel
theorem dL_law_39 : decode cL_law 39 = .ok (.iload 5, 2) := by decide +kernel
theorem dL_law_41 : decode cL_law 41 = .ok (.iaload, 1) := by decide +kernel
theorem dL_law_42 : decode cL_law 42 = .ok (.bipush 63, 2) := by decide +kernel
theorem dL_law_44 : decode cL_law 44 = .ok (.iand, 1) := by decide +kernel
theorem dL_law_45 : decode cL_law 45 = .ok (.tableswitch 2378 0 41 #[183, 287, 355, 368, 424, 480, 548, 668, 724, 737, 800, 856, 924, 980, 993, 1049, 1105, 1161, 1174, 1187, 1200, 1213, 1281, 1349, 1429, 1485, 1553, 1566, 1658, 1671, 1746, 1814, 1882, 1938, 1994, 2050, 2064, 2129, 2142, 2210, 2266, 2322], 183) := by decide +kernel
theorem dL_law_228 : decode cL_law 228 = .ok (.aload_n 1, 1) := by decide +kernel
theorem dL_law_229 : decode cL_law 229 = .ok (.aload_n 0, 1) := by decide +kernel
theorem dL_law_230 : decode cL_law 230 = .ok (.iload 5, 2) := by decide +kernel
theorem dL_law_232 : decode cL_law 232 = .ok (.iconst 1, 1) := by decide +kernel
theorem dL_law_233 : decode cL_law 233 = .ok (.iadd, 1) := by decide +kernel
theorem dL_law_234 : decode cL_law 234 = .ok (.iaload, 1) := by decide +kernel
theorem dL_law_235 : decode cL_law 235 = .ok (.aload_n 0, 1) := by decide +kernel
theorem dL_law_236 : decode cL_law 236 = .ok (.iload 5, 2) := by decide +kernel
theorem dL_law_238 : decode cL_law 238 = .ok (.iconst 2, 1) := by decide +kernel
theorem dL_law_239 : decode cL_law 239 = .ok (.iadd, 1) := by decide +kernel
theorem dL_law_240 : decode cL_law 240 = .ok (.iaload, 1) := by decide +kernel
theorem dL_law_241 : decode cL_law 241 = .ok (.aload_n 0, 1) := by decide +kernel
theorem dL_law_242 : decode cL_law 242 = .ok (.iload 5, 2) := by decide +kernel
theorem dL_law_244 : decode cL_law 244 = .ok (.iconst 3, 1) := by decide +kernel
theorem dL_law_245 : decode cL_law 245 = .ok (.iadd, 1) := by decide +kernel
theorem dL_law_246 : decode cL_law 246 = .ok (.iaload, 1) := by decide +kernel
theorem dL_law_247 : decode cL_law 247 = .ok (.aload_n 0, 1) := by decide +kernel
theorem dL_law_248 : decode cL_law 248 = .ok (.iload 5, 2) := by decide +kernel
theorem dL_law_250 : decode cL_law 250 = .ok (.iconst 4, 1) := by decide +kernel
theorem dL_law_251 : decode cL_law 251 = .ok (.iadd, 1) := by decide +kernel
theorem dL_law_252 : decode cL_law 252 = .ok (.iaload, 1) := by decide +kernel
theorem dL_law_253 : decode cL_law 253 = .ok (.aload_n 0, 1) := by decide +kernel
theorem dL_law_254 : decode cL_law 254 = .ok (.iload 5, 2) := by decide +kernel
theorem dL_law_256 : decode cL_law 256 = .ok (.iconst 5, 1) := by decide +kernel
theorem dL_law_257 : decode cL_law 257 = .ok (.iadd, 1) := by decide +kernel
theorem dL_law_258 : decode cL_law 258 = .ok (.iaload, 1) := by decide +kernel
theorem dL_law_259 : decode cL_law 259 = .ok (.aload_n 3, 1) := by decide +kernel
theorem dL_law_260 : decode cL_law 260 = .ok (.invokestatic 128, 3) := by decide +kernel
theorem dL_law_263 : decode cL_law 263 = .ok (.istore 6, 2) := by decide +kernel
theorem dL_law_265 : decode cL_law 265 = .ok (.aload_n 2, 1) := by decide +kernel
theorem dL_law_266 : decode cL_law 266 = .ok (.aload_n 0, 1) := by decide +kernel
theorem dL_law_267 : decode cL_law 267 = .ok (.iload 5, 2) := by decide +kernel
theorem dL_law_269 : decode cL_law 269 = .ok (.iconst 1, 1) := by decide +kernel
theorem dL_law_270 : decode cL_law 270 = .ok (.iadd, 1) := by decide +kernel
theorem dL_law_271 : decode cL_law 271 = .ok (.iaload, 1) := by decide +kernel
theorem dL_law_272 : decode cL_law 272 = .ok (.aload_n 0, 1) := by decide +kernel
theorem dL_law_273 : decode cL_law 273 = .ok (.iload 5, 2) := by decide +kernel
theorem dL_law_275 : decode cL_law 275 = .ok (.iconst 2, 1) := by decide +kernel
theorem dL_law_276 : decode cL_law 276 = .ok (.iadd, 1) := by decide +kernel
theorem dL_law_277 : decode cL_law 277 = .ok (.iaload, 1) := by decide +kernel
theorem dL_law_278 : decode cL_law 278 = .ok (.aload_n 0, 1) := by decide +kernel
theorem dL_law_279 : decode cL_law 279 = .ok (.iload 5, 2) := by decide +kernel
theorem dL_law_281 : decode cL_law 281 = .ok (.iconst 3, 1) := by decide +kernel
theorem dL_law_282 : decode cL_law 282 = .ok (.iadd, 1) := by decide +kernel
theorem dL_law_283 : decode cL_law 283 = .ok (.iaload, 1) := by decide +kernel
theorem dL_law_284 : decode cL_law 284 = .ok (.aload_n 0, 1) := by decide +kernel
theorem dL_law_285 : decode cL_law 285 = .ok (.iload 5, 2) := by decide +kernel
theorem dL_law_287 : decode cL_law 287 = .ok (.iconst 4, 1) := by decide +kernel
theorem dL_law_288 : decode cL_law 288 = .ok (.iadd, 1) := by decide +kernel
theorem dL_law_289 : decode cL_law 289 = .ok (.iaload, 1) := by decide +kernel
theorem dL_law_290 : decode cL_law 290 = .ok (.aload_n 0, 1) := by decide +kernel
theorem dL_law_291 : decode cL_law 291 = .ok (.iload 5, 2) := by decide +kernel
theorem dL_law_293 : decode cL_law 293 = .ok (.iconst 5, 1) := by decide +kernel
theorem dL_law_294 : decode cL_law 294 = .ok (.iadd, 1) := by decide +kernel
theorem dL_law_295 : decode cL_law 295 = .ok (.iaload, 1) := by decide +kernel
theorem dL_law_296 : decode cL_law 296 = .ok (.invokevirtual 133, 3) := by decide +kernel
theorem dL_law_299 : decode cL_law 299 = .ok (.istore 7, 2) := by decide +kernel
theorem dL_law_301 : decode cL_law 301 = .ok (.aload_n 2, 1) := by decide +kernel
theorem dL_law_302 : decode cL_law 302 = .ok (.invokevirtual 134, 3) := by decide +kernel
theorem dL_law_305 : decode cL_law 305 = .ok (.iload 6, 2) := by decide +kernel
theorem dL_law_307 : decode cL_law 307 = .ok (.if_icmp .eq 5, 3) := by decide +kernel
theorem dL_law_310 : decode cL_law 310 = .ok (.iconst 0, 1) := by decide +kernel
theorem dL_law_311 : decode cL_law 311 = .ok (.ireturn, 1) := by decide +kernel
theorem dL_law_312 : decode cL_law 312 = .ok (.iload 6, 2) := by decide +kernel
theorem dL_law_314 : decode cL_law 314 = .ok (.ifCond .ne 15, 3) := by decide +kernel
theorem dL_law_317 : decode cL_law 317 = .ok (.aload_n 3, 1) := by decide +kernel
theorem dL_law_318 : decode cL_law 318 = .ok (.iconst 0, 1) := by decide +kernel
theorem dL_law_319 : decode cL_law 319 = .ok (.laload, 1) := by decide +kernel
theorem dL_law_320 : decode cL_law 320 = .ok (.iload 7, 2) := by decide +kernel
theorem dL_law_322 : decode cL_law 322 = .ok (.i2l, 1) := by decide +kernel
theorem dL_law_323 : decode cL_law 323 = .ok (.lcmp, 1) := by decide +kernel
theorem dL_law_324 : decode cL_law 324 = .ok (.ifCond .eq 5, 3) := by decide +kernel
theorem dL_law_327 : decode cL_law 327 = .ok (.iconst 0, 1) := by decide +kernel
theorem dL_law_328 : decode cL_law 328 = .ok (.ireturn, 1) := by decide +kernel
theorem dL_law_329 : decode cL_law 329 = .ok (.goto 2094, 3) := by decide +kernel
theorem dL_law_332 : decode cL_law 332 = .ok (.aload_n 1, 1) := by decide +kernel
theorem dL_law_333 : decode cL_law 333 = .ok (.aload_n 0, 1) := by decide +kernel
theorem dL_law_334 : decode cL_law 334 = .ok (.iload 5, 2) := by decide +kernel
theorem dL_law_336 : decode cL_law 336 = .ok (.iconst 1, 1) := by decide +kernel
theorem dL_law_337 : decode cL_law 337 = .ok (.iadd, 1) := by decide +kernel
theorem dL_law_338 : decode cL_law 338 = .ok (.iaload, 1) := by decide +kernel
theorem dL_law_339 : decode cL_law 339 = .ok (.aload_n 0, 1) := by decide +kernel
theorem dL_law_340 : decode cL_law 340 = .ok (.iload 5, 2) := by decide +kernel
theorem dL_law_342 : decode cL_law 342 = .ok (.iconst 2, 1) := by decide +kernel
theorem dL_law_343 : decode cL_law 343 = .ok (.iadd, 1) := by decide +kernel
theorem dL_law_344 : decode cL_law 344 = .ok (.iaload, 1) := by decide +kernel
theorem dL_law_345 : decode cL_law 345 = .ok (.aload_n 3, 1) := by decide +kernel
theorem dL_law_346 : decode cL_law 346 = .ok (.invokestatic 138, 3) := by decide +kernel
theorem dL_law_349 : decode cL_law 349 = .ok (.istore 6, 2) := by decide +kernel
theorem dL_law_351 : decode cL_law 351 = .ok (.aload_n 2, 1) := by decide +kernel
theorem dL_law_352 : decode cL_law 352 = .ok (.aload_n 0, 1) := by decide +kernel
theorem dL_law_353 : decode cL_law 353 = .ok (.iload 5, 2) := by decide +kernel
theorem dL_law_355 : decode cL_law 355 = .ok (.iconst 1, 1) := by decide +kernel
theorem dL_law_356 : decode cL_law 356 = .ok (.iadd, 1) := by decide +kernel
theorem dL_law_357 : decode cL_law 357 = .ok (.iaload, 1) := by decide +kernel
theorem dL_law_358 : decode cL_law 358 = .ok (.aload_n 0, 1) := by decide +kernel
theorem dL_law_359 : decode cL_law 359 = .ok (.iload 5, 2) := by decide +kernel
theorem dL_law_361 : decode cL_law 361 = .ok (.iconst 2, 1) := by decide +kernel
theorem dL_law_362 : decode cL_law 362 = .ok (.iadd, 1) := by decide +kernel
theorem dL_law_363 : decode cL_law 363 = .ok (.iaload, 1) := by decide +kernel
theorem dL_law_364 : decode cL_law 364 = .ok (.invokevirtual 141, 3) := by decide +kernel
theorem dL_law_367 : decode cL_law 367 = .ok (.istore 7, 2) := by decide +kernel
theorem dL_law_369 : decode cL_law 369 = .ok (.aload_n 2, 1) := by decide +kernel
theorem dL_law_370 : decode cL_law 370 = .ok (.invokevirtual 134, 3) := by decide +kernel
theorem dL_law_373 : decode cL_law 373 = .ok (.iload 6, 2) := by decide +kernel
theorem dL_law_375 : decode cL_law 375 = .ok (.if_icmp .eq 5, 3) := by decide +kernel
theorem dL_law_378 : decode cL_law 378 = .ok (.iconst 0, 1) := by decide +kernel
theorem dL_law_379 : decode cL_law 379 = .ok (.ireturn, 1) := by decide +kernel
theorem dL_law_380 : decode cL_law 380 = .ok (.iload 6, 2) := by decide +kernel
theorem dL_law_382 : decode cL_law 382 = .ok (.ifCond .ne 15, 3) := by decide +kernel
theorem dL_law_385 : decode cL_law 385 = .ok (.aload_n 3, 1) := by decide +kernel
theorem dL_law_386 : decode cL_law 386 = .ok (.iconst 0, 1) := by decide +kernel
theorem dL_law_387 : decode cL_law 387 = .ok (.laload, 1) := by decide +kernel
theorem dL_law_388 : decode cL_law 388 = .ok (.iload 7, 2) := by decide +kernel
theorem dL_law_390 : decode cL_law 390 = .ok (.i2l, 1) := by decide +kernel
theorem dL_law_391 : decode cL_law 391 = .ok (.lcmp, 1) := by decide +kernel
theorem dL_law_392 : decode cL_law 392 = .ok (.ifCond .eq 5, 3) := by decide +kernel
theorem dL_law_395 : decode cL_law 395 = .ok (.iconst 0, 1) := by decide +kernel
theorem dL_law_396 : decode cL_law 396 = .ok (.ireturn, 1) := by decide +kernel
theorem dL_law_397 : decode cL_law 397 = .ok (.goto 2026, 3) := by decide +kernel
theorem dL_law_400 : decode cL_law 400 = .ok (.aload_n 1, 1) := by decide +kernel
theorem dL_law_401 : decode cL_law 401 = .ok (.invokevirtual 142, 3) := by decide +kernel
theorem dL_law_404 : decode cL_law 404 = .ok (.aload_n 2, 1) := by decide +kernel
theorem dL_law_405 : decode cL_law 405 = .ok (.invokevirtual 145, 3) := by decide +kernel
theorem dL_law_408 : decode cL_law 408 = .ok (.if_icmp .eq 2015, 3) := by decide +kernel
theorem dL_law_411 : decode cL_law 411 = .ok (.iconst 0, 1) := by decide +kernel
theorem dL_law_412 : decode cL_law 412 = .ok (.ireturn, 1) := by decide +kernel
theorem dL_law_413 : decode cL_law 413 = .ok (.aload_n 1, 1) := by decide +kernel
theorem dL_law_414 : decode cL_law 414 = .ok (.aload_n 0, 1) := by decide +kernel
theorem dL_law_415 : decode cL_law 415 = .ok (.iload 5, 2) := by decide +kernel
theorem dL_law_417 : decode cL_law 417 = .ok (.iconst 1, 1) := by decide +kernel
theorem dL_law_418 : decode cL_law 418 = .ok (.iadd, 1) := by decide +kernel
theorem dL_law_419 : decode cL_law 419 = .ok (.iaload, 1) := by decide +kernel
theorem dL_law_420 : decode cL_law 420 = .ok (.aload_n 3, 1) := by decide +kernel
theorem dL_law_421 : decode cL_law 421 = .ok (.invokestatic 146, 3) := by decide +kernel
theorem dL_law_424 : decode cL_law 424 = .ok (.istore 6, 2) := by decide +kernel
theorem dL_law_426 : decode cL_law 426 = .ok (.aload_n 2, 1) := by decide +kernel
theorem dL_law_427 : decode cL_law 427 = .ok (.aload_n 0, 1) := by decide +kernel
theorem dL_law_428 : decode cL_law 428 = .ok (.iload 5, 2) := by decide +kernel
theorem dL_law_430 : decode cL_law 430 = .ok (.iconst 1, 1) := by decide +kernel
theorem dL_law_431 : decode cL_law 431 = .ok (.iadd, 1) := by decide +kernel
theorem dL_law_432 : decode cL_law 432 = .ok (.iaload, 1) := by decide +kernel
theorem dL_law_433 : decode cL_law 433 = .ok (.invokevirtual 149, 3) := by decide +kernel
theorem dL_law_436 : decode cL_law 436 = .ok (.istore 7, 2) := by decide +kernel
theorem dL_law_438 : decode cL_law 438 = .ok (.aload_n 2, 1) := by decide +kernel
theorem dL_law_439 : decode cL_law 439 = .ok (.invokevirtual 134, 3) := by decide +kernel
theorem dL_law_442 : decode cL_law 442 = .ok (.iload 6, 2) := by decide +kernel
theorem dL_law_444 : decode cL_law 444 = .ok (.if_icmp .eq 5, 3) := by decide +kernel
theorem dL_law_447 : decode cL_law 447 = .ok (.iconst 0, 1) := by decide +kernel
theorem dL_law_448 : decode cL_law 448 = .ok (.ireturn, 1) := by decide +kernel
theorem dL_law_449 : decode cL_law 449 = .ok (.iload 6, 2) := by decide +kernel
theorem dL_law_451 : decode cL_law 451 = .ok (.ifCond .ne 15, 3) := by decide +kernel
theorem dL_law_454 : decode cL_law 454 = .ok (.aload_n 3, 1) := by decide +kernel
theorem dL_law_455 : decode cL_law 455 = .ok (.iconst 0, 1) := by decide +kernel
theorem dL_law_456 : decode cL_law 456 = .ok (.laload, 1) := by decide +kernel
theorem dL_law_457 : decode cL_law 457 = .ok (.iload 7, 2) := by decide +kernel
theorem dL_law_459 : decode cL_law 459 = .ok (.i2l, 1) := by decide +kernel
theorem dL_law_460 : decode cL_law 460 = .ok (.lcmp, 1) := by decide +kernel
theorem dL_law_461 : decode cL_law 461 = .ok (.ifCond .eq 5, 3) := by decide +kernel
theorem dL_law_464 : decode cL_law 464 = .ok (.iconst 0, 1) := by decide +kernel
theorem dL_law_465 : decode cL_law 465 = .ok (.ireturn, 1) := by decide +kernel
theorem dL_law_466 : decode cL_law 466 = .ok (.goto 1957, 3) := by decide +kernel
theorem dL_law_469 : decode cL_law 469 = .ok (.aload_n 1, 1) := by decide +kernel
theorem dL_law_470 : decode cL_law 470 = .ok (.aload_n 0, 1) := by decide +kernel
theorem dL_law_471 : decode cL_law 471 = .ok (.iload 5, 2) := by decide +kernel
theorem dL_law_473 : decode cL_law 473 = .ok (.iconst 1, 1) := by decide +kernel
theorem dL_law_474 : decode cL_law 474 = .ok (.iadd, 1) := by decide +kernel
theorem dL_law_475 : decode cL_law 475 = .ok (.iaload, 1) := by decide +kernel
theorem dL_law_476 : decode cL_law 476 = .ok (.aload_n 3, 1) := by decide +kernel
theorem dL_law_477 : decode cL_law 477 = .ok (.invokestatic 150, 3) := by decide +kernel
theorem dL_law_480 : decode cL_law 480 = .ok (.istore 6, 2) := by decide +kernel
theorem dL_law_482 : decode cL_law 482 = .ok (.aload_n 2, 1) := by decide +kernel
theorem dL_law_483 : decode cL_law 483 = .ok (.aload_n 0, 1) := by decide +kernel
theorem dL_law_484 : decode cL_law 484 = .ok (.iload 5, 2) := by decide +kernel
theorem dL_law_486 : decode cL_law 486 = .ok (.iconst 1, 1) := by decide +kernel
theorem dL_law_487 : decode cL_law 487 = .ok (.iadd, 1) := by decide +kernel
theorem dL_law_488 : decode cL_law 488 = .ok (.iaload, 1) := by decide +kernel
theorem dL_law_489 : decode cL_law 489 = .ok (.invokevirtual 152, 3) := by decide +kernel
theorem dL_law_492 : decode cL_law 492 = .ok (.istore 7, 2) := by decide +kernel
theorem dL_law_494 : decode cL_law 494 = .ok (.aload_n 2, 1) := by decide +kernel
theorem dL_law_495 : decode cL_law 495 = .ok (.invokevirtual 134, 3) := by decide +kernel
theorem dL_law_498 : decode cL_law 498 = .ok (.iload 6, 2) := by decide +kernel
theorem dL_law_500 : decode cL_law 500 = .ok (.if_icmp .eq 5, 3) := by decide +kernel
theorem dL_law_503 : decode cL_law 503 = .ok (.iconst 0, 1) := by decide +kernel
theorem dL_law_504 : decode cL_law 504 = .ok (.ireturn, 1) := by decide +kernel
theorem dL_law_505 : decode cL_law 505 = .ok (.iload 6, 2) := by decide +kernel
theorem dL_law_507 : decode cL_law 507 = .ok (.ifCond .ne 15, 3) := by decide +kernel
theorem dL_law_510 : decode cL_law 510 = .ok (.aload_n 3, 1) := by decide +kernel
theorem dL_law_511 : decode cL_law 511 = .ok (.iconst 0, 1) := by decide +kernel
theorem dL_law_512 : decode cL_law 512 = .ok (.laload, 1) := by decide +kernel
theorem dL_law_513 : decode cL_law 513 = .ok (.iload 7, 2) := by decide +kernel
theorem dL_law_515 : decode cL_law 515 = .ok (.i2l, 1) := by decide +kernel
theorem dL_law_516 : decode cL_law 516 = .ok (.lcmp, 1) := by decide +kernel
theorem dL_law_517 : decode cL_law 517 = .ok (.ifCond .eq 5, 3) := by decide +kernel
theorem dL_law_520 : decode cL_law 520 = .ok (.iconst 0, 1) := by decide +kernel
theorem dL_law_521 : decode cL_law 521 = .ok (.ireturn, 1) := by decide +kernel
theorem dL_law_522 : decode cL_law 522 = .ok (.goto 1901, 3) := by decide +kernel
theorem dL_law_525 : decode cL_law 525 = .ok (.aload_n 1, 1) := by decide +kernel
theorem dL_law_526 : decode cL_law 526 = .ok (.aload_n 0, 1) := by decide +kernel
theorem dL_law_527 : decode cL_law 527 = .ok (.iload 5, 2) := by decide +kernel
theorem dL_law_529 : decode cL_law 529 = .ok (.iconst 1, 1) := by decide +kernel
theorem dL_law_530 : decode cL_law 530 = .ok (.iadd, 1) := by decide +kernel
theorem dL_law_531 : decode cL_law 531 = .ok (.iaload, 1) := by decide +kernel
theorem dL_law_532 : decode cL_law 532 = .ok (.aload_n 0, 1) := by decide +kernel
theorem dL_law_533 : decode cL_law 533 = .ok (.iload 5, 2) := by decide +kernel
theorem dL_law_535 : decode cL_law 535 = .ok (.iconst 2, 1) := by decide +kernel
theorem dL_law_536 : decode cL_law 536 = .ok (.iadd, 1) := by decide +kernel
theorem dL_law_537 : decode cL_law 537 = .ok (.iaload, 1) := by decide +kernel
theorem dL_law_538 : decode cL_law 538 = .ok (.aload_n 3, 1) := by decide +kernel
theorem dL_law_539 : decode cL_law 539 = .ok (.invokestatic 153, 3) := by decide +kernel
theorem dL_law_542 : decode cL_law 542 = .ok (.istore 6, 2) := by decide +kernel
theorem dL_law_544 : decode cL_law 544 = .ok (.aload_n 2, 1) := by decide +kernel
theorem dL_law_545 : decode cL_law 545 = .ok (.aload_n 0, 1) := by decide +kernel
theorem dL_law_546 : decode cL_law 546 = .ok (.iload 5, 2) := by decide +kernel
theorem dL_law_548 : decode cL_law 548 = .ok (.iconst 1, 1) := by decide +kernel
theorem dL_law_549 : decode cL_law 549 = .ok (.iadd, 1) := by decide +kernel
theorem dL_law_550 : decode cL_law 550 = .ok (.iaload, 1) := by decide +kernel
theorem dL_law_551 : decode cL_law 551 = .ok (.aload_n 0, 1) := by decide +kernel
theorem dL_law_552 : decode cL_law 552 = .ok (.iload 5, 2) := by decide +kernel
theorem dL_law_554 : decode cL_law 554 = .ok (.iconst 2, 1) := by decide +kernel
theorem dL_law_555 : decode cL_law 555 = .ok (.iadd, 1) := by decide +kernel
theorem dL_law_556 : decode cL_law 556 = .ok (.iaload, 1) := by decide +kernel
theorem dL_law_557 : decode cL_law 557 = .ok (.invokevirtual 155, 3) := by decide +kernel
theorem dL_law_560 : decode cL_law 560 = .ok (.istore 7, 2) := by decide +kernel
theorem dL_law_562 : decode cL_law 562 = .ok (.aload_n 2, 1) := by decide +kernel
theorem dL_law_563 : decode cL_law 563 = .ok (.invokevirtual 134, 3) := by decide +kernel
theorem dL_law_566 : decode cL_law 566 = .ok (.iload 6, 2) := by decide +kernel
theorem dL_law_568 : decode cL_law 568 = .ok (.if_icmp .eq 5, 3) := by decide +kernel
theorem dL_law_571 : decode cL_law 571 = .ok (.iconst 0, 1) := by decide +kernel
theorem dL_law_572 : decode cL_law 572 = .ok (.ireturn, 1) := by decide +kernel
theorem dL_law_573 : decode cL_law 573 = .ok (.iload 6, 2) := by decide +kernel
theorem dL_law_575 : decode cL_law 575 = .ok (.ifCond .ne 15, 3) := by decide +kernel
theorem dL_law_578 : decode cL_law 578 = .ok (.aload_n 3, 1) := by decide +kernel
theorem dL_law_579 : decode cL_law 579 = .ok (.iconst 0, 1) := by decide +kernel
theorem dL_law_580 : decode cL_law 580 = .ok (.laload, 1) := by decide +kernel
theorem dL_law_581 : decode cL_law 581 = .ok (.iload 7, 2) := by decide +kernel
theorem dL_law_583 : decode cL_law 583 = .ok (.i2l, 1) := by decide +kernel
theorem dL_law_584 : decode cL_law 584 = .ok (.lcmp, 1) := by decide +kernel
theorem dL_law_585 : decode cL_law 585 = .ok (.ifCond .eq 5, 3) := by decide +kernel
theorem dL_law_588 : decode cL_law 588 = .ok (.iconst 0, 1) := by decide +kernel
theorem dL_law_589 : decode cL_law 589 = .ok (.ireturn, 1) := by decide +kernel
theorem dL_law_590 : decode cL_law 590 = .ok (.goto 1833, 3) := by decide +kernel
theorem dL_law_593 : decode cL_law 593 = .ok (.aload_n 1, 1) := by decide +kernel
theorem dL_law_594 : decode cL_law 594 = .ok (.aload_n 0, 1) := by decide +kernel
theorem dL_law_595 : decode cL_law 595 = .ok (.iload 5, 2) := by decide +kernel
theorem dL_law_597 : decode cL_law 597 = .ok (.iconst 1, 1) := by decide +kernel
theorem dL_law_598 : decode cL_law 598 = .ok (.iadd, 1) := by decide +kernel
theorem dL_law_599 : decode cL_law 599 = .ok (.iaload, 1) := by decide +kernel
theorem dL_law_600 : decode cL_law 600 = .ok (.aload_n 0, 1) := by decide +kernel
theorem dL_law_601 : decode cL_law 601 = .ok (.iload 5, 2) := by decide +kernel
theorem dL_law_603 : decode cL_law 603 = .ok (.iconst 2, 1) := by decide +kernel
theorem dL_law_604 : decode cL_law 604 = .ok (.iadd, 1) := by decide +kernel
theorem dL_law_605 : decode cL_law 605 = .ok (.iaload, 1) := by decide +kernel
theorem dL_law_606 : decode cL_law 606 = .ok (.aload_n 0, 1) := by decide +kernel
theorem dL_law_607 : decode cL_law 607 = .ok (.iload 5, 2) := by decide +kernel
theorem dL_law_609 : decode cL_law 609 = .ok (.iconst 3, 1) := by decide +kernel
theorem dL_law_610 : decode cL_law 610 = .ok (.iadd, 1) := by decide +kernel
theorem dL_law_611 : decode cL_law 611 = .ok (.iaload, 1) := by decide +kernel
theorem dL_law_612 : decode cL_law 612 = .ok (.ifCond .eq 7, 3) := by decide +kernel
theorem dL_law_615 : decode cL_law 615 = .ok (.iconst 1, 1) := by decide +kernel
theorem dL_law_616 : decode cL_law 616 = .ok (.goto 4, 3) := by decide +kernel
theorem dL_law_619 : decode cL_law 619 = .ok (.iconst 0, 1) := by decide +kernel
theorem dL_law_620 : decode cL_law 620 = .ok (.aload_n 0, 1) := by decide +kernel
theorem dL_law_621 : decode cL_law 621 = .ok (.iload 5, 2) := by decide +kernel
theorem dL_law_623 : decode cL_law 623 = .ok (.iconst 4, 1) := by decide +kernel
theorem dL_law_624 : decode cL_law 624 = .ok (.iadd, 1) := by decide +kernel
theorem dL_law_625 : decode cL_law 625 = .ok (.iaload, 1) := by decide +kernel
theorem dL_law_626 : decode cL_law 626 = .ok (.aload_n 0, 1) := by decide +kernel
theorem dL_law_627 : decode cL_law 627 = .ok (.iload 5, 2) := by decide +kernel
theorem dL_law_629 : decode cL_law 629 = .ok (.iconst 5, 1) := by decide +kernel
theorem dL_law_630 : decode cL_law 630 = .ok (.iadd, 1) := by decide +kernel
theorem dL_law_631 : decode cL_law 631 = .ok (.iaload, 1) := by decide +kernel
theorem dL_law_632 : decode cL_law 632 = .ok (.aload_n 3, 1) := by decide +kernel
theorem dL_law_633 : decode cL_law 633 = .ok (.invokestatic 156, 3) := by decide +kernel
theorem dL_law_636 : decode cL_law 636 = .ok (.istore 6, 2) := by decide +kernel
theorem dL_law_638 : decode cL_law 638 = .ok (.aload_n 2, 1) := by decide +kernel
theorem dL_law_639 : decode cL_law 639 = .ok (.aload_n 0, 1) := by decide +kernel
theorem dL_law_640 : decode cL_law 640 = .ok (.iload 5, 2) := by decide +kernel
theorem dL_law_642 : decode cL_law 642 = .ok (.iconst 1, 1) := by decide +kernel
theorem dL_law_643 : decode cL_law 643 = .ok (.iadd, 1) := by decide +kernel
theorem dL_law_644 : decode cL_law 644 = .ok (.iaload, 1) := by decide +kernel
theorem dL_law_645 : decode cL_law 645 = .ok (.aload_n 0, 1) := by decide +kernel
theorem dL_law_646 : decode cL_law 646 = .ok (.iload 5, 2) := by decide +kernel
theorem dL_law_648 : decode cL_law 648 = .ok (.iconst 2, 1) := by decide +kernel
theorem dL_law_649 : decode cL_law 649 = .ok (.iadd, 1) := by decide +kernel
theorem dL_law_650 : decode cL_law 650 = .ok (.iaload, 1) := by decide +kernel
theorem dL_law_651 : decode cL_law 651 = .ok (.aload_n 0, 1) := by decide +kernel
theorem dL_law_652 : decode cL_law 652 = .ok (.iload 5, 2) := by decide +kernel
theorem dL_law_654 : decode cL_law 654 = .ok (.iconst 3, 1) := by decide +kernel
theorem dL_law_655 : decode cL_law 655 = .ok (.iadd, 1) := by decide +kernel
theorem dL_law_656 : decode cL_law 656 = .ok (.iaload, 1) := by decide +kernel
theorem dL_law_657 : decode cL_law 657 = .ok (.ifCond .eq 7, 3) := by decide +kernel
theorem dL_law_660 : decode cL_law 660 = .ok (.iconst 1, 1) := by decide +kernel
theorem dL_law_661 : decode cL_law 661 = .ok (.goto 4, 3) := by decide +kernel
theorem dL_law_664 : decode cL_law 664 = .ok (.iconst 0, 1) := by decide +kernel
theorem dL_law_665 : decode cL_law 665 = .ok (.aload_n 0, 1) := by decide +kernel
theorem dL_law_666 : decode cL_law 666 = .ok (.iload 5, 2) := by decide +kernel
theorem dL_law_668 : decode cL_law 668 = .ok (.iconst 4, 1) := by decide +kernel
theorem dL_law_669 : decode cL_law 669 = .ok (.iadd, 1) := by decide +kernel
theorem dL_law_670 : decode cL_law 670 = .ok (.iaload, 1) := by decide +kernel
theorem dL_law_671 : decode cL_law 671 = .ok (.aload_n 0, 1) := by decide +kernel
theorem dL_law_672 : decode cL_law 672 = .ok (.iload 5, 2) := by decide +kernel
theorem dL_law_674 : decode cL_law 674 = .ok (.iconst 5, 1) := by decide +kernel
theorem dL_law_675 : decode cL_law 675 = .ok (.iadd, 1) := by decide +kernel
theorem dL_law_676 : decode cL_law 676 = .ok (.iaload, 1) := by decide +kernel
theorem dL_law_677 : decode cL_law 677 = .ok (.invokevirtual 159, 3) := by decide +kernel
theorem dL_law_680 : decode cL_law 680 = .ok (.istore 7, 2) := by decide +kernel
theorem dL_law_682 : decode cL_law 682 = .ok (.aload_n 2, 1) := by decide +kernel
theorem dL_law_683 : decode cL_law 683 = .ok (.invokevirtual 134, 3) := by decide +kernel
theorem dL_law_686 : decode cL_law 686 = .ok (.iload 6, 2) := by decide +kernel
theorem dL_law_688 : decode cL_law 688 = .ok (.if_icmp .eq 5, 3) := by decide +kernel
theorem dL_law_691 : decode cL_law 691 = .ok (.iconst 0, 1) := by decide +kernel
theorem dL_law_692 : decode cL_law 692 = .ok (.ireturn, 1) := by decide +kernel
theorem dL_law_693 : decode cL_law 693 = .ok (.iload 6, 2) := by decide +kernel
theorem dL_law_695 : decode cL_law 695 = .ok (.ifCond .ne 15, 3) := by decide +kernel
theorem dL_law_698 : decode cL_law 698 = .ok (.aload_n 3, 1) := by decide +kernel
theorem dL_law_699 : decode cL_law 699 = .ok (.iconst 0, 1) := by decide +kernel
theorem dL_law_700 : decode cL_law 700 = .ok (.laload, 1) := by decide +kernel
theorem dL_law_701 : decode cL_law 701 = .ok (.iload 7, 2) := by decide +kernel
theorem dL_law_703 : decode cL_law 703 = .ok (.i2l, 1) := by decide +kernel
theorem dL_law_704 : decode cL_law 704 = .ok (.lcmp, 1) := by decide +kernel
theorem dL_law_705 : decode cL_law 705 = .ok (.ifCond .eq 5, 3) := by decide +kernel
theorem dL_law_708 : decode cL_law 708 = .ok (.iconst 0, 1) := by decide +kernel
theorem dL_law_709 : decode cL_law 709 = .ok (.ireturn, 1) := by decide +kernel
theorem dL_law_710 : decode cL_law 710 = .ok (.goto 1713, 3) := by decide +kernel
theorem dL_law_713 : decode cL_law 713 = .ok (.aload_n 1, 1) := by decide +kernel
theorem dL_law_714 : decode cL_law 714 = .ok (.aload_n 0, 1) := by decide +kernel
theorem dL_law_715 : decode cL_law 715 = .ok (.iload 5, 2) := by decide +kernel
theorem dL_law_717 : decode cL_law 717 = .ok (.iconst 1, 1) := by decide +kernel
theorem dL_law_718 : decode cL_law 718 = .ok (.iadd, 1) := by decide +kernel
theorem dL_law_719 : decode cL_law 719 = .ok (.iaload, 1) := by decide +kernel
theorem dL_law_720 : decode cL_law 720 = .ok (.aload_n 3, 1) := by decide +kernel
end
section
theorem dL_law_721 : decode cL_law 721 = .ok (.invokestatic 160, 3) := by decide +kernel
theorem dL_law_724 : decode cL_law 724 = .ok (.istore 6, 2) := by decide +kernel
theorem dL_law_726 : decode cL_law 726 = .ok (.aload_n 2, 1) := by decide +kernel
theorem dL_law_727 : decode cL_law 727 = .ok (.aload_n 0, 1) := by decide +kernel
theorem dL_law_728 : decode cL_law 728 = .ok (.iload 5, 2) := by decide +kernel
theorem dL_law_730 : decode cL_law 730 = .ok (.iconst 1, 1) := by decide +kernel
theorem dL_law_731 : decode cL_law 731 = .ok (.iadd, 1) := by decide +kernel
theorem dL_law_732 : decode cL_law 732 = .ok (.iaload, 1) := by decide +kernel
theorem dL_law_733 : decode cL_law 733 = .ok (.invokevirtual 162, 3) := by decide +kernel
theorem dL_law_736 : decode cL_law 736 = .ok (.istore 7, 2) := by decide +kernel
theorem dL_law_738 : decode cL_law 738 = .ok (.aload_n 2, 1) := by decide +kernel
theorem dL_law_739 : decode cL_law 739 = .ok (.invokevirtual 134, 3) := by decide +kernel
theorem dL_law_742 : decode cL_law 742 = .ok (.iload 6, 2) := by decide +kernel
theorem dL_law_744 : decode cL_law 744 = .ok (.if_icmp .eq 5, 3) := by decide +kernel
theorem dL_law_747 : decode cL_law 747 = .ok (.iconst 0, 1) := by decide +kernel
theorem dL_law_748 : decode cL_law 748 = .ok (.ireturn, 1) := by decide +kernel
theorem dL_law_749 : decode cL_law 749 = .ok (.iload 6, 2) := by decide +kernel
theorem dL_law_751 : decode cL_law 751 = .ok (.ifCond .ne 15, 3) := by decide +kernel
theorem dL_law_754 : decode cL_law 754 = .ok (.aload_n 3, 1) := by decide +kernel
theorem dL_law_755 : decode cL_law 755 = .ok (.iconst 0, 1) := by decide +kernel
theorem dL_law_756 : decode cL_law 756 = .ok (.laload, 1) := by decide +kernel
theorem dL_law_757 : decode cL_law 757 = .ok (.iload 7, 2) := by decide +kernel
theorem dL_law_759 : decode cL_law 759 = .ok (.i2l, 1) := by decide +kernel
theorem dL_law_760 : decode cL_law 760 = .ok (.lcmp, 1) := by decide +kernel
theorem dL_law_761 : decode cL_law 761 = .ok (.ifCond .eq 5, 3) := by decide +kernel
theorem dL_law_764 : decode cL_law 764 = .ok (.iconst 0, 1) := by decide +kernel
theorem dL_law_765 : decode cL_law 765 = .ok (.ireturn, 1) := by decide +kernel
theorem dL_law_766 : decode cL_law 766 = .ok (.goto 1657, 3) := by decide +kernel
theorem dL_law_769 : decode cL_law 769 = .ok (.aload_n 1, 1) := by decide +kernel
theorem dL_law_770 : decode cL_law 770 = .ok (.invokevirtual 163, 3) := by decide +kernel
theorem dL_law_773 : decode cL_law 773 = .ok (.aload_n 2, 1) := by decide +kernel
theorem dL_law_774 : decode cL_law 774 = .ok (.invokevirtual 166, 3) := by decide +kernel
theorem dL_law_777 : decode cL_law 777 = .ok (.if_icmp .eq 1646, 3) := by decide +kernel
theorem dL_law_780 : decode cL_law 780 = .ok (.iconst 0, 1) := by decide +kernel
theorem dL_law_781 : decode cL_law 781 = .ok (.ireturn, 1) := by decide +kernel
theorem dL_law_782 : decode cL_law 782 = .ok (.aload_n 1, 1) := by decide +kernel
theorem dL_law_783 : decode cL_law 783 = .ok (.aload_n 0, 1) := by decide +kernel
theorem dL_law_784 : decode cL_law 784 = .ok (.iload 5, 2) := by decide +kernel
theorem dL_law_786 : decode cL_law 786 = .ok (.iconst 1, 1) := by decide +kernel
theorem dL_law_787 : decode cL_law 787 = .ok (.iadd, 1) := by decide +kernel
theorem dL_law_788 : decode cL_law 788 = .ok (.iaload, 1) := by decide +kernel
theorem dL_law_789 : decode cL_law 789 = .ok (.aload_n 3, 1) := by decide +kernel
theorem dL_law_790 : decode cL_law 790 = .ok (.invokestatic 167, 3) := by decide +kernel
theorem dL_law_793 : decode cL_law 793 = .ok (.istore 6, 2) := by decide +kernel
theorem dL_law_795 : decode cL_law 795 = .ok (.aload_n 2, 1) := by decide +kernel
theorem dL_law_796 : decode cL_law 796 = .ok (.aload_n 0, 1) := by decide +kernel
theorem dL_law_797 : decode cL_law 797 = .ok (.iload 5, 2) := by decide +kernel
theorem dL_law_799 : decode cL_law 799 = .ok (.iconst 1, 1) := by decide +kernel
theorem dL_law_800 : decode cL_law 800 = .ok (.iadd, 1) := by decide +kernel
theorem dL_law_801 : decode cL_law 801 = .ok (.iaload, 1) := by decide +kernel
theorem dL_law_802 : decode cL_law 802 = .ok (.invokevirtual 169, 3) := by decide +kernel
theorem dL_law_805 : decode cL_law 805 = .ok (.istore 7, 2) := by decide +kernel
theorem dL_law_807 : decode cL_law 807 = .ok (.aload_n 2, 1) := by decide +kernel
theorem dL_law_808 : decode cL_law 808 = .ok (.invokevirtual 134, 3) := by decide +kernel
theorem dL_law_811 : decode cL_law 811 = .ok (.iload 6, 2) := by decide +kernel
theorem dL_law_813 : decode cL_law 813 = .ok (.if_icmp .eq 5, 3) := by decide +kernel
theorem dL_law_816 : decode cL_law 816 = .ok (.iconst 0, 1) := by decide +kernel
theorem dL_law_817 : decode cL_law 817 = .ok (.ireturn, 1) := by decide +kernel
theorem dL_law_818 : decode cL_law 818 = .ok (.iload 6, 2) := by decide +kernel
theorem dL_law_820 : decode cL_law 820 = .ok (.ifCond .ne 22, 3) := by decide +kernel
theorem dL_law_823 : decode cL_law 823 = .ok (.aload_n 3, 1) := by decide +kernel
theorem dL_law_824 : decode cL_law 824 = .ok (.iconst 0, 1) := by decide +kernel
theorem dL_law_825 : decode cL_law 825 = .ok (.laload, 1) := by decide +kernel
theorem dL_law_826 : decode cL_law 826 = .ok (.iload 7, 2) := by decide +kernel
theorem dL_law_828 : decode cL_law 828 = .ok (.ifCond .eq 7, 3) := by decide +kernel
theorem dL_law_831 : decode cL_law 831 = .ok (.lconst 1, 1) := by decide +kernel
theorem dL_law_832 : decode cL_law 832 = .ok (.goto 4, 3) := by decide +kernel
theorem dL_law_835 : decode cL_law 835 = .ok (.lconst 0, 1) := by decide +kernel
theorem dL_law_836 : decode cL_law 836 = .ok (.lcmp, 1) := by decide +kernel
theorem dL_law_837 : decode cL_law 837 = .ok (.ifCond .eq 5, 3) := by decide +kernel
theorem dL_law_840 : decode cL_law 840 = .ok (.iconst 0, 1) := by decide +kernel
theorem dL_law_841 : decode cL_law 841 = .ok (.ireturn, 1) := by decide +kernel
theorem dL_law_842 : decode cL_law 842 = .ok (.goto 1581, 3) := by decide +kernel
theorem dL_law_845 : decode cL_law 845 = .ok (.aload_n 1, 1) := by decide +kernel
theorem dL_law_846 : decode cL_law 846 = .ok (.aload_n 0, 1) := by decide +kernel
theorem dL_law_847 : decode cL_law 847 = .ok (.iload 5, 2) := by decide +kernel
theorem dL_law_849 : decode cL_law 849 = .ok (.iconst 1, 1) := by decide +kernel
theorem dL_law_850 : decode cL_law 850 = .ok (.iadd, 1) := by decide +kernel
theorem dL_law_851 : decode cL_law 851 = .ok (.iaload, 1) := by decide +kernel
theorem dL_law_852 : decode cL_law 852 = .ok (.aload_n 3, 1) := by decide +kernel
theorem dL_law_853 : decode cL_law 853 = .ok (.invokestatic 170, 3) := by decide +kernel
theorem dL_law_856 : decode cL_law 856 = .ok (.istore 6, 2) := by decide +kernel
theorem dL_law_858 : decode cL_law 858 = .ok (.aload_n 2, 1) := by decide +kernel
theorem dL_law_859 : decode cL_law 859 = .ok (.aload_n 0, 1) := by decide +kernel
theorem dL_law_860 : decode cL_law 860 = .ok (.iload 5, 2) := by decide +kernel
theorem dL_law_862 : decode cL_law 862 = .ok (.iconst 1, 1) := by decide +kernel
theorem dL_law_863 : decode cL_law 863 = .ok (.iadd, 1) := by decide +kernel
theorem dL_law_864 : decode cL_law 864 = .ok (.iaload, 1) := by decide +kernel
theorem dL_law_865 : decode cL_law 865 = .ok (.invokevirtual 172, 3) := by decide +kernel
theorem dL_law_868 : decode cL_law 868 = .ok (.istore 7, 2) := by decide +kernel
theorem dL_law_870 : decode cL_law 870 = .ok (.aload_n 2, 1) := by decide +kernel
theorem dL_law_871 : decode cL_law 871 = .ok (.invokevirtual 134, 3) := by decide +kernel
theorem dL_law_874 : decode cL_law 874 = .ok (.iload 6, 2) := by decide +kernel
theorem dL_law_876 : decode cL_law 876 = .ok (.if_icmp .eq 5, 3) := by decide +kernel
theorem dL_law_879 : decode cL_law 879 = .ok (.iconst 0, 1) := by decide +kernel
theorem dL_law_880 : decode cL_law 880 = .ok (.ireturn, 1) := by decide +kernel
theorem dL_law_881 : decode cL_law 881 = .ok (.iload 6, 2) := by decide +kernel
theorem dL_law_883 : decode cL_law 883 = .ok (.ifCond .ne 15, 3) := by decide +kernel
theorem dL_law_886 : decode cL_law 886 = .ok (.aload_n 3, 1) := by decide +kernel
theorem dL_law_887 : decode cL_law 887 = .ok (.iconst 0, 1) := by decide +kernel
theorem dL_law_888 : decode cL_law 888 = .ok (.laload, 1) := by decide +kernel
theorem dL_law_889 : decode cL_law 889 = .ok (.iload 7, 2) := by decide +kernel
theorem dL_law_891 : decode cL_law 891 = .ok (.i2l, 1) := by decide +kernel
theorem dL_law_892 : decode cL_law 892 = .ok (.lcmp, 1) := by decide +kernel
theorem dL_law_893 : decode cL_law 893 = .ok (.ifCond .eq 5, 3) := by decide +kernel
theorem dL_law_896 : decode cL_law 896 = .ok (.iconst 0, 1) := by decide +kernel
theorem dL_law_897 : decode cL_law 897 = .ok (.ireturn, 1) := by decide +kernel
theorem dL_law_898 : decode cL_law 898 = .ok (.goto 1525, 3) := by decide +kernel
theorem dL_law_901 : decode cL_law 901 = .ok (.aload_n 1, 1) := by decide +kernel
theorem dL_law_902 : decode cL_law 902 = .ok (.aload_n 0, 1) := by decide +kernel
theorem dL_law_903 : decode cL_law 903 = .ok (.iload 5, 2) := by decide +kernel
theorem dL_law_905 : decode cL_law 905 = .ok (.iconst 1, 1) := by decide +kernel
theorem dL_law_906 : decode cL_law 906 = .ok (.iadd, 1) := by decide +kernel
theorem dL_law_907 : decode cL_law 907 = .ok (.iaload, 1) := by decide +kernel
theorem dL_law_908 : decode cL_law 908 = .ok (.aload_n 0, 1) := by decide +kernel
theorem dL_law_909 : decode cL_law 909 = .ok (.iload 5, 2) := by decide +kernel
theorem dL_law_911 : decode cL_law 911 = .ok (.iconst 2, 1) := by decide +kernel
theorem dL_law_912 : decode cL_law 912 = .ok (.iadd, 1) := by decide +kernel
theorem dL_law_913 : decode cL_law 913 = .ok (.iaload, 1) := by decide +kernel
theorem dL_law_914 : decode cL_law 914 = .ok (.aload_n 3, 1) := by decide +kernel
theorem dL_law_915 : decode cL_law 915 = .ok (.invokestatic 173, 3) := by decide +kernel
theorem dL_law_918 : decode cL_law 918 = .ok (.istore 6, 2) := by decide +kernel
theorem dL_law_920 : decode cL_law 920 = .ok (.aload_n 2, 1) := by decide +kernel
theorem dL_law_921 : decode cL_law 921 = .ok (.aload_n 0, 1) := by decide +kernel
theorem dL_law_922 : decode cL_law 922 = .ok (.iload 5, 2) := by decide +kernel
theorem dL_law_924 : decode cL_law 924 = .ok (.iconst 1, 1) := by decide +kernel
theorem dL_law_925 : decode cL_law 925 = .ok (.iadd, 1) := by decide +kernel
theorem dL_law_926 : decode cL_law 926 = .ok (.iaload, 1) := by decide +kernel
theorem dL_law_927 : decode cL_law 927 = .ok (.aload_n 0, 1) := by decide +kernel
theorem dL_law_928 : decode cL_law 928 = .ok (.iload 5, 2) := by decide +kernel
theorem dL_law_930 : decode cL_law 930 = .ok (.iconst 2, 1) := by decide +kernel
theorem dL_law_931 : decode cL_law 931 = .ok (.iadd, 1) := by decide +kernel
theorem dL_law_932 : decode cL_law 932 = .ok (.iaload, 1) := by decide +kernel
theorem dL_law_933 : decode cL_law 933 = .ok (.invokevirtual 175, 3) := by decide +kernel
theorem dL_law_936 : decode cL_law 936 = .ok (.istore 7, 2) := by decide +kernel
theorem dL_law_938 : decode cL_law 938 = .ok (.aload_n 2, 1) := by decide +kernel
theorem dL_law_939 : decode cL_law 939 = .ok (.invokevirtual 134, 3) := by decide +kernel
theorem dL_law_942 : decode cL_law 942 = .ok (.iload 6, 2) := by decide +kernel
theorem dL_law_944 : decode cL_law 944 = .ok (.if_icmp .eq 5, 3) := by decide +kernel
theorem dL_law_947 : decode cL_law 947 = .ok (.iconst 0, 1) := by decide +kernel
theorem dL_law_948 : decode cL_law 948 = .ok (.ireturn, 1) := by decide +kernel
theorem dL_law_949 : decode cL_law 949 = .ok (.iload 6, 2) := by decide +kernel
theorem dL_law_951 : decode cL_law 951 = .ok (.ifCond .ne 15, 3) := by decide +kernel
theorem dL_law_954 : decode cL_law 954 = .ok (.aload_n 3, 1) := by decide +kernel
theorem dL_law_955 : decode cL_law 955 = .ok (.iconst 0, 1) := by decide +kernel
theorem dL_law_956 : decode cL_law 956 = .ok (.laload, 1) := by decide +kernel
theorem dL_law_957 : decode cL_law 957 = .ok (.iload 7, 2) := by decide +kernel
theorem dL_law_959 : decode cL_law 959 = .ok (.i2l, 1) := by decide +kernel
theorem dL_law_960 : decode cL_law 960 = .ok (.lcmp, 1) := by decide +kernel
theorem dL_law_961 : decode cL_law 961 = .ok (.ifCond .eq 5, 3) := by decide +kernel
theorem dL_law_964 : decode cL_law 964 = .ok (.iconst 0, 1) := by decide +kernel
theorem dL_law_965 : decode cL_law 965 = .ok (.ireturn, 1) := by decide +kernel
theorem dL_law_966 : decode cL_law 966 = .ok (.goto 1457, 3) := by decide +kernel
theorem dL_law_969 : decode cL_law 969 = .ok (.aload_n 1, 1) := by decide +kernel
theorem dL_law_970 : decode cL_law 970 = .ok (.aload_n 0, 1) := by decide +kernel
theorem dL_law_971 : decode cL_law 971 = .ok (.iload 5, 2) := by decide +kernel
theorem dL_law_973 : decode cL_law 973 = .ok (.iconst 1, 1) := by decide +kernel
theorem dL_law_974 : decode cL_law 974 = .ok (.iadd, 1) := by decide +kernel
theorem dL_law_975 : decode cL_law 975 = .ok (.iaload, 1) := by decide +kernel
theorem dL_law_976 : decode cL_law 976 = .ok (.aload_n 3, 1) := by decide +kernel
theorem dL_law_977 : decode cL_law 977 = .ok (.invokestatic 176, 3) := by decide +kernel
theorem dL_law_980 : decode cL_law 980 = .ok (.istore 6, 2) := by decide +kernel
theorem dL_law_982 : decode cL_law 982 = .ok (.aload_n 2, 1) := by decide +kernel
theorem dL_law_983 : decode cL_law 983 = .ok (.aload_n 0, 1) := by decide +kernel
theorem dL_law_984 : decode cL_law 984 = .ok (.iload 5, 2) := by decide +kernel
theorem dL_law_986 : decode cL_law 986 = .ok (.iconst 1, 1) := by decide +kernel
theorem dL_law_987 : decode cL_law 987 = .ok (.iadd, 1) := by decide +kernel
theorem dL_law_988 : decode cL_law 988 = .ok (.iaload, 1) := by decide +kernel
theorem dL_law_989 : decode cL_law 989 = .ok (.invokevirtual 178, 3) := by decide +kernel
theorem dL_law_992 : decode cL_law 992 = .ok (.istore 7, 2) := by decide +kernel
theorem dL_law_994 : decode cL_law 994 = .ok (.aload_n 2, 1) := by decide +kernel
theorem dL_law_995 : decode cL_law 995 = .ok (.invokevirtual 134, 3) := by decide +kernel
theorem dL_law_998 : decode cL_law 998 = .ok (.iload 6, 2) := by decide +kernel
theorem dL_law_1000 : decode cL_law 1000 = .ok (.if_icmp .eq 5, 3) := by decide +kernel
theorem dL_law_1003 : decode cL_law 1003 = .ok (.iconst 0, 1) := by decide +kernel
theorem dL_law_1004 : decode cL_law 1004 = .ok (.ireturn, 1) := by decide +kernel
theorem dL_law_1005 : decode cL_law 1005 = .ok (.iload 6, 2) := by decide +kernel
theorem dL_law_1007 : decode cL_law 1007 = .ok (.ifCond .ne 15, 3) := by decide +kernel
theorem dL_law_1010 : decode cL_law 1010 = .ok (.aload_n 3, 1) := by decide +kernel
theorem dL_law_1011 : decode cL_law 1011 = .ok (.iconst 0, 1) := by decide +kernel
theorem dL_law_1012 : decode cL_law 1012 = .ok (.laload, 1) := by decide +kernel
theorem dL_law_1013 : decode cL_law 1013 = .ok (.iload 7, 2) := by decide +kernel
theorem dL_law_1015 : decode cL_law 1015 = .ok (.i2l, 1) := by decide +kernel
theorem dL_law_1016 : decode cL_law 1016 = .ok (.lcmp, 1) := by decide +kernel
theorem dL_law_1017 : decode cL_law 1017 = .ok (.ifCond .eq 5, 3) := by decide +kernel
theorem dL_law_1020 : decode cL_law 1020 = .ok (.iconst 0, 1) := by decide +kernel
theorem dL_law_1021 : decode cL_law 1021 = .ok (.ireturn, 1) := by decide +kernel
theorem dL_law_1022 : decode cL_law 1022 = .ok (.goto 1401, 3) := by decide +kernel
theorem dL_law_1025 : decode cL_law 1025 = .ok (.aload_n 1, 1) := by decide +kernel
theorem dL_law_1026 : decode cL_law 1026 = .ok (.invokevirtual 179, 3) := by decide +kernel
theorem dL_law_1029 : decode cL_law 1029 = .ok (.aload_n 2, 1) := by decide +kernel
theorem dL_law_1030 : decode cL_law 1030 = .ok (.invokevirtual 182, 3) := by decide +kernel
theorem dL_law_1033 : decode cL_law 1033 = .ok (.if_icmp .eq 1390, 3) := by decide +kernel
theorem dL_law_1036 : decode cL_law 1036 = .ok (.iconst 0, 1) := by decide +kernel
theorem dL_law_1037 : decode cL_law 1037 = .ok (.ireturn, 1) := by decide +kernel
theorem dL_law_1038 : decode cL_law 1038 = .ok (.aload_n 1, 1) := by decide +kernel
theorem dL_law_1039 : decode cL_law 1039 = .ok (.aload_n 0, 1) := by decide +kernel
theorem dL_law_1040 : decode cL_law 1040 = .ok (.iload 5, 2) := by decide +kernel
theorem dL_law_1042 : decode cL_law 1042 = .ok (.iconst 1, 1) := by decide +kernel
theorem dL_law_1043 : decode cL_law 1043 = .ok (.iadd, 1) := by decide +kernel
theorem dL_law_1044 : decode cL_law 1044 = .ok (.iaload, 1) := by decide +kernel
theorem dL_law_1045 : decode cL_law 1045 = .ok (.aload_n 3, 1) := by decide +kernel
theorem dL_law_1046 : decode cL_law 1046 = .ok (.invokestatic 183, 3) := by decide +kernel
theorem dL_law_1049 : decode cL_law 1049 = .ok (.istore 6, 2) := by decide +kernel
theorem dL_law_1051 : decode cL_law 1051 = .ok (.aload_n 2, 1) := by decide +kernel
theorem dL_law_1052 : decode cL_law 1052 = .ok (.aload_n 0, 1) := by decide +kernel
theorem dL_law_1053 : decode cL_law 1053 = .ok (.iload 5, 2) := by decide +kernel
theorem dL_law_1055 : decode cL_law 1055 = .ok (.iconst 1, 1) := by decide +kernel
theorem dL_law_1056 : decode cL_law 1056 = .ok (.iadd, 1) := by decide +kernel
theorem dL_law_1057 : decode cL_law 1057 = .ok (.iaload, 1) := by decide +kernel
theorem dL_law_1058 : decode cL_law 1058 = .ok (.invokevirtual 185, 3) := by decide +kernel
theorem dL_law_1061 : decode cL_law 1061 = .ok (.istore 7, 2) := by decide +kernel
theorem dL_law_1063 : decode cL_law 1063 = .ok (.aload_n 2, 1) := by decide +kernel
theorem dL_law_1064 : decode cL_law 1064 = .ok (.invokevirtual 134, 3) := by decide +kernel
theorem dL_law_1067 : decode cL_law 1067 = .ok (.iload 6, 2) := by decide +kernel
theorem dL_law_1069 : decode cL_law 1069 = .ok (.if_icmp .eq 5, 3) := by decide +kernel
theorem dL_law_1072 : decode cL_law 1072 = .ok (.iconst 0, 1) := by decide +kernel
theorem dL_law_1073 : decode cL_law 1073 = .ok (.ireturn, 1) := by decide +kernel
theorem dL_law_1074 : decode cL_law 1074 = .ok (.iload 6, 2) := by decide +kernel
theorem dL_law_1076 : decode cL_law 1076 = .ok (.ifCond .ne 15, 3) := by decide +kernel
theorem dL_law_1079 : decode cL_law 1079 = .ok (.aload_n 3, 1) := by decide +kernel
theorem dL_law_1080 : decode cL_law 1080 = .ok (.iconst 0, 1) := by decide +kernel
theorem dL_law_1081 : decode cL_law 1081 = .ok (.laload, 1) := by decide +kernel
theorem dL_law_1082 : decode cL_law 1082 = .ok (.iload 7, 2) := by decide +kernel
theorem dL_law_1084 : decode cL_law 1084 = .ok (.i2l, 1) := by decide +kernel
theorem dL_law_1085 : decode cL_law 1085 = .ok (.lcmp, 1) := by decide +kernel
theorem dL_law_1086 : decode cL_law 1086 = .ok (.ifCond .eq 5, 3) := by decide +kernel
theorem dL_law_1089 : decode cL_law 1089 = .ok (.iconst 0, 1) := by decide +kernel
theorem dL_law_1090 : decode cL_law 1090 = .ok (.ireturn, 1) := by decide +kernel
theorem dL_law_1091 : decode cL_law 1091 = .ok (.goto 1332, 3) := by decide +kernel
theorem dL_law_1094 : decode cL_law 1094 = .ok (.aload_n 1, 1) := by decide +kernel
theorem dL_law_1095 : decode cL_law 1095 = .ok (.aload_n 0, 1) := by decide +kernel
theorem dL_law_1096 : decode cL_law 1096 = .ok (.iload 5, 2) := by decide +kernel
theorem dL_law_1098 : decode cL_law 1098 = .ok (.iconst 1, 1) := by decide +kernel
theorem dL_law_1099 : decode cL_law 1099 = .ok (.iadd, 1) := by decide +kernel
theorem dL_law_1100 : decode cL_law 1100 = .ok (.iaload, 1) := by decide +kernel
theorem dL_law_1101 : decode cL_law 1101 = .ok (.aload_n 3, 1) := by decide +kernel
theorem dL_law_1102 : decode cL_law 1102 = .ok (.invokestatic 186, 3) := by decide +kernel
theorem dL_law_1105 : decode cL_law 1105 = .ok (.istore 6, 2) := by decide +kernel
theorem dL_law_1107 : decode cL_law 1107 = .ok (.aload_n 2, 1) := by decide +kernel
theorem dL_law_1108 : decode cL_law 1108 = .ok (.aload_n 0, 1) := by decide +kernel
theorem dL_law_1109 : decode cL_law 1109 = .ok (.iload 5, 2) := by decide +kernel
theorem dL_law_1111 : decode cL_law 1111 = .ok (.iconst 1, 1) := by decide +kernel
theorem dL_law_1112 : decode cL_law 1112 = .ok (.iadd, 1) := by decide +kernel
theorem dL_law_1113 : decode cL_law 1113 = .ok (.iaload, 1) := by decide +kernel
theorem dL_law_1114 : decode cL_law 1114 = .ok (.invokevirtual 188, 3) := by decide +kernel
theorem dL_law_1117 : decode cL_law 1117 = .ok (.istore 7, 2) := by decide +kernel
theorem dL_law_1119 : decode cL_law 1119 = .ok (.aload_n 2, 1) := by decide +kernel
theorem dL_law_1120 : decode cL_law 1120 = .ok (.invokevirtual 134, 3) := by decide +kernel
theorem dL_law_1123 : decode cL_law 1123 = .ok (.iload 6, 2) := by decide +kernel
theorem dL_law_1125 : decode cL_law 1125 = .ok (.if_icmp .eq 5, 3) := by decide +kernel
theorem dL_law_1128 : decode cL_law 1128 = .ok (.iconst 0, 1) := by decide +kernel
theorem dL_law_1129 : decode cL_law 1129 = .ok (.ireturn, 1) := by decide +kernel
theorem dL_law_1130 : decode cL_law 1130 = .ok (.iload 6, 2) := by decide +kernel
theorem dL_law_1132 : decode cL_law 1132 = .ok (.ifCond .ne 15, 3) := by decide +kernel
theorem dL_law_1135 : decode cL_law 1135 = .ok (.aload_n 3, 1) := by decide +kernel
theorem dL_law_1136 : decode cL_law 1136 = .ok (.iconst 0, 1) := by decide +kernel
theorem dL_law_1137 : decode cL_law 1137 = .ok (.laload, 1) := by decide +kernel
theorem dL_law_1138 : decode cL_law 1138 = .ok (.iload 7, 2) := by decide +kernel
theorem dL_law_1140 : decode cL_law 1140 = .ok (.i2l, 1) := by decide +kernel
theorem dL_law_1141 : decode cL_law 1141 = .ok (.lcmp, 1) := by decide +kernel
theorem dL_law_1142 : decode cL_law 1142 = .ok (.ifCond .eq 5, 3) := by decide +kernel
theorem dL_law_1145 : decode cL_law 1145 = .ok (.iconst 0, 1) := by decide +kernel
theorem dL_law_1146 : decode cL_law 1146 = .ok (.ireturn, 1) := by decide +kernel
theorem dL_law_1147 : decode cL_law 1147 = .ok (.goto 1276, 3) := by decide +kernel
theorem dL_law_1150 : decode cL_law 1150 = .ok (.aload_n 1, 1) := by decide +kernel
theorem dL_law_1151 : decode cL_law 1151 = .ok (.aload_n 0, 1) := by decide +kernel
theorem dL_law_1152 : decode cL_law 1152 = .ok (.iload 5, 2) := by decide +kernel
theorem dL_law_1154 : decode cL_law 1154 = .ok (.iconst 1, 1) := by decide +kernel
theorem dL_law_1155 : decode cL_law 1155 = .ok (.iadd, 1) := by decide +kernel
theorem dL_law_1156 : decode cL_law 1156 = .ok (.iaload, 1) := by decide +kernel
theorem dL_law_1157 : decode cL_law 1157 = .ok (.aload_n 3, 1) := by decide +kernel
theorem dL_law_1158 : decode cL_law 1158 = .ok (.invokestatic 189, 3) := by decide +kernel
theorem dL_law_1161 : decode cL_law 1161 = .ok (.istore 6, 2) := by decide +kernel
theorem dL_law_1163 : decode cL_law 1163 = .ok (.aload_n 2, 1) := by decide +kernel
theorem dL_law_1164 : decode cL_law 1164 = .ok (.aload_n 0, 1) := by decide +kernel
theorem dL_law_1165 : decode cL_law 1165 = .ok (.iload 5, 2) := by decide +kernel
theorem dL_law_1167 : decode cL_law 1167 = .ok (.iconst 1, 1) := by decide +kernel
theorem dL_law_1168 : decode cL_law 1168 = .ok (.iadd, 1) := by decide +kernel
theorem dL_law_1169 : decode cL_law 1169 = .ok (.iaload, 1) := by decide +kernel
theorem dL_law_1170 : decode cL_law 1170 = .ok (.invokevirtual 191, 3) := by decide +kernel
theorem dL_law_1173 : decode cL_law 1173 = .ok (.istore 7, 2) := by decide +kernel
theorem dL_law_1175 : decode cL_law 1175 = .ok (.aload_n 2, 1) := by decide +kernel
theorem dL_law_1176 : decode cL_law 1176 = .ok (.invokevirtual 134, 3) := by decide +kernel
theorem dL_law_1179 : decode cL_law 1179 = .ok (.iload 6, 2) := by decide +kernel
theorem dL_law_1181 : decode cL_law 1181 = .ok (.if_icmp .eq 5, 3) := by decide +kernel
theorem dL_law_1184 : decode cL_law 1184 = .ok (.iconst 0, 1) := by decide +kernel
theorem dL_law_1185 : decode cL_law 1185 = .ok (.ireturn, 1) := by decide +kernel
theorem dL_law_1186 : decode cL_law 1186 = .ok (.iload 6, 2) := by decide +kernel
theorem dL_law_1188 : decode cL_law 1188 = .ok (.ifCond .ne 15, 3) := by decide +kernel
theorem dL_law_1191 : decode cL_law 1191 = .ok (.aload_n 3, 1) := by decide +kernel
theorem dL_law_1192 : decode cL_law 1192 = .ok (.iconst 0, 1) := by decide +kernel
theorem dL_law_1193 : decode cL_law 1193 = .ok (.laload, 1) := by decide +kernel
theorem dL_law_1194 : decode cL_law 1194 = .ok (.iload 7, 2) := by decide +kernel
theorem dL_law_1196 : decode cL_law 1196 = .ok (.i2l, 1) := by decide +kernel
theorem dL_law_1197 : decode cL_law 1197 = .ok (.lcmp, 1) := by decide +kernel
theorem dL_law_1198 : decode cL_law 1198 = .ok (.ifCond .eq 5, 3) := by decide +kernel
theorem dL_law_1201 : decode cL_law 1201 = .ok (.iconst 0, 1) := by decide +kernel
theorem dL_law_1202 : decode cL_law 1202 = .ok (.ireturn, 1) := by decide +kernel
theorem dL_law_1203 : decode cL_law 1203 = .ok (.goto 1220, 3) := by decide +kernel
theorem dL_law_1206 : decode cL_law 1206 = .ok (.aload_n 1, 1) := by decide +kernel
theorem dL_law_1207 : decode cL_law 1207 = .ok (.invokevirtual 192, 3) := by decide +kernel
theorem dL_law_1210 : decode cL_law 1210 = .ok (.aload_n 2, 1) := by decide +kernel
theorem dL_law_1211 : decode cL_law 1211 = .ok (.invokevirtual 195, 3) := by decide +kernel
theorem dL_law_1214 : decode cL_law 1214 = .ok (.if_icmp .eq 1209, 3) := by decide +kernel
theorem dL_law_1217 : decode cL_law 1217 = .ok (.iconst 0, 1) := by decide +kernel
theorem dL_law_1218 : decode cL_law 1218 = .ok (.ireturn, 1) := by decide +kernel
theorem dL_law_1219 : decode cL_law 1219 = .ok (.aload_n 1, 1) := by decide +kernel
theorem dL_law_1220 : decode cL_law 1220 = .ok (.invokevirtual 196, 3) := by decide +kernel
theorem dL_law_1223 : decode cL_law 1223 = .ok (.aload_n 2, 1) := by decide +kernel
theorem dL_law_1224 : decode cL_law 1224 = .ok (.invokevirtual 199, 3) := by decide +kernel
theorem dL_law_1227 : decode cL_law 1227 = .ok (.if_icmp .eq 1196, 3) := by decide +kernel
theorem dL_law_1230 : decode cL_law 1230 = .ok (.iconst 0, 1) := by decide +kernel
theorem dL_law_1231 : decode cL_law 1231 = .ok (.ireturn, 1) := by decide +kernel
theorem dL_law_1232 : decode cL_law 1232 = .ok (.aload_n 1, 1) := by decide +kernel
theorem dL_law_1233 : decode cL_law 1233 = .ok (.invokevirtual 200, 3) := by decide +kernel
theorem dL_law_1236 : decode cL_law 1236 = .ok (.aload_n 2, 1) := by decide +kernel
theorem dL_law_1237 : decode cL_law 1237 = .ok (.invokevirtual 203, 3) := by decide +kernel
theorem dL_law_1240 : decode cL_law 1240 = .ok (.if_icmp .eq 1183, 3) := by decide +kernel
theorem dL_law_1243 : decode cL_law 1243 = .ok (.iconst 0, 1) := by decide +kernel
theorem dL_law_1244 : decode cL_law 1244 = .ok (.ireturn, 1) := by decide +kernel
theorem dL_law_1245 : decode cL_law 1245 = .ok (.aload_n 1, 1) := by decide +kernel
theorem dL_law_1246 : decode cL_law 1246 = .ok (.invokevirtual 204, 3) := by decide +kernel
theorem dL_law_1249 : decode cL_law 1249 = .ok (.aload_n 2, 1) := by decide +kernel
theorem dL_law_1250 : decode cL_law 1250 = .ok (.invokevirtual 208, 3) := by decide +kernel
theorem dL_law_1253 : decode cL_law 1253 = .ok (.if_icmp .eq 1170, 3) := by decide +kernel
theorem dL_law_1256 : decode cL_law 1256 = .ok (.iconst 0, 1) := by decide +kernel
theorem dL_law_1257 : decode cL_law 1257 = .ok (.ireturn, 1) := by decide +kernel
theorem dL_law_1258 : decode cL_law 1258 = .ok (.aload_n 1, 1) := by decide +kernel
theorem dL_law_1259 : decode cL_law 1259 = .ok (.aload_n 0, 1) := by decide +kernel
theorem dL_law_1260 : decode cL_law 1260 = .ok (.iload 5, 2) := by decide +kernel
theorem dL_law_1262 : decode cL_law 1262 = .ok (.iconst 1, 1) := by decide +kernel
theorem dL_law_1263 : decode cL_law 1263 = .ok (.iadd, 1) := by decide +kernel
theorem dL_law_1264 : decode cL_law 1264 = .ok (.iaload, 1) := by decide +kernel
theorem dL_law_1265 : decode cL_law 1265 = .ok (.aload_n 0, 1) := by decide +kernel
theorem dL_law_1266 : decode cL_law 1266 = .ok (.iload 5, 2) := by decide +kernel
theorem dL_law_1268 : decode cL_law 1268 = .ok (.iconst 2, 1) := by decide +kernel
theorem dL_law_1269 : decode cL_law 1269 = .ok (.iadd, 1) := by decide +kernel
theorem dL_law_1270 : decode cL_law 1270 = .ok (.iaload, 1) := by decide +kernel
theorem dL_law_1271 : decode cL_law 1271 = .ok (.aload_n 3, 1) := by decide +kernel
theorem dL_law_1272 : decode cL_law 1272 = .ok (.invokestatic 209, 3) := by decide +kernel
theorem dL_law_1275 : decode cL_law 1275 = .ok (.istore 6, 2) := by decide +kernel
theorem dL_law_1277 : decode cL_law 1277 = .ok (.aload_n 2, 1) := by decide +kernel
theorem dL_law_1278 : decode cL_law 1278 = .ok (.aload_n 0, 1) := by decide +kernel
theorem dL_law_1279 : decode cL_law 1279 = .ok (.iload 5, 2) := by decide +kernel
theorem dL_law_1281 : decode cL_law 1281 = .ok (.iconst 1, 1) := by decide +kernel
theorem dL_law_1282 : decode cL_law 1282 = .ok (.iadd, 1) := by decide +kernel
theorem dL_law_1283 : decode cL_law 1283 = .ok (.iaload, 1) := by decide +kernel
theorem dL_law_1284 : decode cL_law 1284 = .ok (.aload_n 0, 1) := by decide +kernel
theorem dL_law_1285 : decode cL_law 1285 = .ok (.iload 5, 2) := by decide +kernel
theorem dL_law_1287 : decode cL_law 1287 = .ok (.iconst 2, 1) := by decide +kernel
theorem dL_law_1288 : decode cL_law 1288 = .ok (.iadd, 1) := by decide +kernel
theorem dL_law_1289 : decode cL_law 1289 = .ok (.iaload, 1) := by decide +kernel
theorem dL_law_1290 : decode cL_law 1290 = .ok (.invokevirtual 211, 3) := by decide +kernel
theorem dL_law_1293 : decode cL_law 1293 = .ok (.istore 7, 2) := by decide +kernel
theorem dL_law_1295 : decode cL_law 1295 = .ok (.aload_n 2, 1) := by decide +kernel
theorem dL_law_1296 : decode cL_law 1296 = .ok (.invokevirtual 134, 3) := by decide +kernel
theorem dL_law_1299 : decode cL_law 1299 = .ok (.iload 6, 2) := by decide +kernel
theorem dL_law_1301 : decode cL_law 1301 = .ok (.if_icmp .eq 5, 3) := by decide +kernel
theorem dL_law_1304 : decode cL_law 1304 = .ok (.iconst 0, 1) := by decide +kernel
end
section
theorem dL_law_1305 : decode cL_law 1305 = .ok (.ireturn, 1) := by decide +kernel
theorem dL_law_1306 : decode cL_law 1306 = .ok (.iload 6, 2) := by decide +kernel
theorem dL_law_1308 : decode cL_law 1308 = .ok (.ifCond .ne 15, 3) := by decide +kernel
theorem dL_law_1311 : decode cL_law 1311 = .ok (.aload_n 3, 1) := by decide +kernel
theorem dL_law_1312 : decode cL_law 1312 = .ok (.iconst 0, 1) := by decide +kernel
theorem dL_law_1313 : decode cL_law 1313 = .ok (.laload, 1) := by decide +kernel
theorem dL_law_1314 : decode cL_law 1314 = .ok (.iload 7, 2) := by decide +kernel
theorem dL_law_1316 : decode cL_law 1316 = .ok (.i2l, 1) := by decide +kernel
theorem dL_law_1317 : decode cL_law 1317 = .ok (.lcmp, 1) := by decide +kernel
theorem dL_law_1318 : decode cL_law 1318 = .ok (.ifCond .eq 5, 3) := by decide +kernel
theorem dL_law_1321 : decode cL_law 1321 = .ok (.iconst 0, 1) := by decide +kernel
theorem dL_law_1322 : decode cL_law 1322 = .ok (.ireturn, 1) := by decide +kernel
theorem dL_law_1323 : decode cL_law 1323 = .ok (.goto 1100, 3) := by decide +kernel
theorem dL_law_1326 : decode cL_law 1326 = .ok (.aload_n 1, 1) := by decide +kernel
theorem dL_law_1327 : decode cL_law 1327 = .ok (.aload_n 0, 1) := by decide +kernel
theorem dL_law_1328 : decode cL_law 1328 = .ok (.iload 5, 2) := by decide +kernel
theorem dL_law_1330 : decode cL_law 1330 = .ok (.iconst 1, 1) := by decide +kernel
theorem dL_law_1331 : decode cL_law 1331 = .ok (.iadd, 1) := by decide +kernel
theorem dL_law_1332 : decode cL_law 1332 = .ok (.iaload, 1) := by decide +kernel
theorem dL_law_1333 : decode cL_law 1333 = .ok (.aload_n 0, 1) := by decide +kernel
theorem dL_law_1334 : decode cL_law 1334 = .ok (.iload 5, 2) := by decide +kernel
theorem dL_law_1336 : decode cL_law 1336 = .ok (.iconst 2, 1) := by decide +kernel
theorem dL_law_1337 : decode cL_law 1337 = .ok (.iadd, 1) := by decide +kernel
theorem dL_law_1338 : decode cL_law 1338 = .ok (.iaload, 1) := by decide +kernel
theorem dL_law_1339 : decode cL_law 1339 = .ok (.aload_n 3, 1) := by decide +kernel
theorem dL_law_1340 : decode cL_law 1340 = .ok (.invokestatic 212, 3) := by decide +kernel
theorem dL_law_1343 : decode cL_law 1343 = .ok (.istore 6, 2) := by decide +kernel
theorem dL_law_1345 : decode cL_law 1345 = .ok (.aload_n 2, 1) := by decide +kernel
theorem dL_law_1346 : decode cL_law 1346 = .ok (.aload_n 0, 1) := by decide +kernel
theorem dL_law_1347 : decode cL_law 1347 = .ok (.iload 5, 2) := by decide +kernel
theorem dL_law_1349 : decode cL_law 1349 = .ok (.iconst 1, 1) := by decide +kernel
theorem dL_law_1350 : decode cL_law 1350 = .ok (.iadd, 1) := by decide +kernel
theorem dL_law_1351 : decode cL_law 1351 = .ok (.iaload, 1) := by decide +kernel
theorem dL_law_1352 : decode cL_law 1352 = .ok (.aload_n 0, 1) := by decide +kernel
theorem dL_law_1353 : decode cL_law 1353 = .ok (.iload 5, 2) := by decide +kernel
theorem dL_law_1355 : decode cL_law 1355 = .ok (.iconst 2, 1) := by decide +kernel
theorem dL_law_1356 : decode cL_law 1356 = .ok (.iadd, 1) := by decide +kernel
theorem dL_law_1357 : decode cL_law 1357 = .ok (.iaload, 1) := by decide +kernel
theorem dL_law_1358 : decode cL_law 1358 = .ok (.invokevirtual 214, 3) := by decide +kernel
theorem dL_law_1361 : decode cL_law 1361 = .ok (.istore 7, 2) := by decide +kernel
theorem dL_law_1363 : decode cL_law 1363 = .ok (.aload_n 2, 1) := by decide +kernel
theorem dL_law_1364 : decode cL_law 1364 = .ok (.invokevirtual 134, 3) := by decide +kernel
theorem dL_law_1367 : decode cL_law 1367 = .ok (.iload 6, 2) := by decide +kernel
theorem dL_law_1369 : decode cL_law 1369 = .ok (.if_icmp .eq 5, 3) := by decide +kernel
theorem dL_law_1372 : decode cL_law 1372 = .ok (.iconst 0, 1) := by decide +kernel
theorem dL_law_1373 : decode cL_law 1373 = .ok (.ireturn, 1) := by decide +kernel
theorem dL_law_1374 : decode cL_law 1374 = .ok (.iload 6, 2) := by decide +kernel
theorem dL_law_1376 : decode cL_law 1376 = .ok (.ifCond .ne 15, 3) := by decide +kernel
theorem dL_law_1379 : decode cL_law 1379 = .ok (.aload_n 3, 1) := by decide +kernel
theorem dL_law_1380 : decode cL_law 1380 = .ok (.iconst 0, 1) := by decide +kernel
theorem dL_law_1381 : decode cL_law 1381 = .ok (.laload, 1) := by decide +kernel
theorem dL_law_1382 : decode cL_law 1382 = .ok (.iload 7, 2) := by decide +kernel
theorem dL_law_1384 : decode cL_law 1384 = .ok (.i2l, 1) := by decide +kernel
theorem dL_law_1385 : decode cL_law 1385 = .ok (.lcmp, 1) := by decide +kernel
theorem dL_law_1386 : decode cL_law 1386 = .ok (.ifCond .eq 5, 3) := by decide +kernel
theorem dL_law_1389 : decode cL_law 1389 = .ok (.iconst 0, 1) := by decide +kernel
theorem dL_law_1390 : decode cL_law 1390 = .ok (.ireturn, 1) := by decide +kernel
theorem dL_law_1391 : decode cL_law 1391 = .ok (.goto 1032, 3) := by decide +kernel
theorem dL_law_1394 : decode cL_law 1394 = .ok (.aload_n 1, 1) := by decide +kernel
theorem dL_law_1395 : decode cL_law 1395 = .ok (.aload_n 0, 1) := by decide +kernel
theorem dL_law_1396 : decode cL_law 1396 = .ok (.iload 5, 2) := by decide +kernel
theorem dL_law_1398 : decode cL_law 1398 = .ok (.iconst 1, 1) := by decide +kernel
theorem dL_law_1399 : decode cL_law 1399 = .ok (.iadd, 1) := by decide +kernel
theorem dL_law_1400 : decode cL_law 1400 = .ok (.iaload, 1) := by decide +kernel
theorem dL_law_1401 : decode cL_law 1401 = .ok (.aload_n 0, 1) := by decide +kernel
theorem dL_law_1402 : decode cL_law 1402 = .ok (.iload 5, 2) := by decide +kernel
theorem dL_law_1404 : decode cL_law 1404 = .ok (.iconst 2, 1) := by decide +kernel
theorem dL_law_1405 : decode cL_law 1405 = .ok (.iadd, 1) := by decide +kernel
theorem dL_law_1406 : decode cL_law 1406 = .ok (.iaload, 1) := by decide +kernel
theorem dL_law_1407 : decode cL_law 1407 = .ok (.aload_n 0, 1) := by decide +kernel
theorem dL_law_1408 : decode cL_law 1408 = .ok (.iload 5, 2) := by decide +kernel
theorem dL_law_1410 : decode cL_law 1410 = .ok (.iconst 3, 1) := by decide +kernel
theorem dL_law_1411 : decode cL_law 1411 = .ok (.iadd, 1) := by decide +kernel
theorem dL_law_1412 : decode cL_law 1412 = .ok (.iaload, 1) := by decide +kernel
theorem dL_law_1413 : decode cL_law 1413 = .ok (.aload_n 3, 1) := by decide +kernel
theorem dL_law_1414 : decode cL_law 1414 = .ok (.invokestatic 215, 3) := by decide +kernel
theorem dL_law_1417 : decode cL_law 1417 = .ok (.istore 6, 2) := by decide +kernel
theorem dL_law_1419 : decode cL_law 1419 = .ok (.aload_n 2, 1) := by decide +kernel
theorem dL_law_1420 : decode cL_law 1420 = .ok (.aload_n 0, 1) := by decide +kernel
theorem dL_law_1421 : decode cL_law 1421 = .ok (.iload 5, 2) := by decide +kernel
theorem dL_law_1423 : decode cL_law 1423 = .ok (.iconst 1, 1) := by decide +kernel
theorem dL_law_1424 : decode cL_law 1424 = .ok (.iadd, 1) := by decide +kernel
theorem dL_law_1425 : decode cL_law 1425 = .ok (.iaload, 1) := by decide +kernel
theorem dL_law_1426 : decode cL_law 1426 = .ok (.aload_n 0, 1) := by decide +kernel
theorem dL_law_1427 : decode cL_law 1427 = .ok (.iload 5, 2) := by decide +kernel
theorem dL_law_1429 : decode cL_law 1429 = .ok (.iconst 2, 1) := by decide +kernel
theorem dL_law_1430 : decode cL_law 1430 = .ok (.iadd, 1) := by decide +kernel
theorem dL_law_1431 : decode cL_law 1431 = .ok (.iaload, 1) := by decide +kernel
theorem dL_law_1432 : decode cL_law 1432 = .ok (.aload_n 0, 1) := by decide +kernel
theorem dL_law_1433 : decode cL_law 1433 = .ok (.iload 5, 2) := by decide +kernel
theorem dL_law_1435 : decode cL_law 1435 = .ok (.iconst 3, 1) := by decide +kernel
theorem dL_law_1436 : decode cL_law 1436 = .ok (.iadd, 1) := by decide +kernel
theorem dL_law_1437 : decode cL_law 1437 = .ok (.iaload, 1) := by decide +kernel
theorem dL_law_1438 : decode cL_law 1438 = .ok (.invokevirtual 218, 3) := by decide +kernel
theorem dL_law_1441 : decode cL_law 1441 = .ok (.istore 7, 2) := by decide +kernel
theorem dL_law_1443 : decode cL_law 1443 = .ok (.aload_n 2, 1) := by decide +kernel
theorem dL_law_1444 : decode cL_law 1444 = .ok (.invokevirtual 134, 3) := by decide +kernel
theorem dL_law_1447 : decode cL_law 1447 = .ok (.iload 6, 2) := by decide +kernel
theorem dL_law_1449 : decode cL_law 1449 = .ok (.if_icmp .eq 5, 3) := by decide +kernel
theorem dL_law_1452 : decode cL_law 1452 = .ok (.iconst 0, 1) := by decide +kernel
theorem dL_law_1453 : decode cL_law 1453 = .ok (.ireturn, 1) := by decide +kernel
theorem dL_law_1454 : decode cL_law 1454 = .ok (.iload 6, 2) := by decide +kernel
theorem dL_law_1456 : decode cL_law 1456 = .ok (.ifCond .ne 15, 3) := by decide +kernel
theorem dL_law_1459 : decode cL_law 1459 = .ok (.aload_n 3, 1) := by decide +kernel
theorem dL_law_1460 : decode cL_law 1460 = .ok (.iconst 0, 1) := by decide +kernel
theorem dL_law_1461 : decode cL_law 1461 = .ok (.laload, 1) := by decide +kernel
theorem dL_law_1462 : decode cL_law 1462 = .ok (.iload 7, 2) := by decide +kernel
theorem dL_law_1464 : decode cL_law 1464 = .ok (.i2l, 1) := by decide +kernel
theorem dL_law_1465 : decode cL_law 1465 = .ok (.lcmp, 1) := by decide +kernel
theorem dL_law_1466 : decode cL_law 1466 = .ok (.ifCond .eq 5, 3) := by decide +kernel
theorem dL_law_1469 : decode cL_law 1469 = .ok (.iconst 0, 1) := by decide +kernel
theorem dL_law_1470 : decode cL_law 1470 = .ok (.ireturn, 1) := by decide +kernel
theorem dL_law_1471 : decode cL_law 1471 = .ok (.goto 952, 3) := by decide +kernel
theorem dL_law_1474 : decode cL_law 1474 = .ok (.aload_n 1, 1) := by decide +kernel
theorem dL_law_1475 : decode cL_law 1475 = .ok (.aload_n 0, 1) := by decide +kernel
theorem dL_law_1476 : decode cL_law 1476 = .ok (.iload 5, 2) := by decide +kernel
theorem dL_law_1478 : decode cL_law 1478 = .ok (.iconst 1, 1) := by decide +kernel
theorem dL_law_1479 : decode cL_law 1479 = .ok (.iadd, 1) := by decide +kernel
theorem dL_law_1480 : decode cL_law 1480 = .ok (.iaload, 1) := by decide +kernel
theorem dL_law_1481 : decode cL_law 1481 = .ok (.aload_n 3, 1) := by decide +kernel
theorem dL_law_1482 : decode cL_law 1482 = .ok (.invokestatic 219, 3) := by decide +kernel
theorem dL_law_1485 : decode cL_law 1485 = .ok (.istore 6, 2) := by decide +kernel
theorem dL_law_1487 : decode cL_law 1487 = .ok (.aload_n 2, 1) := by decide +kernel
theorem dL_law_1488 : decode cL_law 1488 = .ok (.aload_n 0, 1) := by decide +kernel
theorem dL_law_1489 : decode cL_law 1489 = .ok (.iload 5, 2) := by decide +kernel
theorem dL_law_1491 : decode cL_law 1491 = .ok (.iconst 1, 1) := by decide +kernel
theorem dL_law_1492 : decode cL_law 1492 = .ok (.iadd, 1) := by decide +kernel
theorem dL_law_1493 : decode cL_law 1493 = .ok (.iaload, 1) := by decide +kernel
theorem dL_law_1494 : decode cL_law 1494 = .ok (.invokevirtual 221, 3) := by decide +kernel
theorem dL_law_1497 : decode cL_law 1497 = .ok (.istore 7, 2) := by decide +kernel
theorem dL_law_1499 : decode cL_law 1499 = .ok (.aload_n 2, 1) := by decide +kernel
theorem dL_law_1500 : decode cL_law 1500 = .ok (.invokevirtual 134, 3) := by decide +kernel
theorem dL_law_1503 : decode cL_law 1503 = .ok (.iload 6, 2) := by decide +kernel
theorem dL_law_1505 : decode cL_law 1505 = .ok (.if_icmp .eq 5, 3) := by decide +kernel
theorem dL_law_1508 : decode cL_law 1508 = .ok (.iconst 0, 1) := by decide +kernel
theorem dL_law_1509 : decode cL_law 1509 = .ok (.ireturn, 1) := by decide +kernel
theorem dL_law_1510 : decode cL_law 1510 = .ok (.iload 6, 2) := by decide +kernel
theorem dL_law_1512 : decode cL_law 1512 = .ok (.ifCond .ne 15, 3) := by decide +kernel
theorem dL_law_1515 : decode cL_law 1515 = .ok (.aload_n 3, 1) := by decide +kernel
theorem dL_law_1516 : decode cL_law 1516 = .ok (.iconst 0, 1) := by decide +kernel
theorem dL_law_1517 : decode cL_law 1517 = .ok (.laload, 1) := by decide +kernel
theorem dL_law_1518 : decode cL_law 1518 = .ok (.iload 7, 2) := by decide +kernel
theorem dL_law_1520 : decode cL_law 1520 = .ok (.i2l, 1) := by decide +kernel
theorem dL_law_1521 : decode cL_law 1521 = .ok (.lcmp, 1) := by decide +kernel
theorem dL_law_1522 : decode cL_law 1522 = .ok (.ifCond .eq 5, 3) := by decide +kernel
theorem dL_law_1525 : decode cL_law 1525 = .ok (.iconst 0, 1) := by decide +kernel
theorem dL_law_1526 : decode cL_law 1526 = .ok (.ireturn, 1) := by decide +kernel
theorem dL_law_1527 : decode cL_law 1527 = .ok (.goto 896, 3) := by decide +kernel
theorem dL_law_1530 : decode cL_law 1530 = .ok (.aload_n 1, 1) := by decide +kernel
theorem dL_law_1531 : decode cL_law 1531 = .ok (.aload_n 0, 1) := by decide +kernel
theorem dL_law_1532 : decode cL_law 1532 = .ok (.iload 5, 2) := by decide +kernel
theorem dL_law_1534 : decode cL_law 1534 = .ok (.iconst 1, 1) := by decide +kernel
theorem dL_law_1535 : decode cL_law 1535 = .ok (.iadd, 1) := by decide +kernel
theorem dL_law_1536 : decode cL_law 1536 = .ok (.iaload, 1) := by decide +kernel
theorem dL_law_1537 : decode cL_law 1537 = .ok (.aload_n 0, 1) := by decide +kernel
theorem dL_law_1538 : decode cL_law 1538 = .ok (.iload 5, 2) := by decide +kernel
theorem dL_law_1540 : decode cL_law 1540 = .ok (.iconst 2, 1) := by decide +kernel
theorem dL_law_1541 : decode cL_law 1541 = .ok (.iadd, 1) := by decide +kernel
theorem dL_law_1542 : decode cL_law 1542 = .ok (.iaload, 1) := by decide +kernel
theorem dL_law_1543 : decode cL_law 1543 = .ok (.aload_n 3, 1) := by decide +kernel
theorem dL_law_1544 : decode cL_law 1544 = .ok (.invokestatic 222, 3) := by decide +kernel
theorem dL_law_1547 : decode cL_law 1547 = .ok (.istore 6, 2) := by decide +kernel
theorem dL_law_1549 : decode cL_law 1549 = .ok (.aload_n 2, 1) := by decide +kernel
theorem dL_law_1550 : decode cL_law 1550 = .ok (.aload_n 0, 1) := by decide +kernel
theorem dL_law_1551 : decode cL_law 1551 = .ok (.iload 5, 2) := by decide +kernel
theorem dL_law_1553 : decode cL_law 1553 = .ok (.iconst 1, 1) := by decide +kernel
theorem dL_law_1554 : decode cL_law 1554 = .ok (.iadd, 1) := by decide +kernel
theorem dL_law_1555 : decode cL_law 1555 = .ok (.iaload, 1) := by decide +kernel
theorem dL_law_1556 : decode cL_law 1556 = .ok (.aload_n 0, 1) := by decide +kernel
theorem dL_law_1557 : decode cL_law 1557 = .ok (.iload 5, 2) := by decide +kernel
theorem dL_law_1559 : decode cL_law 1559 = .ok (.iconst 2, 1) := by decide +kernel
theorem dL_law_1560 : decode cL_law 1560 = .ok (.iadd, 1) := by decide +kernel
theorem dL_law_1561 : decode cL_law 1561 = .ok (.iaload, 1) := by decide +kernel
theorem dL_law_1562 : decode cL_law 1562 = .ok (.invokevirtual 224, 3) := by decide +kernel
theorem dL_law_1565 : decode cL_law 1565 = .ok (.istore 7, 2) := by decide +kernel
theorem dL_law_1567 : decode cL_law 1567 = .ok (.aload_n 2, 1) := by decide +kernel
theorem dL_law_1568 : decode cL_law 1568 = .ok (.invokevirtual 134, 3) := by decide +kernel
theorem dL_law_1571 : decode cL_law 1571 = .ok (.iload 6, 2) := by decide +kernel
theorem dL_law_1573 : decode cL_law 1573 = .ok (.if_icmp .eq 5, 3) := by decide +kernel
theorem dL_law_1576 : decode cL_law 1576 = .ok (.iconst 0, 1) := by decide +kernel
theorem dL_law_1577 : decode cL_law 1577 = .ok (.ireturn, 1) := by decide +kernel
theorem dL_law_1578 : decode cL_law 1578 = .ok (.iload 6, 2) := by decide +kernel
theorem dL_law_1580 : decode cL_law 1580 = .ok (.ifCond .ne 15, 3) := by decide +kernel
theorem dL_law_1583 : decode cL_law 1583 = .ok (.aload_n 3, 1) := by decide +kernel
theorem dL_law_1584 : decode cL_law 1584 = .ok (.iconst 0, 1) := by decide +kernel
theorem dL_law_1585 : decode cL_law 1585 = .ok (.laload, 1) := by decide +kernel
theorem dL_law_1586 : decode cL_law 1586 = .ok (.iload 7, 2) := by decide +kernel
theorem dL_law_1588 : decode cL_law 1588 = .ok (.i2l, 1) := by decide +kernel
theorem dL_law_1589 : decode cL_law 1589 = .ok (.lcmp, 1) := by decide +kernel
theorem dL_law_1590 : decode cL_law 1590 = .ok (.ifCond .eq 5, 3) := by decide +kernel
theorem dL_law_1593 : decode cL_law 1593 = .ok (.iconst 0, 1) := by decide +kernel
theorem dL_law_1594 : decode cL_law 1594 = .ok (.ireturn, 1) := by decide +kernel
theorem dL_law_1595 : decode cL_law 1595 = .ok (.goto 828, 3) := by decide +kernel
theorem dL_law_1598 : decode cL_law 1598 = .ok (.aload_n 1, 1) := by decide +kernel
theorem dL_law_1599 : decode cL_law 1599 = .ok (.invokevirtual 225, 3) := by decide +kernel
theorem dL_law_1602 : decode cL_law 1602 = .ok (.aload_n 2, 1) := by decide +kernel
theorem dL_law_1603 : decode cL_law 1603 = .ok (.invokevirtual 228, 3) := by decide +kernel
theorem dL_law_1606 : decode cL_law 1606 = .ok (.if_icmp .eq 817, 3) := by decide +kernel
theorem dL_law_1609 : decode cL_law 1609 = .ok (.iconst 0, 1) := by decide +kernel
theorem dL_law_1610 : decode cL_law 1610 = .ok (.ireturn, 1) := by decide +kernel
theorem dL_law_1611 : decode cL_law 1611 = .ok (.aload_n 1, 1) := by decide +kernel
theorem dL_law_1612 : decode cL_law 1612 = .ok (.aload_n 0, 1) := by decide +kernel
theorem dL_law_1613 : decode cL_law 1613 = .ok (.iload 5, 2) := by decide +kernel
theorem dL_law_1615 : decode cL_law 1615 = .ok (.iconst 1, 1) := by decide +kernel
theorem dL_law_1616 : decode cL_law 1616 = .ok (.iadd, 1) := by decide +kernel
theorem dL_law_1617 : decode cL_law 1617 = .ok (.iaload, 1) := by decide +kernel
theorem dL_law_1618 : decode cL_law 1618 = .ok (.aload_n 0, 1) := by decide +kernel
theorem dL_law_1619 : decode cL_law 1619 = .ok (.iload 5, 2) := by decide +kernel
theorem dL_law_1621 : decode cL_law 1621 = .ok (.iconst 2, 1) := by decide +kernel
theorem dL_law_1622 : decode cL_law 1622 = .ok (.iadd, 1) := by decide +kernel
theorem dL_law_1623 : decode cL_law 1623 = .ok (.iaload, 1) := by decide +kernel
theorem dL_law_1624 : decode cL_law 1624 = .ok (.aload_n 0, 1) := by decide +kernel
theorem dL_law_1625 : decode cL_law 1625 = .ok (.iload 5, 2) := by decide +kernel
theorem dL_law_1627 : decode cL_law 1627 = .ok (.iconst 3, 1) := by decide +kernel
theorem dL_law_1628 : decode cL_law 1628 = .ok (.iadd, 1) := by decide +kernel
theorem dL_law_1629 : decode cL_law 1629 = .ok (.iaload, 1) := by decide +kernel
theorem dL_law_1630 : decode cL_law 1630 = .ok (.aload_n 0, 1) := by decide +kernel
theorem dL_law_1631 : decode cL_law 1631 = .ok (.iload 5, 2) := by decide +kernel
theorem dL_law_1633 : decode cL_law 1633 = .ok (.iconst 4, 1) := by decide +kernel
theorem dL_law_1634 : decode cL_law 1634 = .ok (.iadd, 1) := by decide +kernel
theorem dL_law_1635 : decode cL_law 1635 = .ok (.iaload, 1) := by decide +kernel
theorem dL_law_1636 : decode cL_law 1636 = .ok (.aload_n 3, 1) := by decide +kernel
theorem dL_law_1637 : decode cL_law 1637 = .ok (.invokestatic 229, 3) := by decide +kernel
theorem dL_law_1640 : decode cL_law 1640 = .ok (.istore 6, 2) := by decide +kernel
theorem dL_law_1642 : decode cL_law 1642 = .ok (.aload_n 2, 1) := by decide +kernel
theorem dL_law_1643 : decode cL_law 1643 = .ok (.aload_n 0, 1) := by decide +kernel
theorem dL_law_1644 : decode cL_law 1644 = .ok (.iload 5, 2) := by decide +kernel
theorem dL_law_1646 : decode cL_law 1646 = .ok (.iconst 1, 1) := by decide +kernel
theorem dL_law_1647 : decode cL_law 1647 = .ok (.iadd, 1) := by decide +kernel
theorem dL_law_1648 : decode cL_law 1648 = .ok (.iaload, 1) := by decide +kernel
theorem dL_law_1649 : decode cL_law 1649 = .ok (.aload_n 0, 1) := by decide +kernel
theorem dL_law_1650 : decode cL_law 1650 = .ok (.iload 5, 2) := by decide +kernel
theorem dL_law_1652 : decode cL_law 1652 = .ok (.iconst 2, 1) := by decide +kernel
theorem dL_law_1653 : decode cL_law 1653 = .ok (.iadd, 1) := by decide +kernel
theorem dL_law_1654 : decode cL_law 1654 = .ok (.iaload, 1) := by decide +kernel
theorem dL_law_1655 : decode cL_law 1655 = .ok (.aload_n 0, 1) := by decide +kernel
theorem dL_law_1656 : decode cL_law 1656 = .ok (.iload 5, 2) := by decide +kernel
theorem dL_law_1658 : decode cL_law 1658 = .ok (.iconst 3, 1) := by decide +kernel
theorem dL_law_1659 : decode cL_law 1659 = .ok (.iadd, 1) := by decide +kernel
theorem dL_law_1660 : decode cL_law 1660 = .ok (.iaload, 1) := by decide +kernel
theorem dL_law_1661 : decode cL_law 1661 = .ok (.aload_n 0, 1) := by decide +kernel
theorem dL_law_1662 : decode cL_law 1662 = .ok (.iload 5, 2) := by decide +kernel
theorem dL_law_1664 : decode cL_law 1664 = .ok (.iconst 4, 1) := by decide +kernel
theorem dL_law_1665 : decode cL_law 1665 = .ok (.iadd, 1) := by decide +kernel
theorem dL_law_1666 : decode cL_law 1666 = .ok (.iaload, 1) := by decide +kernel
theorem dL_law_1667 : decode cL_law 1667 = .ok (.invokevirtual 232, 3) := by decide +kernel
theorem dL_law_1670 : decode cL_law 1670 = .ok (.istore 7, 2) := by decide +kernel
theorem dL_law_1672 : decode cL_law 1672 = .ok (.aload_n 2, 1) := by decide +kernel
theorem dL_law_1673 : decode cL_law 1673 = .ok (.invokevirtual 134, 3) := by decide +kernel
theorem dL_law_1676 : decode cL_law 1676 = .ok (.iload 6, 2) := by decide +kernel
theorem dL_law_1678 : decode cL_law 1678 = .ok (.if_icmp .eq 5, 3) := by decide +kernel
theorem dL_law_1681 : decode cL_law 1681 = .ok (.iconst 0, 1) := by decide +kernel
theorem dL_law_1682 : decode cL_law 1682 = .ok (.ireturn, 1) := by decide +kernel
theorem dL_law_1683 : decode cL_law 1683 = .ok (.iload 6, 2) := by decide +kernel
theorem dL_law_1685 : decode cL_law 1685 = .ok (.ifCond .ne 15, 3) := by decide +kernel
theorem dL_law_1688 : decode cL_law 1688 = .ok (.aload_n 3, 1) := by decide +kernel
theorem dL_law_1689 : decode cL_law 1689 = .ok (.iconst 0, 1) := by decide +kernel
theorem dL_law_1690 : decode cL_law 1690 = .ok (.laload, 1) := by decide +kernel
theorem dL_law_1691 : decode cL_law 1691 = .ok (.iload 7, 2) := by decide +kernel
theorem dL_law_1693 : decode cL_law 1693 = .ok (.i2l, 1) := by decide +kernel
theorem dL_law_1694 : decode cL_law 1694 = .ok (.lcmp, 1) := by decide +kernel
theorem dL_law_1695 : decode cL_law 1695 = .ok (.ifCond .eq 5, 3) := by decide +kernel
theorem dL_law_1698 : decode cL_law 1698 = .ok (.iconst 0, 1) := by decide +kernel
theorem dL_law_1699 : decode cL_law 1699 = .ok (.ireturn, 1) := by decide +kernel
theorem dL_law_1700 : decode cL_law 1700 = .ok (.goto 723, 3) := by decide +kernel
theorem dL_law_1703 : decode cL_law 1703 = .ok (.aload_n 1, 1) := by decide +kernel
theorem dL_law_1704 : decode cL_law 1704 = .ok (.invokevirtual 233, 3) := by decide +kernel
theorem dL_law_1707 : decode cL_law 1707 = .ok (.aload_n 2, 1) := by decide +kernel
theorem dL_law_1708 : decode cL_law 1708 = .ok (.invokevirtual 236, 3) := by decide +kernel
theorem dL_law_1711 : decode cL_law 1711 = .ok (.if_icmp .eq 712, 3) := by decide +kernel
theorem dL_law_1714 : decode cL_law 1714 = .ok (.iconst 0, 1) := by decide +kernel
theorem dL_law_1715 : decode cL_law 1715 = .ok (.ireturn, 1) := by decide +kernel
theorem dL_law_1716 : decode cL_law 1716 = .ok (.aload_n 1, 1) := by decide +kernel
theorem dL_law_1717 : decode cL_law 1717 = .ok (.aload_n 0, 1) := by decide +kernel
theorem dL_law_1718 : decode cL_law 1718 = .ok (.iload 5, 2) := by decide +kernel
theorem dL_law_1720 : decode cL_law 1720 = .ok (.iconst 1, 1) := by decide +kernel
theorem dL_law_1721 : decode cL_law 1721 = .ok (.iadd, 1) := by decide +kernel
theorem dL_law_1722 : decode cL_law 1722 = .ok (.iaload, 1) := by decide +kernel
theorem dL_law_1723 : decode cL_law 1723 = .ok (.aload_n 0, 1) := by decide +kernel
theorem dL_law_1724 : decode cL_law 1724 = .ok (.iload 5, 2) := by decide +kernel
theorem dL_law_1726 : decode cL_law 1726 = .ok (.iconst 2, 1) := by decide +kernel
theorem dL_law_1727 : decode cL_law 1727 = .ok (.iadd, 1) := by decide +kernel
theorem dL_law_1728 : decode cL_law 1728 = .ok (.iaload, 1) := by decide +kernel
theorem dL_law_1729 : decode cL_law 1729 = .ok (.aload_n 3, 1) := by decide +kernel
theorem dL_law_1730 : decode cL_law 1730 = .ok (.invokestatic 237, 3) := by decide +kernel
theorem dL_law_1733 : decode cL_law 1733 = .ok (.istore 6, 2) := by decide +kernel
theorem dL_law_1735 : decode cL_law 1735 = .ok (.aload_n 2, 1) := by decide +kernel
theorem dL_law_1736 : decode cL_law 1736 = .ok (.aload_n 0, 1) := by decide +kernel
theorem dL_law_1737 : decode cL_law 1737 = .ok (.iload 5, 2) := by decide +kernel
theorem dL_law_1739 : decode cL_law 1739 = .ok (.iconst 1, 1) := by decide +kernel
theorem dL_law_1740 : decode cL_law 1740 = .ok (.iadd, 1) := by decide +kernel
theorem dL_law_1741 : decode cL_law 1741 = .ok (.iaload, 1) := by decide +kernel
theorem dL_law_1742 : decode cL_law 1742 = .ok (.aload_n 0, 1) := by decide +kernel
theorem dL_law_1743 : decode cL_law 1743 = .ok (.iload 5, 2) := by decide +kernel
theorem dL_law_1745 : decode cL_law 1745 = .ok (.iconst 2, 1) := by decide +kernel
theorem dL_law_1746 : decode cL_law 1746 = .ok (.iadd, 1) := by decide +kernel
theorem dL_law_1747 : decode cL_law 1747 = .ok (.iaload, 1) := by decide +kernel
theorem dL_law_1748 : decode cL_law 1748 = .ok (.invokevirtual 239, 3) := by decide +kernel
theorem dL_law_1751 : decode cL_law 1751 = .ok (.istore 7, 2) := by decide +kernel
theorem dL_law_1753 : decode cL_law 1753 = .ok (.aload_n 2, 1) := by decide +kernel
theorem dL_law_1754 : decode cL_law 1754 = .ok (.invokevirtual 134, 3) := by decide +kernel
theorem dL_law_1757 : decode cL_law 1757 = .ok (.iload 6, 2) := by decide +kernel
theorem dL_law_1759 : decode cL_law 1759 = .ok (.if_icmp .eq 5, 3) := by decide +kernel
theorem dL_law_1762 : decode cL_law 1762 = .ok (.iconst 0, 1) := by decide +kernel
theorem dL_law_1763 : decode cL_law 1763 = .ok (.ireturn, 1) := by decide +kernel
theorem dL_law_1764 : decode cL_law 1764 = .ok (.iload 6, 2) := by decide +kernel
theorem dL_law_1766 : decode cL_law 1766 = .ok (.ifCond .ne 22, 3) := by decide +kernel
theorem dL_law_1769 : decode cL_law 1769 = .ok (.aload_n 3, 1) := by decide +kernel
theorem dL_law_1770 : decode cL_law 1770 = .ok (.iconst 0, 1) := by decide +kernel
theorem dL_law_1771 : decode cL_law 1771 = .ok (.laload, 1) := by decide +kernel
theorem dL_law_1772 : decode cL_law 1772 = .ok (.iload 7, 2) := by decide +kernel
theorem dL_law_1774 : decode cL_law 1774 = .ok (.ifCond .eq 7, 3) := by decide +kernel
theorem dL_law_1777 : decode cL_law 1777 = .ok (.lconst 1, 1) := by decide +kernel
theorem dL_law_1778 : decode cL_law 1778 = .ok (.goto 4, 3) := by decide +kernel
theorem dL_law_1781 : decode cL_law 1781 = .ok (.lconst 0, 1) := by decide +kernel
theorem dL_law_1782 : decode cL_law 1782 = .ok (.lcmp, 1) := by decide +kernel
theorem dL_law_1783 : decode cL_law 1783 = .ok (.ifCond .eq 5, 3) := by decide +kernel
theorem dL_law_1786 : decode cL_law 1786 = .ok (.iconst 0, 1) := by decide +kernel
theorem dL_law_1787 : decode cL_law 1787 = .ok (.ireturn, 1) := by decide +kernel
theorem dL_law_1788 : decode cL_law 1788 = .ok (.goto 635, 3) := by decide +kernel
theorem dL_law_1791 : decode cL_law 1791 = .ok (.aload_n 1, 1) := by decide +kernel
theorem dL_law_1792 : decode cL_law 1792 = .ok (.aload_n 0, 1) := by decide +kernel
theorem dL_law_1793 : decode cL_law 1793 = .ok (.iload 5, 2) := by decide +kernel
theorem dL_law_1795 : decode cL_law 1795 = .ok (.iconst 1, 1) := by decide +kernel
theorem dL_law_1796 : decode cL_law 1796 = .ok (.iadd, 1) := by decide +kernel
theorem dL_law_1797 : decode cL_law 1797 = .ok (.iaload, 1) := by decide +kernel
theorem dL_law_1798 : decode cL_law 1798 = .ok (.aload_n 0, 1) := by decide +kernel
theorem dL_law_1799 : decode cL_law 1799 = .ok (.iload 5, 2) := by decide +kernel
theorem dL_law_1801 : decode cL_law 1801 = .ok (.iconst 2, 1) := by decide +kernel
theorem dL_law_1802 : decode cL_law 1802 = .ok (.iadd, 1) := by decide +kernel
theorem dL_law_1803 : decode cL_law 1803 = .ok (.iaload, 1) := by decide +kernel
theorem dL_law_1804 : decode cL_law 1804 = .ok (.aload_n 3, 1) := by decide +kernel
theorem dL_law_1805 : decode cL_law 1805 = .ok (.invokestatic 240, 3) := by decide +kernel
theorem dL_law_1808 : decode cL_law 1808 = .ok (.istore 6, 2) := by decide +kernel
theorem dL_law_1810 : decode cL_law 1810 = .ok (.aload_n 2, 1) := by decide +kernel
theorem dL_law_1811 : decode cL_law 1811 = .ok (.aload_n 0, 1) := by decide +kernel
theorem dL_law_1812 : decode cL_law 1812 = .ok (.iload 5, 2) := by decide +kernel
theorem dL_law_1814 : decode cL_law 1814 = .ok (.iconst 1, 1) := by decide +kernel
theorem dL_law_1815 : decode cL_law 1815 = .ok (.iadd, 1) := by decide +kernel
theorem dL_law_1816 : decode cL_law 1816 = .ok (.iaload, 1) := by decide +kernel
theorem dL_law_1817 : decode cL_law 1817 = .ok (.aload_n 0, 1) := by decide +kernel
theorem dL_law_1818 : decode cL_law 1818 = .ok (.iload 5, 2) := by decide +kernel
theorem dL_law_1820 : decode cL_law 1820 = .ok (.iconst 2, 1) := by decide +kernel
theorem dL_law_1821 : decode cL_law 1821 = .ok (.iadd, 1) := by decide +kernel
theorem dL_law_1822 : decode cL_law 1822 = .ok (.iaload, 1) := by decide +kernel
theorem dL_law_1823 : decode cL_law 1823 = .ok (.invokevirtual 242, 3) := by decide +kernel
theorem dL_law_1826 : decode cL_law 1826 = .ok (.istore 7, 2) := by decide +kernel
theorem dL_law_1828 : decode cL_law 1828 = .ok (.aload_n 2, 1) := by decide +kernel
theorem dL_law_1829 : decode cL_law 1829 = .ok (.invokevirtual 134, 3) := by decide +kernel
theorem dL_law_1832 : decode cL_law 1832 = .ok (.iload 6, 2) := by decide +kernel
theorem dL_law_1834 : decode cL_law 1834 = .ok (.if_icmp .eq 5, 3) := by decide +kernel
theorem dL_law_1837 : decode cL_law 1837 = .ok (.iconst 0, 1) := by decide +kernel
theorem dL_law_1838 : decode cL_law 1838 = .ok (.ireturn, 1) := by decide +kernel
theorem dL_law_1839 : decode cL_law 1839 = .ok (.iload 6, 2) := by decide +kernel
theorem dL_law_1841 : decode cL_law 1841 = .ok (.ifCond .ne 15, 3) := by decide +kernel
theorem dL_law_1844 : decode cL_law 1844 = .ok (.aload_n 3, 1) := by decide +kernel
theorem dL_law_1845 : decode cL_law 1845 = .ok (.iconst 0, 1) := by decide +kernel
theorem dL_law_1846 : decode cL_law 1846 = .ok (.laload, 1) := by decide +kernel
theorem dL_law_1847 : decode cL_law 1847 = .ok (.iload 7, 2) := by decide +kernel
theorem dL_law_1849 : decode cL_law 1849 = .ok (.i2l, 1) := by decide +kernel
end
section
theorem dL_law_1850 : decode cL_law 1850 = .ok (.lcmp, 1) := by decide +kernel
theorem dL_law_1851 : decode cL_law 1851 = .ok (.ifCond .eq 5, 3) := by decide +kernel
theorem dL_law_1854 : decode cL_law 1854 = .ok (.iconst 0, 1) := by decide +kernel
theorem dL_law_1855 : decode cL_law 1855 = .ok (.ireturn, 1) := by decide +kernel
theorem dL_law_1856 : decode cL_law 1856 = .ok (.goto 567, 3) := by decide +kernel
theorem dL_law_1859 : decode cL_law 1859 = .ok (.aload_n 1, 1) := by decide +kernel
theorem dL_law_1860 : decode cL_law 1860 = .ok (.aload_n 0, 1) := by decide +kernel
theorem dL_law_1861 : decode cL_law 1861 = .ok (.iload 5, 2) := by decide +kernel
theorem dL_law_1863 : decode cL_law 1863 = .ok (.iconst 1, 1) := by decide +kernel
theorem dL_law_1864 : decode cL_law 1864 = .ok (.iadd, 1) := by decide +kernel
theorem dL_law_1865 : decode cL_law 1865 = .ok (.iaload, 1) := by decide +kernel
theorem dL_law_1866 : decode cL_law 1866 = .ok (.aload_n 0, 1) := by decide +kernel
theorem dL_law_1867 : decode cL_law 1867 = .ok (.iload 5, 2) := by decide +kernel
theorem dL_law_1869 : decode cL_law 1869 = .ok (.iconst 2, 1) := by decide +kernel
theorem dL_law_1870 : decode cL_law 1870 = .ok (.iadd, 1) := by decide +kernel
theorem dL_law_1871 : decode cL_law 1871 = .ok (.iaload, 1) := by decide +kernel
theorem dL_law_1872 : decode cL_law 1872 = .ok (.aload_n 3, 1) := by decide +kernel
theorem dL_law_1873 : decode cL_law 1873 = .ok (.invokestatic 243, 3) := by decide +kernel
theorem dL_law_1876 : decode cL_law 1876 = .ok (.istore 6, 2) := by decide +kernel
theorem dL_law_1878 : decode cL_law 1878 = .ok (.aload_n 2, 1) := by decide +kernel
theorem dL_law_1879 : decode cL_law 1879 = .ok (.aload_n 0, 1) := by decide +kernel
theorem dL_law_1880 : decode cL_law 1880 = .ok (.iload 5, 2) := by decide +kernel
theorem dL_law_1882 : decode cL_law 1882 = .ok (.iconst 1, 1) := by decide +kernel
theorem dL_law_1883 : decode cL_law 1883 = .ok (.iadd, 1) := by decide +kernel
theorem dL_law_1884 : decode cL_law 1884 = .ok (.iaload, 1) := by decide +kernel
theorem dL_law_1885 : decode cL_law 1885 = .ok (.aload_n 0, 1) := by decide +kernel
theorem dL_law_1886 : decode cL_law 1886 = .ok (.iload 5, 2) := by decide +kernel
theorem dL_law_1888 : decode cL_law 1888 = .ok (.iconst 2, 1) := by decide +kernel
theorem dL_law_1889 : decode cL_law 1889 = .ok (.iadd, 1) := by decide +kernel
theorem dL_law_1890 : decode cL_law 1890 = .ok (.iaload, 1) := by decide +kernel
theorem dL_law_1891 : decode cL_law 1891 = .ok (.invokevirtual 245, 3) := by decide +kernel
theorem dL_law_1894 : decode cL_law 1894 = .ok (.istore 7, 2) := by decide +kernel
theorem dL_law_1896 : decode cL_law 1896 = .ok (.aload_n 2, 1) := by decide +kernel
theorem dL_law_1897 : decode cL_law 1897 = .ok (.invokevirtual 134, 3) := by decide +kernel
theorem dL_law_1900 : decode cL_law 1900 = .ok (.iload 6, 2) := by decide +kernel
theorem dL_law_1902 : decode cL_law 1902 = .ok (.if_icmp .eq 5, 3) := by decide +kernel
theorem dL_law_1905 : decode cL_law 1905 = .ok (.iconst 0, 1) := by decide +kernel
theorem dL_law_1906 : decode cL_law 1906 = .ok (.ireturn, 1) := by decide +kernel
theorem dL_law_1907 : decode cL_law 1907 = .ok (.iload 6, 2) := by decide +kernel
theorem dL_law_1909 : decode cL_law 1909 = .ok (.ifCond .ne 15, 3) := by decide +kernel
theorem dL_law_1912 : decode cL_law 1912 = .ok (.aload_n 3, 1) := by decide +kernel
theorem dL_law_1913 : decode cL_law 1913 = .ok (.iconst 0, 1) := by decide +kernel
theorem dL_law_1914 : decode cL_law 1914 = .ok (.laload, 1) := by decide +kernel
theorem dL_law_1915 : decode cL_law 1915 = .ok (.iload 7, 2) := by decide +kernel
theorem dL_law_1917 : decode cL_law 1917 = .ok (.i2l, 1) := by decide +kernel
theorem dL_law_1918 : decode cL_law 1918 = .ok (.lcmp, 1) := by decide +kernel
theorem dL_law_1919 : decode cL_law 1919 = .ok (.ifCond .eq 5, 3) := by decide +kernel
theorem dL_law_1922 : decode cL_law 1922 = .ok (.iconst 0, 1) := by decide +kernel
theorem dL_law_1923 : decode cL_law 1923 = .ok (.ireturn, 1) := by decide +kernel
theorem dL_law_1924 : decode cL_law 1924 = .ok (.goto 499, 3) := by decide +kernel
theorem dL_law_1927 : decode cL_law 1927 = .ok (.aload_n 1, 1) := by decide +kernel
theorem dL_law_1928 : decode cL_law 1928 = .ok (.aload_n 0, 1) := by decide +kernel
theorem dL_law_1929 : decode cL_law 1929 = .ok (.iload 5, 2) := by decide +kernel
theorem dL_law_1931 : decode cL_law 1931 = .ok (.iconst 1, 1) := by decide +kernel
theorem dL_law_1932 : decode cL_law 1932 = .ok (.iadd, 1) := by decide +kernel
theorem dL_law_1933 : decode cL_law 1933 = .ok (.iaload, 1) := by decide +kernel
theorem dL_law_1934 : decode cL_law 1934 = .ok (.aload_n 3, 1) := by decide +kernel
theorem dL_law_1935 : decode cL_law 1935 = .ok (.invokestatic 246, 3) := by decide +kernel
theorem dL_law_1938 : decode cL_law 1938 = .ok (.istore 6, 2) := by decide +kernel
theorem dL_law_1940 : decode cL_law 1940 = .ok (.aload_n 2, 1) := by decide +kernel
theorem dL_law_1941 : decode cL_law 1941 = .ok (.aload_n 0, 1) := by decide +kernel
theorem dL_law_1942 : decode cL_law 1942 = .ok (.iload 5, 2) := by decide +kernel
theorem dL_law_1944 : decode cL_law 1944 = .ok (.iconst 1, 1) := by decide +kernel
theorem dL_law_1945 : decode cL_law 1945 = .ok (.iadd, 1) := by decide +kernel
theorem dL_law_1946 : decode cL_law 1946 = .ok (.iaload, 1) := by decide +kernel
theorem dL_law_1947 : decode cL_law 1947 = .ok (.invokevirtual 248, 3) := by decide +kernel
theorem dL_law_1950 : decode cL_law 1950 = .ok (.istore 7, 2) := by decide +kernel
theorem dL_law_1952 : decode cL_law 1952 = .ok (.aload_n 2, 1) := by decide +kernel
theorem dL_law_1953 : decode cL_law 1953 = .ok (.invokevirtual 134, 3) := by decide +kernel
theorem dL_law_1956 : decode cL_law 1956 = .ok (.iload 6, 2) := by decide +kernel
theorem dL_law_1958 : decode cL_law 1958 = .ok (.if_icmp .eq 5, 3) := by decide +kernel
theorem dL_law_1961 : decode cL_law 1961 = .ok (.iconst 0, 1) := by decide +kernel
theorem dL_law_1962 : decode cL_law 1962 = .ok (.ireturn, 1) := by decide +kernel
theorem dL_law_1963 : decode cL_law 1963 = .ok (.iload 6, 2) := by decide +kernel
theorem dL_law_1965 : decode cL_law 1965 = .ok (.ifCond .ne 15, 3) := by decide +kernel
theorem dL_law_1968 : decode cL_law 1968 = .ok (.aload_n 3, 1) := by decide +kernel
theorem dL_law_1969 : decode cL_law 1969 = .ok (.iconst 0, 1) := by decide +kernel
theorem dL_law_1970 : decode cL_law 1970 = .ok (.laload, 1) := by decide +kernel
theorem dL_law_1971 : decode cL_law 1971 = .ok (.iload 7, 2) := by decide +kernel
theorem dL_law_1973 : decode cL_law 1973 = .ok (.i2l, 1) := by decide +kernel
theorem dL_law_1974 : decode cL_law 1974 = .ok (.lcmp, 1) := by decide +kernel
theorem dL_law_1975 : decode cL_law 1975 = .ok (.ifCond .eq 5, 3) := by decide +kernel
theorem dL_law_1978 : decode cL_law 1978 = .ok (.iconst 0, 1) := by decide +kernel
theorem dL_law_1979 : decode cL_law 1979 = .ok (.ireturn, 1) := by decide +kernel
theorem dL_law_1980 : decode cL_law 1980 = .ok (.goto 443, 3) := by decide +kernel
theorem dL_law_1983 : decode cL_law 1983 = .ok (.aload_n 1, 1) := by decide +kernel
theorem dL_law_1984 : decode cL_law 1984 = .ok (.aload_n 0, 1) := by decide +kernel
theorem dL_law_1985 : decode cL_law 1985 = .ok (.iload 5, 2) := by decide +kernel
theorem dL_law_1987 : decode cL_law 1987 = .ok (.iconst 1, 1) := by decide +kernel
theorem dL_law_1988 : decode cL_law 1988 = .ok (.iadd, 1) := by decide +kernel
theorem dL_law_1989 : decode cL_law 1989 = .ok (.iaload, 1) := by decide +kernel
theorem dL_law_1990 : decode cL_law 1990 = .ok (.aload_n 3, 1) := by decide +kernel
theorem dL_law_1991 : decode cL_law 1991 = .ok (.invokestatic 249, 3) := by decide +kernel
theorem dL_law_1994 : decode cL_law 1994 = .ok (.istore 6, 2) := by decide +kernel
theorem dL_law_1996 : decode cL_law 1996 = .ok (.aload_n 2, 1) := by decide +kernel
theorem dL_law_1997 : decode cL_law 1997 = .ok (.aload_n 0, 1) := by decide +kernel
theorem dL_law_1998 : decode cL_law 1998 = .ok (.iload 5, 2) := by decide +kernel
theorem dL_law_2000 : decode cL_law 2000 = .ok (.iconst 1, 1) := by decide +kernel
theorem dL_law_2001 : decode cL_law 2001 = .ok (.iadd, 1) := by decide +kernel
theorem dL_law_2002 : decode cL_law 2002 = .ok (.iaload, 1) := by decide +kernel
theorem dL_law_2003 : decode cL_law 2003 = .ok (.invokevirtual 251, 3) := by decide +kernel
theorem dL_law_2006 : decode cL_law 2006 = .ok (.istore 7, 2) := by decide +kernel
theorem dL_law_2008 : decode cL_law 2008 = .ok (.aload_n 2, 1) := by decide +kernel
theorem dL_law_2009 : decode cL_law 2009 = .ok (.invokevirtual 134, 3) := by decide +kernel
theorem dL_law_2012 : decode cL_law 2012 = .ok (.iload 6, 2) := by decide +kernel
theorem dL_law_2014 : decode cL_law 2014 = .ok (.if_icmp .eq 5, 3) := by decide +kernel
theorem dL_law_2017 : decode cL_law 2017 = .ok (.iconst 0, 1) := by decide +kernel
theorem dL_law_2018 : decode cL_law 2018 = .ok (.ireturn, 1) := by decide +kernel
theorem dL_law_2019 : decode cL_law 2019 = .ok (.iload 6, 2) := by decide +kernel
theorem dL_law_2021 : decode cL_law 2021 = .ok (.ifCond .ne 15, 3) := by decide +kernel
theorem dL_law_2024 : decode cL_law 2024 = .ok (.aload_n 3, 1) := by decide +kernel
theorem dL_law_2025 : decode cL_law 2025 = .ok (.iconst 0, 1) := by decide +kernel
theorem dL_law_2026 : decode cL_law 2026 = .ok (.laload, 1) := by decide +kernel
theorem dL_law_2027 : decode cL_law 2027 = .ok (.iload 7, 2) := by decide +kernel
theorem dL_law_2029 : decode cL_law 2029 = .ok (.i2l, 1) := by decide +kernel
theorem dL_law_2030 : decode cL_law 2030 = .ok (.lcmp, 1) := by decide +kernel
theorem dL_law_2031 : decode cL_law 2031 = .ok (.ifCond .eq 5, 3) := by decide +kernel
theorem dL_law_2034 : decode cL_law 2034 = .ok (.iconst 0, 1) := by decide +kernel
theorem dL_law_2035 : decode cL_law 2035 = .ok (.ireturn, 1) := by decide +kernel
theorem dL_law_2036 : decode cL_law 2036 = .ok (.goto 387, 3) := by decide +kernel
theorem dL_law_2039 : decode cL_law 2039 = .ok (.aload_n 1, 1) := by decide +kernel
theorem dL_law_2040 : decode cL_law 2040 = .ok (.aload_n 0, 1) := by decide +kernel
theorem dL_law_2041 : decode cL_law 2041 = .ok (.iload 5, 2) := by decide +kernel
theorem dL_law_2043 : decode cL_law 2043 = .ok (.iconst 1, 1) := by decide +kernel
theorem dL_law_2044 : decode cL_law 2044 = .ok (.iadd, 1) := by decide +kernel
theorem dL_law_2045 : decode cL_law 2045 = .ok (.iaload, 1) := by decide +kernel
theorem dL_law_2046 : decode cL_law 2046 = .ok (.aload_n 3, 1) := by decide +kernel
theorem dL_law_2047 : decode cL_law 2047 = .ok (.invokestatic 252, 3) := by decide +kernel
theorem dL_law_2050 : decode cL_law 2050 = .ok (.istore 6, 2) := by decide +kernel
theorem dL_law_2052 : decode cL_law 2052 = .ok (.aload_n 2, 1) := by decide +kernel
theorem dL_law_2053 : decode cL_law 2053 = .ok (.aload_n 0, 1) := by decide +kernel
theorem dL_law_2054 : decode cL_law 2054 = .ok (.iload 5, 2) := by decide +kernel
theorem dL_law_2056 : decode cL_law 2056 = .ok (.iconst 1, 1) := by decide +kernel
theorem dL_law_2057 : decode cL_law 2057 = .ok (.iadd, 1) := by decide +kernel
theorem dL_law_2058 : decode cL_law 2058 = .ok (.iaload, 1) := by decide +kernel
theorem dL_law_2059 : decode cL_law 2059 = .ok (.invokevirtual 254, 3) := by decide +kernel
theorem dL_law_2062 : decode cL_law 2062 = .ok (.istore 7, 2) := by decide +kernel
theorem dL_law_2064 : decode cL_law 2064 = .ok (.aload_n 2, 1) := by decide +kernel
theorem dL_law_2065 : decode cL_law 2065 = .ok (.invokevirtual 134, 3) := by decide +kernel
theorem dL_law_2068 : decode cL_law 2068 = .ok (.iload 6, 2) := by decide +kernel
theorem dL_law_2070 : decode cL_law 2070 = .ok (.if_icmp .eq 5, 3) := by decide +kernel
theorem dL_law_2073 : decode cL_law 2073 = .ok (.iconst 0, 1) := by decide +kernel
theorem dL_law_2074 : decode cL_law 2074 = .ok (.ireturn, 1) := by decide +kernel
theorem dL_law_2075 : decode cL_law 2075 = .ok (.iload 6, 2) := by decide +kernel
theorem dL_law_2077 : decode cL_law 2077 = .ok (.ifCond .ne 15, 3) := by decide +kernel
theorem dL_law_2080 : decode cL_law 2080 = .ok (.aload_n 3, 1) := by decide +kernel
theorem dL_law_2081 : decode cL_law 2081 = .ok (.iconst 0, 1) := by decide +kernel
theorem dL_law_2082 : decode cL_law 2082 = .ok (.laload, 1) := by decide +kernel
theorem dL_law_2083 : decode cL_law 2083 = .ok (.iload 7, 2) := by decide +kernel
theorem dL_law_2085 : decode cL_law 2085 = .ok (.i2l, 1) := by decide +kernel
theorem dL_law_2086 : decode cL_law 2086 = .ok (.lcmp, 1) := by decide +kernel
theorem dL_law_2087 : decode cL_law 2087 = .ok (.ifCond .eq 5, 3) := by decide +kernel
theorem dL_law_2090 : decode cL_law 2090 = .ok (.iconst 0, 1) := by decide +kernel
theorem dL_law_2091 : decode cL_law 2091 = .ok (.ireturn, 1) := by decide +kernel
theorem dL_law_2092 : decode cL_law 2092 = .ok (.goto 331, 3) := by decide +kernel
theorem dL_law_2095 : decode cL_law 2095 = .ok (.aload_n 1, 1) := by decide +kernel
theorem dL_law_2096 : decode cL_law 2096 = .ok (.invokevirtual 255, 3) := by decide +kernel
theorem dL_law_2099 : decode cL_law 2099 = .ok (.aload_n 2, 1) := by decide +kernel
theorem dL_law_2100 : decode cL_law 2100 = .ok (.invokevirtual 259, 3) := by decide +kernel
theorem dL_law_2103 : decode cL_law 2103 = .ok (.lcmp, 1) := by decide +kernel
theorem dL_law_2104 : decode cL_law 2104 = .ok (.ifCond .eq 319, 3) := by decide +kernel
theorem dL_law_2107 : decode cL_law 2107 = .ok (.iconst 0, 1) := by decide +kernel
theorem dL_law_2108 : decode cL_law 2108 = .ok (.ireturn, 1) := by decide +kernel
theorem dL_law_2109 : decode cL_law 2109 = .ok (.aload_n 1, 1) := by decide +kernel
theorem dL_law_2110 : decode cL_law 2110 = .ok (.aload 4, 2) := by decide +kernel
theorem dL_law_2112 : decode cL_law 2112 = .ok (.invokestatic 260, 3) := by decide +kernel
theorem dL_law_2115 : decode cL_law 2115 = .ok (.istore 6, 2) := by decide +kernel
theorem dL_law_2117 : decode cL_law 2117 = .ok (.aload_n 2, 1) := by decide +kernel
theorem dL_law_2118 : decode cL_law 2118 = .ok (.invokevirtual 263, 3) := by decide +kernel
theorem dL_law_2121 : decode cL_law 2121 = .ok (.dstore 7, 2) := by decide +kernel
theorem dL_law_2123 : decode cL_law 2123 = .ok (.aload_n 2, 1) := by decide +kernel
theorem dL_law_2124 : decode cL_law 2124 = .ok (.invokevirtual 134, 3) := by decide +kernel
theorem dL_law_2127 : decode cL_law 2127 = .ok (.iload 6, 2) := by decide +kernel
theorem dL_law_2129 : decode cL_law 2129 = .ok (.if_icmp .eq 5, 3) := by decide +kernel
theorem dL_law_2132 : decode cL_law 2132 = .ok (.iconst 0, 1) := by decide +kernel
theorem dL_law_2133 : decode cL_law 2133 = .ok (.ireturn, 1) := by decide +kernel
theorem dL_law_2134 : decode cL_law 2134 = .ok (.iload 6, 2) := by decide +kernel
theorem dL_law_2136 : decode cL_law 2136 = .ok (.ifCond .ne 35, 3) := by decide +kernel
theorem dL_law_2139 : decode cL_law 2139 = .ok (.aload 4, 2) := by decide +kernel
theorem dL_law_2141 : decode cL_law 2141 = .ok (.iconst 0, 1) := by decide +kernel
theorem dL_law_2142 : decode cL_law 2142 = .ok (.daload, 1) := by decide +kernel
theorem dL_law_2143 : decode cL_law 2143 = .ok (.dload 7, 2) := by decide +kernel
theorem dL_law_2145 : decode cL_law 2145 = .ok (.dcmp .l, 1) := by decide +kernel
theorem dL_law_2146 : decode cL_law 2146 = .ok (.ifCond .eq 25, 3) := by decide +kernel
theorem dL_law_2149 : decode cL_law 2149 = .ok (.aload 4, 2) := by decide +kernel
theorem dL_law_2151 : decode cL_law 2151 = .ok (.iconst 0, 1) := by decide +kernel
theorem dL_law_2152 : decode cL_law 2152 = .ok (.daload, 1) := by decide +kernel
theorem dL_law_2153 : decode cL_law 2153 = .ok (.aload 4, 2) := by decide +kernel
theorem dL_law_2155 : decode cL_law 2155 = .ok (.iconst 0, 1) := by decide +kernel
theorem dL_law_2156 : decode cL_law 2156 = .ok (.daload, 1) := by decide +kernel
theorem dL_law_2157 : decode cL_law 2157 = .ok (.dcmp .l, 1) := by decide +kernel
theorem dL_law_2158 : decode cL_law 2158 = .ok (.ifCond .eq 11, 3) := by decide +kernel
theorem dL_law_2161 : decode cL_law 2161 = .ok (.dload 7, 2) := by decide +kernel
theorem dL_law_2163 : decode cL_law 2163 = .ok (.dload 7, 2) := by decide +kernel
theorem dL_law_2165 : decode cL_law 2165 = .ok (.dcmp .l, 1) := by decide +kernel
theorem dL_law_2166 : decode cL_law 2166 = .ok (.ifCond .ne 5, 3) := by decide +kernel
theorem dL_law_2169 : decode cL_law 2169 = .ok (.iconst 0, 1) := by decide +kernel
theorem dL_law_2170 : decode cL_law 2170 = .ok (.ireturn, 1) := by decide +kernel
theorem dL_law_2171 : decode cL_law 2171 = .ok (.goto 252, 3) := by decide +kernel
theorem dL_law_2174 : decode cL_law 2174 = .ok (.aload_n 1, 1) := by decide +kernel
theorem dL_law_2175 : decode cL_law 2175 = .ok (.invokevirtual 264, 3) := by decide +kernel
theorem dL_law_2178 : decode cL_law 2178 = .ok (.aload_n 2, 1) := by decide +kernel
theorem dL_law_2179 : decode cL_law 2179 = .ok (.invokevirtual 267, 3) := by decide +kernel
theorem dL_law_2182 : decode cL_law 2182 = .ok (.if_icmp .eq 241, 3) := by decide +kernel
theorem dL_law_2185 : decode cL_law 2185 = .ok (.iconst 0, 1) := by decide +kernel
theorem dL_law_2186 : decode cL_law 2186 = .ok (.ireturn, 1) := by decide +kernel
theorem dL_law_2187 : decode cL_law 2187 = .ok (.aload_n 1, 1) := by decide +kernel
theorem dL_law_2188 : decode cL_law 2188 = .ok (.aload_n 0, 1) := by decide +kernel
theorem dL_law_2189 : decode cL_law 2189 = .ok (.iload 5, 2) := by decide +kernel
theorem dL_law_2191 : decode cL_law 2191 = .ok (.iconst 1, 1) := by decide +kernel
theorem dL_law_2192 : decode cL_law 2192 = .ok (.iadd, 1) := by decide +kernel
theorem dL_law_2193 : decode cL_law 2193 = .ok (.iaload, 1) := by decide +kernel
theorem dL_law_2194 : decode cL_law 2194 = .ok (.aload_n 0, 1) := by decide +kernel
theorem dL_law_2195 : decode cL_law 2195 = .ok (.iload 5, 2) := by decide +kernel
theorem dL_law_2197 : decode cL_law 2197 = .ok (.iconst 2, 1) := by decide +kernel
theorem dL_law_2198 : decode cL_law 2198 = .ok (.iadd, 1) := by decide +kernel
theorem dL_law_2199 : decode cL_law 2199 = .ok (.iaload, 1) := by decide +kernel
theorem dL_law_2200 : decode cL_law 2200 = .ok (.aload_n 3, 1) := by decide +kernel
theorem dL_law_2201 : decode cL_law 2201 = .ok (.invokestatic 268, 3) := by decide +kernel
theorem dL_law_2204 : decode cL_law 2204 = .ok (.istore 6, 2) := by decide +kernel
theorem dL_law_2206 : decode cL_law 2206 = .ok (.aload_n 2, 1) := by decide +kernel
theorem dL_law_2207 : decode cL_law 2207 = .ok (.aload_n 0, 1) := by decide +kernel
theorem dL_law_2208 : decode cL_law 2208 = .ok (.iload 5, 2) := by decide +kernel
theorem dL_law_2210 : decode cL_law 2210 = .ok (.iconst 1, 1) := by decide +kernel
theorem dL_law_2211 : decode cL_law 2211 = .ok (.iadd, 1) := by decide +kernel
theorem dL_law_2212 : decode cL_law 2212 = .ok (.iaload, 1) := by decide +kernel
theorem dL_law_2213 : decode cL_law 2213 = .ok (.aload_n 0, 1) := by decide +kernel
theorem dL_law_2214 : decode cL_law 2214 = .ok (.iload 5, 2) := by decide +kernel
theorem dL_law_2216 : decode cL_law 2216 = .ok (.iconst 2, 1) := by decide +kernel
theorem dL_law_2217 : decode cL_law 2217 = .ok (.iadd, 1) := by decide +kernel
theorem dL_law_2218 : decode cL_law 2218 = .ok (.iaload, 1) := by decide +kernel
theorem dL_law_2219 : decode cL_law 2219 = .ok (.invokevirtual 270, 3) := by decide +kernel
theorem dL_law_2222 : decode cL_law 2222 = .ok (.istore 7, 2) := by decide +kernel
theorem dL_law_2224 : decode cL_law 2224 = .ok (.aload_n 2, 1) := by decide +kernel
theorem dL_law_2225 : decode cL_law 2225 = .ok (.invokevirtual 134, 3) := by decide +kernel
theorem dL_law_2228 : decode cL_law 2228 = .ok (.iload 6, 2) := by decide +kernel
theorem dL_law_2230 : decode cL_law 2230 = .ok (.if_icmp .eq 5, 3) := by decide +kernel
theorem dL_law_2233 : decode cL_law 2233 = .ok (.iconst 0, 1) := by decide +kernel
theorem dL_law_2234 : decode cL_law 2234 = .ok (.ireturn, 1) := by decide +kernel
theorem dL_law_2235 : decode cL_law 2235 = .ok (.iload 6, 2) := by decide +kernel
theorem dL_law_2237 : decode cL_law 2237 = .ok (.ifCond .ne 15, 3) := by decide +kernel
theorem dL_law_2240 : decode cL_law 2240 = .ok (.aload_n 3, 1) := by decide +kernel
theorem dL_law_2241 : decode cL_law 2241 = .ok (.iconst 0, 1) := by decide +kernel
theorem dL_law_2242 : decode cL_law 2242 = .ok (.laload, 1) := by decide +kernel
theorem dL_law_2243 : decode cL_law 2243 = .ok (.iload 7, 2) := by decide +kernel
theorem dL_law_2245 : decode cL_law 2245 = .ok (.i2l, 1) := by decide +kernel
theorem dL_law_2246 : decode cL_law 2246 = .ok (.lcmp, 1) := by decide +kernel
theorem dL_law_2247 : decode cL_law 2247 = .ok (.ifCond .eq 5, 3) := by decide +kernel
theorem dL_law_2250 : decode cL_law 2250 = .ok (.iconst 0, 1) := by decide +kernel
theorem dL_law_2251 : decode cL_law 2251 = .ok (.ireturn, 1) := by decide +kernel
theorem dL_law_2252 : decode cL_law 2252 = .ok (.goto 171, 3) := by decide +kernel
theorem dL_law_2255 : decode cL_law 2255 = .ok (.aload_n 1, 1) := by decide +kernel
theorem dL_law_2256 : decode cL_law 2256 = .ok (.aload_n 0, 1) := by decide +kernel
theorem dL_law_2257 : decode cL_law 2257 = .ok (.iload 5, 2) := by decide +kernel
theorem dL_law_2259 : decode cL_law 2259 = .ok (.iconst 1, 1) := by decide +kernel
theorem dL_law_2260 : decode cL_law 2260 = .ok (.iadd, 1) := by decide +kernel
theorem dL_law_2261 : decode cL_law 2261 = .ok (.iaload, 1) := by decide +kernel
theorem dL_law_2262 : decode cL_law 2262 = .ok (.aload_n 3, 1) := by decide +kernel
theorem dL_law_2263 : decode cL_law 2263 = .ok (.invokestatic 271, 3) := by decide +kernel
theorem dL_law_2266 : decode cL_law 2266 = .ok (.istore 6, 2) := by decide +kernel
theorem dL_law_2268 : decode cL_law 2268 = .ok (.aload_n 2, 1) := by decide +kernel
theorem dL_law_2269 : decode cL_law 2269 = .ok (.aload_n 0, 1) := by decide +kernel
theorem dL_law_2270 : decode cL_law 2270 = .ok (.iload 5, 2) := by decide +kernel
theorem dL_law_2272 : decode cL_law 2272 = .ok (.iconst 1, 1) := by decide +kernel
theorem dL_law_2273 : decode cL_law 2273 = .ok (.iadd, 1) := by decide +kernel
theorem dL_law_2274 : decode cL_law 2274 = .ok (.iaload, 1) := by decide +kernel
theorem dL_law_2275 : decode cL_law 2275 = .ok (.invokevirtual 273, 3) := by decide +kernel
theorem dL_law_2278 : decode cL_law 2278 = .ok (.istore 7, 2) := by decide +kernel
theorem dL_law_2280 : decode cL_law 2280 = .ok (.aload_n 2, 1) := by decide +kernel
theorem dL_law_2281 : decode cL_law 2281 = .ok (.invokevirtual 134, 3) := by decide +kernel
theorem dL_law_2284 : decode cL_law 2284 = .ok (.iload 6, 2) := by decide +kernel
theorem dL_law_2286 : decode cL_law 2286 = .ok (.if_icmp .eq 5, 3) := by decide +kernel
theorem dL_law_2289 : decode cL_law 2289 = .ok (.iconst 0, 1) := by decide +kernel
theorem dL_law_2290 : decode cL_law 2290 = .ok (.ireturn, 1) := by decide +kernel
theorem dL_law_2291 : decode cL_law 2291 = .ok (.iload 6, 2) := by decide +kernel
theorem dL_law_2293 : decode cL_law 2293 = .ok (.ifCond .ne 15, 3) := by decide +kernel
theorem dL_law_2296 : decode cL_law 2296 = .ok (.aload_n 3, 1) := by decide +kernel
theorem dL_law_2297 : decode cL_law 2297 = .ok (.iconst 0, 1) := by decide +kernel
theorem dL_law_2298 : decode cL_law 2298 = .ok (.laload, 1) := by decide +kernel
theorem dL_law_2299 : decode cL_law 2299 = .ok (.iload 7, 2) := by decide +kernel
theorem dL_law_2301 : decode cL_law 2301 = .ok (.i2l, 1) := by decide +kernel
theorem dL_law_2302 : decode cL_law 2302 = .ok (.lcmp, 1) := by decide +kernel
theorem dL_law_2303 : decode cL_law 2303 = .ok (.ifCond .eq 5, 3) := by decide +kernel
theorem dL_law_2306 : decode cL_law 2306 = .ok (.iconst 0, 1) := by decide +kernel
theorem dL_law_2307 : decode cL_law 2307 = .ok (.ireturn, 1) := by decide +kernel
theorem dL_law_2308 : decode cL_law 2308 = .ok (.goto 115, 3) := by decide +kernel
theorem dL_law_2311 : decode cL_law 2311 = .ok (.aload_n 1, 1) := by decide +kernel
theorem dL_law_2312 : decode cL_law 2312 = .ok (.aload_n 0, 1) := by decide +kernel
theorem dL_law_2313 : decode cL_law 2313 = .ok (.iload 5, 2) := by decide +kernel
theorem dL_law_2315 : decode cL_law 2315 = .ok (.iconst 1, 1) := by decide +kernel
theorem dL_law_2316 : decode cL_law 2316 = .ok (.iadd, 1) := by decide +kernel
theorem dL_law_2317 : decode cL_law 2317 = .ok (.iaload, 1) := by decide +kernel
theorem dL_law_2318 : decode cL_law 2318 = .ok (.aload_n 3, 1) := by decide +kernel
theorem dL_law_2319 : decode cL_law 2319 = .ok (.invokestatic 274, 3) := by decide +kernel
theorem dL_law_2322 : decode cL_law 2322 = .ok (.istore 6, 2) := by decide +kernel
theorem dL_law_2324 : decode cL_law 2324 = .ok (.aload_n 2, 1) := by decide +kernel
theorem dL_law_2325 : decode cL_law 2325 = .ok (.aload_n 0, 1) := by decide +kernel
theorem dL_law_2326 : decode cL_law 2326 = .ok (.iload 5, 2) := by decide +kernel
theorem dL_law_2328 : decode cL_law 2328 = .ok (.iconst 1, 1) := by decide +kernel
theorem dL_law_2329 : decode cL_law 2329 = .ok (.iadd, 1) := by decide +kernel
theorem dL_law_2330 : decode cL_law 2330 = .ok (.iaload, 1) := by decide +kernel
theorem dL_law_2331 : decode cL_law 2331 = .ok (.invokevirtual 276, 3) := by decide +kernel
theorem dL_law_2334 : decode cL_law 2334 = .ok (.istore 7, 2) := by decide +kernel
theorem dL_law_2336 : decode cL_law 2336 = .ok (.aload_n 2, 1) := by decide +kernel
theorem dL_law_2337 : decode cL_law 2337 = .ok (.invokevirtual 134, 3) := by decide +kernel
theorem dL_law_2340 : decode cL_law 2340 = .ok (.iload 6, 2) := by decide +kernel
theorem dL_law_2342 : decode cL_law 2342 = .ok (.if_icmp .eq 5, 3) := by decide +kernel
theorem dL_law_2345 : decode cL_law 2345 = .ok (.iconst 0, 1) := by decide +kernel
theorem dL_law_2346 : decode cL_law 2346 = .ok (.ireturn, 1) := by decide +kernel
theorem dL_law_2347 : decode cL_law 2347 = .ok (.iload 6, 2) := by decide +kernel
theorem dL_law_2349 : decode cL_law 2349 = .ok (.ifCond .ne 15, 3) := by decide +kernel
theorem dL_law_2352 : decode cL_law 2352 = .ok (.aload_n 3, 1) := by decide +kernel
theorem dL_law_2353 : decode cL_law 2353 = .ok (.iconst 0, 1) := by decide +kernel
theorem dL_law_2354 : decode cL_law 2354 = .ok (.laload, 1) := by decide +kernel
theorem dL_law_2355 : decode cL_law 2355 = .ok (.iload 7, 2) := by decide +kernel
theorem dL_law_2357 : decode cL_law 2357 = .ok (.i2l, 1) := by decide +kernel
theorem dL_law_2358 : decode cL_law 2358 = .ok (.lcmp, 1) := by decide +kernel
theorem dL_law_2359 : decode cL_law 2359 = .ok (.ifCond .eq 5, 3) := by decide +kernel
theorem dL_law_2362 : decode cL_law 2362 = .ok (.iconst 0, 1) := by decide +kernel
theorem dL_law_2363 : decode cL_law 2363 = .ok (.ireturn, 1) := by decide +kernel
theorem dL_law_2364 : decode cL_law 2364 = .ok (.goto 59, 3) := by decide +kernel
theorem dL_law_2367 : decode cL_law 2367 = .ok (.aload_n 1, 1) := by decide +kernel
theorem dL_law_2368 : decode cL_law 2368 = .ok (.aload_n 0, 1) := by decide +kernel
theorem dL_law_2369 : decode cL_law 2369 = .ok (.iload 5, 2) := by decide +kernel
theorem dL_law_2371 : decode cL_law 2371 = .ok (.iconst 1, 1) := by decide +kernel
theorem dL_law_2372 : decode cL_law 2372 = .ok (.iadd, 1) := by decide +kernel
theorem dL_law_2373 : decode cL_law 2373 = .ok (.iaload, 1) := by decide +kernel
theorem dL_law_2374 : decode cL_law 2374 = .ok (.aload_n 3, 1) := by decide +kernel
theorem dL_law_2375 : decode cL_law 2375 = .ok (.invokestatic 277, 3) := by decide +kernel
theorem dL_law_2378 : decode cL_law 2378 = .ok (.istore 6, 2) := by decide +kernel
theorem dL_law_2380 : decode cL_law 2380 = .ok (.aload_n 2, 1) := by decide +kernel
theorem dL_law_2381 : decode cL_law 2381 = .ok (.aload_n 0, 1) := by decide +kernel
theorem dL_law_2382 : decode cL_law 2382 = .ok (.iload 5, 2) := by decide +kernel
theorem dL_law_2384 : decode cL_law 2384 = .ok (.iconst 1, 1) := by decide +kernel
theorem dL_law_2385 : decode cL_law 2385 = .ok (.iadd, 1) := by decide +kernel
theorem dL_law_2386 : decode cL_law 2386 = .ok (.iaload, 1) := by decide +kernel
theorem dL_law_2387 : decode cL_law 2387 = .ok (.invokevirtual 279, 3) := by decide +kernel
theorem dL_law_2390 : decode cL_law 2390 = .ok (.istore 7, 2) := by decide +kernel
theorem dL_law_2392 : decode cL_law 2392 = .ok (.aload_n 2, 1) := by decide +kernel
theorem dL_law_2393 : decode cL_law 2393 = .ok (.invokevirtual 134, 3) := by decide +kernel
theorem dL_law_2396 : decode cL_law 2396 = .ok (.iload 6, 2) := by decide +kernel
theorem dL_law_2398 : decode cL_law 2398 = .ok (.if_icmp .eq 5, 3) := by decide +kernel
theorem dL_law_2401 : decode cL_law 2401 = .ok (.iconst 0, 1) := by decide +kernel
theorem dL_law_2402 : decode cL_law 2402 = .ok (.ireturn, 1) := by decide +kernel
theorem dL_law_2403 : decode cL_law 2403 = .ok (.iload 6, 2) := by decide +kernel
theorem dL_law_2405 : decode cL_law 2405 = .ok (.ifCond .ne 15, 3) := by decide +kernel
theorem dL_law_2408 : decode cL_law 2408 = .ok (.aload_n 3, 1) := by decide +kernel
theorem dL_law_2409 : decode cL_law 2409 = .ok (.iconst 0, 1) := by decide +kernel
theorem dL_law_2410 : decode cL_law 2410 = .ok (.laload, 1) := by decide +kernel
theorem dL_law_2411 : decode cL_law 2411 = .ok (.iload 7, 2) := by decide +kernel
theorem dL_law_2413 : decode cL_law 2413 = .ok (.i2l, 1) := by decide +kernel
theorem dL_law_2414 : decode cL_law 2414 = .ok (.lcmp, 1) := by decide +kernel
theorem dL_law_2415 : decode cL_law 2415 = .ok (.ifCond .eq 5, 3) := by decide +kernel
theorem dL_law_2418 : decode cL_law 2418 = .ok (.iconst 0, 1) := by decide +kernel
theorem dL_law_2419 : decode cL_law 2419 = .ok (.ireturn, 1) := by decide +kernel
theorem dL_law_2420 : decode cL_law 2420 = .ok (.goto 3, 3) := by decide +kernel
theorem dL_law_2423 : decode cL_law 2423 = .ok (.iinc 5 6, 3) := by decide +kernel
theorem dL_law_2426 : decode cL_law 2426 = .ok (.goto (-2398), 3) := by decide +kernel
theorem dL_law_2429 : decode cL_law 2429 = .ok (.iconst 1, 1) := by decide +kernel
theorem dL_law_2430 : decode cL_law 2430 = .ok (.ireturn, 1) := by decide +kernel
end
section
/-! THE BASE: words, what holds at every method's entry, the world by names, the walk's judgement, contracts. -/
-- words: all that the tables say and that stays true
def WALL : List Cond := lw_tbl.filter goodWord
theorem wl {w : Cond} (n : Nat) (h : lw_tbl[n]? = some w) (g : goodWord w = true) : w ∈ WALL := List.mem_filter.mpr ⟨List.mem_of_getElem? h, g⟩
theorem wl_in {w : Cond} (h : w ∈ WALL) : w ∈ lw_tbl := (List.mem_filter.mp h).1
theorem wl_good {w : Cond} (h : w ∈ WALL) : (w.onTables && w.keeps) = true ∨ ∃ ty, w = .arrayClass ty := good_of_word (List.mem_filter.mp h).2
theorem gi_wall {ws : List Cond} (h : ∀ w ∈ ws, w ∈ WALL) : GoodIn WALL ws := fun w hw => ⟨h w hw, wl_good (h w hw)⟩
theorem gi_cons {w : Cond} (h : w ∈ WALL) : ∀ v ∈ w :: WALL, v ∈ WALL := fun v hv => (List.mem_cons.mp hv).elim (fun e => e ▸ h) id
-- the world's parameters: class numbers and slots; array classes; the first address that is ours; what statics refer to
abbrev Zx : Type := (va_G × (Nat → ClassId)) × Nat × (Nat → Nat)
abbrev Nm : Type := Nat → Nat → Nat
abbrev Ce : Type := Nat → Nat → Option va_E
def zA (z : Zx) : Nat → Prop := fun q => z.2.1 ≤ q
abbrev tysZ (z : Zx) : List (ClassId × FieldType) := [(z.1.2 0, .int), (z.1.2 1, .boolean), (z.1.2 2, .byte), (z.1.2 3, .long), (z.1.2 4, .double), (z.1.2 5, .char), (z.1.2 6, .object "java/lang/Object")]
abbrev aI (z : Zx) (n : Nat) (f : Nat → Int32) : va_E := .inl (z.1.2 0, n, .inl f)
abbrev aZ (z : Zx) (n : Nat) (f : Nat → Int32) : va_E := .inl (z.1.2 1, n, .inl f)
abbrev aB (z : Zx) (n : Nat) (f : Nat → Int32) : va_E := .inl (z.1.2 2, n, .inl f)
abbrev aJ (z : Zx) (n : Nat) (f : Nat → Int64) : va_E := .inl (z.1.2 3, n, .inr (.inl f))
abbrev aD (z : Zx) (n : Nat) (f : Nat → UInt64) : va_E := .inl (z.1.2 4, n, .inr (.inr (.inr (.inl f))))
abbrev aC (z : Zx) (n : Nat) (f : Nat → Int32) : va_E := .inl (z.1.2 5, n, .inl f)
abbrev aO (z : Zx) (n : Nat) (f : Nat → Option Nat) : va_E := .inl (z.1.2 6, n, .inr (.inr (.inr (.inr f))))
-- String constants of the class; pairs of exceptions that no handler mistakes
def strsZ : List (Nat × String) := [(49, "no such basin below"), (56, "area, depth or width out of range"), (300, "height out of range"), (65, "no more basins"), (304, "an hour has passed"), (308, "no such basin"), (94, "no more cells in this street"), (302, "opening out of range"), (111, "level out of range"), (113, "no more rules"), (310, "no such rule"), (138, "rain out of range"), (143, "hours out of range"), (149, "no basin"), (154, "the clock would go too far"), (312, "no such cell"), (306, "hour out of range"), (206, "rate or cover out of range"), (208, "no more houses"), (314, "no such house"), (228, "not wet at the end of this hour"), (235, "this hour has been claimed"), (245, "no hour to claim"), (256, "no claims"), (294, "no such character")]
def ncsZ : List (String × String) := [("java/lang/IllegalArgumentException", "java/lang/IndexOutOfBoundsException"), ("java/lang/IllegalStateException", "java/lang/IndexOutOfBoundsException"), ("java/lang/IllegalStateException", "java/lang/IllegalArgumentException"), ("java/lang/UnsupportedOperationException", "java/lang/IndexOutOfBoundsException"), ("java/lang/UnsupportedOperationException", "java/lang/IllegalArgumentException"), ("java/lang/IllegalStateException", "java/lang/UnsupportedOperationException"), ("java/util/NoSuchElementException", "java/lang/IndexOutOfBoundsException")]
-- a digit's byte, of Integer's two tables
def dgO (j : Nat) : Int32 := nI (48 + j % 10)
def dgT (j : Nat) : Int32 := nI (48 + j / 10)
/-- what holds at the entry of every method -/
def Ev (z : Zx) (U : State) : Prop :=
  va_K z.1.1 vwCl (tysZ z) U ∧
  (vx_Zq Bundle.tN "UNASSIGNED_STACK" Bundle.steD (zA z) U U.heap ∧ vx_Zq Bundle.tN "SUPPRESSED_SENTINEL" Bundle.listD (zA z) U U.heap) ∧
  ((∀ q ∈ strsZ, ∃ a, vk_R RX5 q.1 q.2 a U) ∧ (∀ q ∈ ncsZ, va_Nc q.1 q.2 U)) ∧
  (va_Z "java/util/ArrayList" "DEFAULTCAPACITY_EMPTY_ELEMENTDATA" "[Ljava/lang/Object;" (.ref (z.2.2 0)) (zA z) U U.heap ∧ va_T (.object "java/lang/Object") (z.2.2 0) 0 (fun _ => .null) (zA z) U U.heap) ∧
  (va_Z "java/lang/Integer" "DigitOnes" "[B" (.ref (z.2.2 1)) (zA z) U U.heap ∧ va_T .byte (z.2.2 1) 100 (fun j => .int (dgO j)) (zA z) U U.heap) ∧
  (va_Z "java/lang/Integer" "DigitTens" "[B" (.ref (z.2.2 2)) (zA z) U U.heap ∧ va_T .byte (z.2.2 2) 100 (fun j => .int (dgT j)) (zA z) U U.heap) ∧
  va_Z "java/lang/String" "COMPACT_STRINGS" "Z" (.int 1) (zA z) U U.heap ∧
  va_Zq "jdk/internal/util/Preconditions" "SIOOBE_FORMATTER" "Ljava/util/function/BiFunction;" (zA z) U U.heap ∧
  (va_Mi "[Ljava/lang/Object;" (z.2.2 3) U ∧ va_Dc U ∧ va_AO "java/lang/Object" U) ∧
  z.2.1 ≤ U.heap.size
theorem Ev.at {z : Zx} {s U : State} {H : Heap} {locs : List Loc} (h : Ev z s) (hS : va_S (zA z) s.heap H locs) (hH : U.heap = H) (hW : s.WarmedH U.vm) : Ev z U := by
  obtain ⟨h1, ⟨h2, h3⟩, ⟨h4, h4'⟩, ⟨h5, h6⟩, ⟨h7, h8⟩, ⟨h9, h10⟩, h11, h12, ⟨h13, h14, h16⟩, h15⟩ := h
  have hk : ∀ a : Nat, a < s.heap.size → ¬ zA z a → U.heap[a]? = s.heap[a]? := by rw [hH]; exact hS.2.1
  have hvm := hW.alike
  exact ⟨va_K.moved hvm h1, ⟨vx_Zq.moved hvm (h2.kept hk), vx_Zq.moved hvm (h3.kept hk)⟩, ⟨fun q hq => (h4 q hq).imp fun a ha => vk_R.warm hW ha, fun q hq => va_Nc.moved hvm (h4' q hq)⟩,
    ⟨va_Z.moved hvm (h5.kept hk), va_T.moved hvm (h6.kept hk)⟩, ⟨va_Z.moved hvm (h7.kept hk), va_T.moved hvm (h8.kept hk)⟩, ⟨va_Z.moved hvm (h9.kept hk), va_T.moved hvm (h10.kept hk)⟩,
    va_Z.moved hvm (h11.kept hk), va_Zq.moved hvm (h12.kept hk), ⟨va_Mi.moved hvm h13, va_Dc.moved hvm h14, va_AO.moved hvm h16⟩, Nat.le_trans h15 (by rw [hH]; exact hS.1)⟩
theorem Ev.calling {z : Zx} {U : State} {g : JFrame} {mk : MethodId} {a : Array Value} (h : Ev z U) : Ev z (U.calling g mk a) :=
  h.at (H := U.heap) (locs := []) va_S.rf rfl (State.WarmedH.refl U)
-- the world: cells by name
def up2 (μ : Ce) (k i : Nat) (e : va_E) : Ce := fun k' i' => if k' = k ∧ i' = i then some e else μ k' i'
def nmu (ad : Nm) (k i q : Nat) : Nm := fun k' i' => if k' = k ∧ i' = i then q else ad k' i'
theorem up2_s {μ : Ce} {k i : Nat} {e : va_E} : up2 μ k i e k i = some e := if_pos ⟨rfl, rfl⟩
theorem up2_n {μ : Ce} {k i k' i' : Nat} {e : va_E} (h : ¬ (k' = k ∧ i' = i)) : up2 μ k i e k' i' = μ k' i' := if_neg h
theorem nmu_s {ad : Nm} {k i q : Nat} : nmu ad k i q k i = q := if_pos ⟨rfl, rfl⟩
theorem nmu_n {ad : Nm} {k i k' i' q : Nat} (h : ¬ (k' = k ∧ i' = i)) : nmu ad k i q k' i' = ad k' i' := if_neg h
def Hv (z : Zx) (ad : Nm) (μ : Ce) (H : Heap) : Prop :=
  (∀ k i e, μ k i = some e → va_at z.1.1 vwCl (ad k i, e) H ∧ z.2.1 ≤ ad k i) ∧ (∀ k i k' i', μ k i ≠ none → μ k' i' ≠ none → ad k i = ad k' i' → k = k' ∧ i = i')
theorem Hv.one {z : Zx} {ad : Nm} {μ : Ce} {H : Heap} (h : Hv z ad μ H) {k i : Nat} {e : va_E} (hk : μ k i = some e) : va_P z.1.1 vwCl [(ad k i, e)] H := by
  intro n q hq
  match n, hq with
  | 0, hq => cases hq; exact (h.1 k i e hk).1
  | n + 1, hq => simp at hq
theorem Hv.two {z : Zx} {ad : Nm} {μ : Ce} {H : Heap} (h : Hv z ad μ H) {k i k2 i2 : Nat} {e e2 : va_E} (hk : μ k i = some e) (hk2 : μ k2 i2 = some e2) : va_P z.1.1 vwCl [(ad k i, e), (ad k2 i2, e2)] H := by
  intro n q hq
  match n, hq with
  | 0, hq => cases hq; exact (h.1 k i e hk).1
  | 1, hq => cases hq; exact (h.1 k2 i2 e2 hk2).1
  | n + 2, hq => simp at hq
theorem Hv.set {z : Zx} {ad : Nm} {μ : Ce} {H H1 : Heap} (h : Hv z ad μ H) {k i : Nat} {e e' : va_E} (hk : μ k i = some e) (h1 : va_at z.1.1 vwCl (ad k i, e') H1) (oq : ∀ q : Nat, q ≠ ad k i → H1[q]? = H[q]?) : Hv z ad (up2 μ k i e') H1 := by
  have hn : ∀ k' i', up2 μ k i e' k' i' ≠ none → μ k' i' ≠ none := by
    intro k' i' hh
    by_cases c : k' = k ∧ i' = i
    · rw [c.1, c.2, hk]; exact fun q => by cases q
    · rwa [up2_n c] at hh
  refine ⟨fun k' i' x hx => ?_, fun a b c d ha hc => h.2 a b c d (hn a b ha) (hn c d hc)⟩
  by_cases c : k' = k ∧ i' = i
  · obtain ⟨rfl, rfl⟩ := c
    rw [up2_s] at hx
    cases hx
    exact ⟨h1, (h.1 _ _ _ hk).2⟩
  · rw [up2_n c] at hx
    refine ⟨(h.1 k' i' x hx).1.kept (oq _ fun e1 => c (h.2 k' i' k i (by rw [hx]; exact fun q => by cases q) (by rw [hk]; exact fun q => by cases q) e1)), (h.1 k' i' x hx).2⟩
theorem Hv.lt {z : Zx} {ad : Nm} {μ : Ce} {H : Heap} (h : Hv z ad μ H) {k i : Nat} {e : va_E} (hk : μ k i = some e) : ad k i < H.size := (h.1 k i e hk).1.lt
theorem Hv.new {z : Zx} {ad : Nm} {μ : Ce} {H H1 : Heap} (h : Hv z ad μ H) {k i q : Nat} {e : va_E} (hk : μ k i = none) (hq : H.size ≤ q) (hz : z.2.1 ≤ q) (h1 : va_at z.1.1 vwCl (q, e) H1) (oq : ∀ a : Nat, a < H.size → H1[a]? = H[a]?) : Hv z (nmu ad k i q) (up2 μ k i e) H1 := by
  refine ⟨fun k' i' x hx => ?_, fun a b c d ha hc hac => ?_⟩
  · by_cases c : k' = k ∧ i' = i
    · obtain ⟨rfl, rfl⟩ := c
      rw [up2_s] at hx
      cases hx
      rw [nmu_s]
      exact ⟨h1, hz⟩
    · rw [up2_n c] at hx
      rw [nmu_n c]
      exact ⟨(h.1 k' i' x hx).1.kept (oq _ (h.lt hx)), (h.1 k' i' x hx).2⟩
  · by_cases c1 : a = k ∧ b = i <;> by_cases c2 : c = k ∧ d = i
    · exact ⟨c1.1.trans c2.1.symm, c1.2.trans c2.2.symm⟩
    · obtain ⟨rfl, rfl⟩ := c1
      rw [nmu_s, nmu_n c2] at hac
      rw [up2_n c2] at hc
      obtain ⟨x, hx⟩ := Option.ne_none_iff_exists'.mp hc
      have := h.lt hx
      omega
    · obtain ⟨rfl, rfl⟩ := c2
      rw [nmu_s, nmu_n c1] at hac
      rw [up2_n c1] at ha
      obtain ⟨x, hx⟩ := Option.ne_none_iff_exists'.mp ha
      have := h.lt hx
      omega
    · rw [nmu_n c1, nmu_n c2] at hac
      rw [up2_n c1] at ha
      rw [up2_n c2] at hc
      exact h.2 a b c d ha hc hac
/-- fewer or other names for the same cells -/
theorem Hv.re {z : Zx} {ad ad' : Nm} {μ μ' : Ce} {H : Heap} (h : Hv z ad μ H) (hh : ∀ k i e, μ' k i = some e → ∃ k' i', μ k' i' = some e ∧ ad k' i' = ad' k i) (hi : ∀ k i k' i', μ' k i ≠ none → μ' k' i' ≠ none → ad' k i = ad' k' i' → k = k' ∧ i = i') : Hv z ad' μ' H := by
  refine ⟨fun k i e he => ?_, hi⟩
  obtain ⟨k', i', h1, h2⟩ := hh k i e he
  rw [← h2]
  exact h.1 k' i' e h1
theorem Hv.eqm {z : Zx} {ad : Nm} {μ μ' : Ce} {H : Heap} (h : Hv z ad μ H) (e : μ = μ') : Hv z ad μ' H := e ▸ h
/-- the named cells as one list (each address once) -/
theorem Hv.list {z : Zx} {ad : Nm} {μ : Ce} {H : Heap} (h : Hv z ad μ H) : ∃ ws : va_W, va_P z.1.1 vwCl ws H ∧ va_D (zA z) ws ∧ (∀ k i e, μ k i = some e → ∃ n : Nat, ws[n]? = some (ad k i, e)) ∧ ∀ q ∈ ws, ∃ k i, μ k i = some q.2 ∧ ad k i = q.1 := by
  have hF : ∀ q : Nat, ∃ x : Option (Nat × va_E), (∀ y, x = some y → y.1 = q ∧ ∃ k i, μ k i = some y.2 ∧ ad k i = q) ∧ (x = none → ∀ k i e, μ k i = some e → ad k i ≠ q) := by
    intro q
    rcases Classical.em (∃ k i e, μ k i = some e ∧ ad k i = q) with ⟨k, i, e, h1, h2⟩ | hn
    · exact ⟨some (q, e), (fun y hy => by cases hy; exact ⟨rfl, k, i, h1, h2⟩), fun hx => by cases hx⟩
    · exact ⟨none, (fun y hy => by cases hy), fun _ k i e h1 h2 => hn ⟨k, i, e, h1, h2⟩⟩
  obtain ⟨F, hF⟩ := Classical.axiomOfChoice hF
  have hm : ∀ y, y ∈ (List.range H.size).filterMap F → F y.1 = some y ∧ ∃ k i, μ k i = some y.2 ∧ ad k i = y.1 := by
    intro y hy
    obtain ⟨q, -, hq⟩ := List.mem_filterMap.mp hy
    obtain ⟨e1, k, i, h1, h2⟩ := (hF q).1 y hq
    subst e1
    exact ⟨hq, k, i, h1, h2⟩
  have hnd : ∀ (l : List Nat), l.Nodup → ((l.filterMap F).map Prod.fst).Nodup := by
    intro l
    induction l with
    | nil => intro _; exact List.nodup_nil
    | cons a t ih =>
      intro hl
      obtain ⟨h1, h2⟩ := List.nodup_cons.mp hl
      cases ha : F a with
      | none => rw [List.filterMap_cons_none ha]; exact ih h2
      | some y =>
        rw [List.filterMap_cons_some ha, List.map_cons]
        refine List.nodup_cons.mpr ⟨fun hy => ?_, ih h2⟩
        obtain ⟨w, hw, e1⟩ := List.mem_map.mp hy
        obtain ⟨b, hb, hwb⟩ := List.mem_filterMap.mp hw
        have e2 := ((hF b).1 w hwb).1
        have e3 := ((hF a).1 y ha).1
        exact h1 (by rw [← e3, ← e1, e2]; exact hb)
  refine ⟨(List.range H.size).filterMap F, fun n q hq => ?_, ⟨fun i j p q hp hq hpq => ?_, fun n q hq => ?_⟩, fun k i e he => ?_, fun q hq => (hm q hq).2⟩
  · obtain ⟨-, k, i, h1, h2⟩ := hm q (List.mem_of_getElem? hq)
    have := (h.1 k i _ h1).1
    rw [h2] at this
    exact this
  · have hN := hnd (List.range H.size) List.nodup_range
    have g1 : (((List.range H.size).filterMap F).map Prod.fst)[i]? = some p.1 := by rw [List.getElem?_map, hp]; rfl
    have g2 : (((List.range H.size).filterMap F).map Prod.fst)[j]? = some p.1 := by rw [List.getElem?_map, hq, hpq]; rfl
    have l1 := (List.getElem?_eq_some_iff.mp g1).1
    exact (List.getElem?_inj l1 hN).mp (g1.trans g2.symm)
  · obtain ⟨-, k, i, h1, h2⟩ := hm q (List.mem_of_getElem? hq)
    have := (h.1 k i _ h1).2
    rw [h2] at this
    exact this
  · have hlt := h.lt he
    cases hx : F (ad k i) with
    | none => exact absurd rfl ((hF (ad k i)).2 hx k i e he)
    | some y =>
      obtain ⟨e1, k', i', h1, h2⟩ := (hF (ad k i)).1 y hx
      obtain ⟨rfl, rfl⟩ := h.2 k' i' k i (by rw [h1]; exact fun q => by cases q) (by rw [he]; exact fun q => by cases q) h2
      rw [he] at h1
      have e2 : y = (ad k' i', e) := Prod.ext e1 (Option.some.inj h1).symm
      subst e2
      exact List.getElem?_of_mem (List.mem_filterMap.mpr ⟨ad k' i', List.mem_range.mpr hlt, hx⟩)
theorem Hv.back {z : Zx} {ad : Nm} {μ : Ce} {H H1 : Heap} {ws : va_W} {n k i : Nat} {e e' : va_E} (h : Hv z ad μ H) (hc : ∀ k i e, μ k i = some e → ∃ n : Nat, ws[n]? = some (ad k i, e)) (hk : μ k i = some e) (hn : ws[n]? = some (ad k i, e)) (hP : va_P z.1.1 vwCl (ws.set n (ad k i, e')) H1) : Hv z ad (up2 μ k i e') H1 := by
  have hl := (List.getElem?_eq_some_iff.mp hn).1
  have hz : ∀ k' i', up2 μ k i e' k' i' ≠ none → μ k' i' ≠ none := by
    intro k' i' hh
    by_cases c : k' = k ∧ i' = i
    · rw [c.1, c.2, hk]; exact fun q => by cases q
    · rwa [up2_n c] at hh
  refine ⟨fun k' i' x hx => ?_, fun a b c d ha hc' => h.2 a b c d (hz a b ha) (hz c d hc')⟩
  by_cases c : k' = k ∧ i' = i
  · obtain ⟨rfl, rfl⟩ := c
    rw [up2_s] at hx
    cases hx
    exact ⟨hP n _ (List.getElem?_set_self hl), (h.1 _ _ _ hk).2⟩
  · rw [up2_n c] at hx
    obtain ⟨j, hj⟩ := hc k' i' x hx
    have hjn : n ≠ j := by
      intro e1
      subst e1
      rw [hn] at hj
      exact c (h.2 k' i' k i (by rw [hx]; exact fun q => by cases q) (by rw [hk]; exact fun q => by cases q) (congrArg Prod.fst (Option.some.inj hj)).symm)
    exact ⟨hP j _ (by rw [List.getElem?_set_ne hjn]; exact hj), (h.1 k' i' x hx).2⟩
theorem Hv.push {z : Zx} {ad : Nm} {μ : Ce} {H H1 : Heap} {ws : va_W} {k i q : Nat} {e : va_E} (h : Hv z ad μ H) (hc : ∀ k i e, μ k i = some e → ∃ n : Nat, ws[n]? = some (ad k i, e)) (hk : μ k i = none) (hP : va_P z.1.1 vwCl (ws ++ [(q, e)]) H1) (hD : va_D (zA z) (ws ++ [(q, e)])) : Hv z (nmu ad k i q) (up2 μ k i e) H1 := by
  have hlast : (ws ++ [(q, e)])[ws.length]? = some (q, e) := by simp
  have hne : ∀ k' i' x, μ k' i' = some x → ad k' i' ≠ q := by
    intro k' i' x hx e1
    obtain ⟨j, hj⟩ := hc k' i' x hx
    have hl := (List.getElem?_eq_some_iff.mp hj).1
    have hj' : (ws ++ [(q, e)])[j]? = some (ad k' i', x) := by rw [List.getElem?_append_left hl]; exact hj
    have := hD.1 j ws.length _ _ hj' hlast e1
    omega
  refine ⟨fun k' i' x hx => ?_, fun a b c d ha hc' hac => ?_⟩
  · by_cases c : k' = k ∧ i' = i
    · obtain ⟨rfl, rfl⟩ := c
      rw [up2_s] at hx
      cases hx
      rw [nmu_s]
      exact ⟨hP _ _ hlast, hD.2 _ _ hlast⟩
    · rw [up2_n c] at hx
      rw [nmu_n c]
      obtain ⟨j, hj⟩ := hc k' i' x hx
      have hl := (List.getElem?_eq_some_iff.mp hj).1
      exact ⟨hP j _ (by rw [List.getElem?_append_left hl]; exact hj), (h.1 k' i' x hx).2⟩
  · by_cases c1 : a = k ∧ b = i <;> by_cases c2 : c = k ∧ d = i
    · exact ⟨c1.1.trans c2.1.symm, c1.2.trans c2.2.symm⟩
    · obtain ⟨rfl, rfl⟩ := c1
      rw [nmu_s, nmu_n c2] at hac
      rw [up2_n c2] at hc'
      obtain ⟨x, hx⟩ := Option.ne_none_iff_exists'.mp hc'
      exact absurd hac.symm (hne _ _ x hx)
    · obtain ⟨rfl, rfl⟩ := c2
      rw [nmu_s, nmu_n c1] at hac
      rw [up2_n c1] at ha
      obtain ⟨x, hx⟩ := Option.ne_none_iff_exists'.mp ha
      exact absurd hac (hne _ _ x hx)
    · rw [nmu_n c1, nmu_n c2] at hac
      rw [up2_n c1] at ha
      rw [up2_n c2] at hc'
      exact h.2 a b c d ha hc' hac
-- the walk's fixed things
abbrev Gx : Type := (Program × Launch × Env × Room × State) × (MethodId × Array Value × List Frame × Method × Code) × (State → Prop)
abbrev gp (g : Gx) : Program := g.1.1
abbrev gl (g : Gx) : Launch := g.1.2.1
abbrev ge (g : Gx) : Env := g.1.2.2.1
abbrev gR (g : Gx) : Room := g.1.2.2.2.1
abbrev gs (g : Gx) : State := g.1.2.2.2.2
abbrev gm (g : Gx) : MethodId := g.2.1.1
abbrev ga (g : Gx) : Array Value := g.2.1.2.1
abbrev gb (g : Gx) : List Frame := g.2.1.2.2.1
abbrev gt (g : Gx) : Method := g.2.1.2.2.2.1
abbrev gc (g : Gx) : Code := g.2.1.2.2.2.2
abbrev gQ (g : Gx) : State → Prop := g.2.2
abbrev Lv : Type := List (Nat × Value)
/-- from this point (place pc, locals lv, stack st, world μ at ad, n cells and k slots made) the walk comes to its end -/
def WW (g : Gx) (z : Zx) (nL n k : Nat) (ad : Nm) (μ : Ce) (pc : Nat) (lv : Lv) (st : List Value) : Prop :=
  ∀ (H : Heap) (locs : List Loc) (ls : Array Slot), Hv z ad μ H → va_S (zA z) (gs g).heap H locs → lv_has ls nL lv →
    W (gp g) (gl g) (ge g) (gR g) (gs g) (gm g) (ga g) (gb g) (gt g) (gc g) H locs n k (gQ g) (F0 (gm g) pc ls st)
/-- q is thrown at this point, an E -/
def WX (g : Gx) (z : Zx) (nL n k : Nat) (ad : Nm) (μ : Ce) (pc : Nat) (lv : Lv) (st : List Value) (E : String) : Prop :=
  ∀ (H : Heap) (locs : List Loc) (ls : Array Slot) (q : Addr) (ce : Cell), Hv z ad μ H → va_S (zA z) (gs g).heap H locs → lv_has ls nL lv → H[q]? = some ce → ce.vm = .none → (gs g).vm.findClass E = some ce.cls →
    vx_W (gp g) (gl g) (ge g) (gR g) (gs g) (gm g) (ga g) (gb g) (gt g) (gc g) H locs n k (gQ g) (F0 (gm g) pc ls st) q
-- contracts
abbrev OkT : Type := Option Value → Nm → Ce → Prop
def okQ (z : Zx) (ok : OkT) : Array Value → State → Outcome → State → Prop := fun _ st o t => ∃ (v : Option Value) (ad : Nm) (μ : Ce), o = .returned v ∧ ok v ad μ ∧ Hv z ad μ t.heap ∧ va_F (zA z) st t
def exQ (z : Zx) (ex : String → Prop) (ad : Nm) (μ : Ce) : String → State → State → Prop := fun E st t => ex E ∧ Hv z ad μ t.heap ∧ va_F (zA z) st t
def exNo : String → Prop := fun _ => False
abbrev rmK (lev mc ms : Nat) : Room := { frames := 12 + lev, cells := mc, slots := ms, locals := 200 + 60 * lev }
/-- method y: from any state with the world μ at ad and these arguments it returns as ok says, or throws an exception that ex names and the world is unchanged -/
def Ko (z : Zx) (l : Launch) (y : MethodName) (b : ByteArray) (nL : Nat) (ret : Option FieldType) (lev mc ms : Nat) (args : List Value) (ad : Nm) (μ : Ce) (ok : OkT) (ex : String → Prop) : Prop :=
  vx_Met l y (Cond.code y b nL ret :: WALL) (rmK lev mc ms) (va_Pc args (fun U => Ev z U ∧ Hv z ad μ U.heap)) (okQ z ok) (exQ z ex ad μ) mc ms (zA z)
/-- what a walk knows all along -/
def Kn (g : Gx) (z : Zx) (cc : ByteArray) (nL : Nat) (y : MethodName) (ret : Option FieldType) (tb : List ExceptionTableEntry) (lev mc ms : Nat) (ad0 : Nm) (μ0 : Ce) (ok : OkT) (ex : String → Prop) : Prop :=
  CallFix (gp g) (gm g) (gc g) cc nL (gs g) (ga g) WALL y.cls ∧ Ev z (gs g) ∧ (gl g).stackTraces = false ∧ (gt g).locks = false ∧ ((gt g).sig.returnType = ret ∧ (gt g).name = y.name) ∧ gR g = rmK lev mc ms ∧
  (gc g).exceptionTable.toList = tb ∧ gQ g = vx_MQ (gb g) (okQ z ok) (exQ z ex ad0 μ0) (ga g) (gs g) mc ms (zA z)
theorem ko_of {z : Zx} {l : Launch} {y : MethodName} {b : ByteArray} {nL : Nat} {ret : Option FieldType} {lev mc ms : Nat} {args : List Value} {ad : Nm} {μ : Ce} {ok : OkT} {ex : String → Prop} (hl : l.stackTraces = false) (hy : plainName y.cls = true) (hn : (lg_sl args).length ≤ nL)
    (body : ∀ g : Gx, gl g = l → Kn g z b nL y ret [] lev mc ms ad μ ok ex → WW g z nL 0 0 ad μ 0 (lv_args 0 args) []) : Ko z l y b nL ret lev mc ms args ad μ ok ex := by
  refine vx_ofW (cc := b) (maxL := nL) (ret := ret) hy rfl ?_
  intro p e s m args' below meth c s₁ B hml ht hv
  obtain ⟨rfl, hE, hM⟩ := hv
  have hts := atoms_spec (ws := Cond.code y b nL ret :: WALL) B.pre
  have K := body ((p, l, e, rmK lev mc ms, s), (m, args.toArray, below, meth, c), vx_MQ below (okQ z ok) (exQ z ex ad μ) args.toArray s mc ms (zA z)) rfl
    ⟨⟨B.exec, B.bytes, hml, findClass_of_methodNamed B.named, fun w hw => hts w (List.mem_cons_of_mem _ hw)⟩, hE, hl, B.notSynchronized, ⟨B.returns, (name_of_methodNamed B.named B.method).1⟩, rfl, List.eq_nil_iff_forall_not_mem.mpr ht, rfl⟩
  have hls := lv_entry args (n := nL) hn
  rw [lg_entry_eq]
  exact K s.heap [] _ hM va_S.rf hls
/-- the same for a method with a table of handlers -/
def KoH (z : Zx) (l : Launch) (y : MethodName) (b : ByteArray) (nL : Nat) (ret : Option FieldType) (hh : List (Nat × Nat × Nat × Nat)) (lev mc ms : Nat) (args : List Value) (ad : Nm) (μ : Ce) (ok : OkT) (ex : String → Prop) : Prop :=
  vx_Met l y (Cond.codeWith y b nL ret hh :: WALL) (rmK lev mc ms) (va_Pc args (fun U => Ev z U ∧ Hv z ad μ U.heap)) (okQ z ok) (exQ z ex ad μ) mc ms (zA z)
theorem koH_of {z : Zx} {l : Launch} {y : MethodName} {b : ByteArray} {nL : Nat} {ret : Option FieldType} {hh : List (Nat × Nat × Nat × Nat)} {lev mc ms : Nat} {args : List Value} {ad : Nm} {μ : Ce} {ok : OkT} {ex : String → Prop} (hl : l.stackTraces = false) (hy : plainName y.cls = true) (hn : (lg_sl args).length ≤ nL)
    (body : ∀ g : Gx, gl g = l → Kn g z b nL y ret (tableOf hh) lev mc ms ad μ ok ex → WW g z nL 0 0 ad μ 0 (lv_args 0 args) []) : KoH z l y b nL ret hh lev mc ms args ad μ ok ex := by
  refine vx_ofWH (cc := b) (maxL := nL) (ret := ret) (hh := hh) hy rfl ?_
  intro p e s m args' below meth c s₁ B hml hv
  obtain ⟨rfl, hE, hM⟩ := hv
  have hts := atoms_spec (ws := Cond.codeWith y b nL ret hh :: WALL) B.pre
  have ht := vx_table (x := y) B (hts _ List.mem_cons_self)
  have K := body ((p, l, e, rmK lev mc ms, s), (m, args.toArray, below, meth, c), vx_MQ below (okQ z ok) (exQ z ex ad μ) args.toArray s mc ms (zA z)) rfl
    ⟨⟨B.exec, B.bytes, hml, findClass_of_methodNamed B.named, fun w hw => hts w (List.mem_cons_of_mem _ hw)⟩, hE, hl, B.notSynchronized, ⟨B.returns, (name_of_methodNamed B.named B.method).1⟩, rfl, ht, rfl⟩
  have hls := lv_entry args (n := nL) hn
  rw [lg_entry_eq]
  exact K s.heap [] _ hM va_S.rf hls
end
section
/-! ROWS over the walk WW (by mkrows.py) -/
section ZR
variable {g : Gx} {z : Zx} {cc : ByteArray} {nL : Nat} {y0 : MethodName} {ret : Option FieldType} {tb : List ExceptionTableEntry} {lev mc ms : Nat} {ad0 ad : Nm} {μ0 μ : Ce} {ok : OkT} {ex : String → Prop} {n k pc : Nat} {lv lv' : Lv} {st : List Value}
theorem r_iload_n (K : Kn g z cc nL y0 ret tb lev mc ms ad0 μ0 ok ex) {j : Fin 4} {i : Nat} {x : Int32} (p : Nat) (hi : (j : Nat) = i) (hv : lv[p]? = some (i, .int x)) (hdg : decode cc pc = .ok (.iload_n j, 1)) (kk : WW g z nL n k ad μ (pc + 1) lv (.int x :: st)) : WW g z nL n k ad μ pc lv st := fun H locs ls M S L => lv_iload_n K.1.1 K.1.2.1 hdg hi (lv_at L p hv) (kk H locs ls M S L)
theorem r_iload (K : Kn g z cc nL y0 ret tb lev mc ms ad0 μ0 ok ex) {i : Nat} {x : Int32} (p : Nat) (hv : lv[p]? = some (i, .int x)) (hdg : decode cc pc = .ok (.iload i, 2)) (kk : WW g z nL n k ad μ (pc + 2) lv (.int x :: st)) : WW g z nL n k ad μ pc lv st := fun H locs ls M S L => lv_iload K.1.1 K.1.2.1 hdg (lv_at L p hv) (kk H locs ls M S L)
theorem r_lload_n (K : Kn g z cc nL y0 ret tb lev mc ms ad0 μ0 ok ex) {j : Fin 4} {i : Nat} {x : Int64} (p : Nat) (hi : (j : Nat) = i) (hv : lv[p]? = some (i, .long x)) (hdg : decode cc pc = .ok (.lload_n j, 1)) (kk : WW g z nL n k ad μ (pc + 1) lv (.long x :: st)) : WW g z nL n k ad μ pc lv st := fun H locs ls M S L => lv_lload_n K.1.1 K.1.2.1 hdg hi (lv_at L p hv) (kk H locs ls M S L)
theorem r_lload (K : Kn g z cc nL y0 ret tb lev mc ms ad0 μ0 ok ex) {i : Nat} {x : Int64} (p : Nat) (hv : lv[p]? = some (i, .long x)) (hdg : decode cc pc = .ok (.lload i, 2)) (kk : WW g z nL n k ad μ (pc + 2) lv (.long x :: st)) : WW g z nL n k ad μ pc lv st := fun H locs ls M S L => lv_lload K.1.1 K.1.2.1 hdg (lv_at L p hv) (kk H locs ls M S L)
theorem r_dload_n (K : Kn g z cc nL y0 ret tb lev mc ms ad0 μ0 ok ex) {j : Fin 4} {i : Nat} {x : UInt64} (p : Nat) (hi : (j : Nat) = i) (hv : lv[p]? = some (i, .double x)) (hdg : decode cc pc = .ok (.dload_n j, 1)) (kk : WW g z nL n k ad μ (pc + 1) lv (.double x :: st)) : WW g z nL n k ad μ pc lv st := fun H locs ls M S L => lv_dload_n K.1.1 K.1.2.1 hdg hi (lv_at L p hv) (kk H locs ls M S L)
theorem r_dload (K : Kn g z cc nL y0 ret tb lev mc ms ad0 μ0 ok ex) {i : Nat} {x : UInt64} (p : Nat) (hv : lv[p]? = some (i, .double x)) (hdg : decode cc pc = .ok (.dload i, 2)) (kk : WW g z nL n k ad μ (pc + 2) lv (.double x :: st)) : WW g z nL n k ad μ pc lv st := fun H locs ls M S L => lv_dload K.1.1 K.1.2.1 hdg (lv_at L p hv) (kk H locs ls M S L)
theorem r_aload_n (K : Kn g z cc nL y0 ret tb lev mc ms ad0 μ0 ok ex) {j : Fin 4} {i x : Nat} (p : Nat) (hi : (j : Nat) = i) (hv : lv[p]? = some (i, .ref x)) (hdg : decode cc pc = .ok (.aload_n j, 1)) (kk : WW g z nL n k ad μ (pc + 1) lv (.ref x :: st)) : WW g z nL n k ad μ pc lv st := fun H locs ls M S L => lv_aload_n K.1.1 K.1.2.1 hdg hi (lv_at L p hv) (kk H locs ls M S L)
theorem r_aload (K : Kn g z cc nL y0 ret tb lev mc ms ad0 μ0 ok ex) {i x : Nat} (p : Nat) (hv : lv[p]? = some (i, .ref x)) (hdg : decode cc pc = .ok (.aload i, 2)) (kk : WW g z nL n k ad μ (pc + 2) lv (.ref x :: st)) : WW g z nL n k ad μ pc lv st := fun H locs ls M S L => lv_aload K.1.1 K.1.2.1 hdg (lv_at L p hv) (kk H locs ls M S L)
theorem r_istore_n (K : Kn g z cc nL y0 ret tb lev mc ms ad0 μ0 ok ex) {j : Fin 4} {i : Nat} {x : Int32} (hi : (j : Nat) = i) (hn : i < nL) (hl : (i, Value.int x) :: lv.filter (fun q => !(q.1 == i) && !(q.1 + 1 == i && q.2.category == 2)) = lv') (hdg : decode cc pc = .ok (.istore_n j, 1)) (kk : WW g z nL n k ad μ (pc + 1) lv' st) : WW g z nL n k ad μ pc lv (.int x :: st) := fun H locs ls M S L => lv_istore_n K.1.1 K.1.2.1 hdg hi L hn hl (fun ls1 L1 => kk H locs ls1 M S L1)
theorem r_istore (K : Kn g z cc nL y0 ret tb lev mc ms ad0 μ0 ok ex) {i : Nat} {x : Int32} (hn : i < nL) (hl : (i, Value.int x) :: lv.filter (fun q => !(q.1 == i) && !(q.1 + 1 == i && q.2.category == 2)) = lv') (hdg : decode cc pc = .ok (.istore i, 2)) (kk : WW g z nL n k ad μ (pc + 2) lv' st) : WW g z nL n k ad μ pc lv (.int x :: st) := fun H locs ls M S L => lv_istore K.1.1 K.1.2.1 hdg L hn hl (fun ls1 L1 => kk H locs ls1 M S L1)
theorem r_astore_n (K : Kn g z cc nL y0 ret tb lev mc ms ad0 μ0 ok ex) {j : Fin 4} {i : Nat} {x : Nat} (hi : (j : Nat) = i) (hn : i < nL) (hl : (i, Value.ref x) :: lv.filter (fun q => !(q.1 == i) && !(q.1 + 1 == i && q.2.category == 2)) = lv') (hdg : decode cc pc = .ok (.astore_n j, 1)) (kk : WW g z nL n k ad μ (pc + 1) lv' st) : WW g z nL n k ad μ pc lv (.ref x :: st) := fun H locs ls M S L => lv_astore_n K.1.1 K.1.2.1 hdg hi L hn hl (fun ls1 L1 => kk H locs ls1 M S L1)
theorem r_astore (K : Kn g z cc nL y0 ret tb lev mc ms ad0 μ0 ok ex) {i : Nat} {x : Nat} (hn : i < nL) (hl : (i, Value.ref x) :: lv.filter (fun q => !(q.1 == i) && !(q.1 + 1 == i && q.2.category == 2)) = lv') (hdg : decode cc pc = .ok (.astore i, 2)) (kk : WW g z nL n k ad μ (pc + 2) lv' st) : WW g z nL n k ad μ pc lv (.ref x :: st) := fun H locs ls M S L => lv_astore K.1.1 K.1.2.1 hdg L hn hl (fun ls1 L1 => kk H locs ls1 M S L1)
theorem r_lstore_n (K : Kn g z cc nL y0 ret tb lev mc ms ad0 μ0 ok ex) {j : Fin 4} {i : Nat} {x : Int64} (hi : (j : Nat) = i) (hn : i + 1 < nL) (hl : (i, Value.long x) :: lv.filter (fun q => !(q.1 == i) && (!(q.1 == i + 1) && !(q.1 + 1 == i && q.2.category == 2))) = lv') (hdg : decode cc pc = .ok (.lstore_n j, 1)) (kk : WW g z nL n k ad μ (pc + 1) lv' st) : WW g z nL n k ad μ pc lv (.long x :: st) := fun H locs ls M S L => lv_lstore_n K.1.1 K.1.2.1 hdg hi L hn hl (fun ls1 L1 => kk H locs ls1 M S L1)
theorem r_lstore (K : Kn g z cc nL y0 ret tb lev mc ms ad0 μ0 ok ex) {i : Nat} {x : Int64} (hn : i + 1 < nL) (hl : (i, Value.long x) :: lv.filter (fun q => !(q.1 == i) && (!(q.1 == i + 1) && !(q.1 + 1 == i && q.2.category == 2))) = lv') (hdg : decode cc pc = .ok (.lstore i, 2)) (kk : WW g z nL n k ad μ (pc + 2) lv' st) : WW g z nL n k ad μ pc lv (.long x :: st) := fun H locs ls M S L => lv_lstore K.1.1 K.1.2.1 hdg L hn hl (fun ls1 L1 => kk H locs ls1 M S L1)
theorem r_dstore_n (K : Kn g z cc nL y0 ret tb lev mc ms ad0 μ0 ok ex) {j : Fin 4} {i : Nat} {x : UInt64} (hi : (j : Nat) = i) (hn : i + 1 < nL) (hl : (i, Value.double x) :: lv.filter (fun q => !(q.1 == i) && (!(q.1 == i + 1) && !(q.1 + 1 == i && q.2.category == 2))) = lv') (hdg : decode cc pc = .ok (.dstore_n j, 1)) (kk : WW g z nL n k ad μ (pc + 1) lv' st) : WW g z nL n k ad μ pc lv (.double x :: st) := fun H locs ls M S L => lv_dstore_n K.1.1 K.1.2.1 hdg hi L hn hl (fun ls1 L1 => kk H locs ls1 M S L1)
theorem r_dstore (K : Kn g z cc nL y0 ret tb lev mc ms ad0 μ0 ok ex) {i : Nat} {x : UInt64} (hn : i + 1 < nL) (hl : (i, Value.double x) :: lv.filter (fun q => !(q.1 == i) && (!(q.1 == i + 1) && !(q.1 + 1 == i && q.2.category == 2))) = lv') (hdg : decode cc pc = .ok (.dstore i, 2)) (kk : WW g z nL n k ad μ (pc + 2) lv' st) : WW g z nL n k ad μ pc lv (.double x :: st) := fun H locs ls M S L => lv_dstore K.1.1 K.1.2.1 hdg L hn hl (fun ls1 L1 => kk H locs ls1 M S L1)
theorem r_iinc (K : Kn g z cc nL y0 ret tb lev mc ms ad0 μ0 ok ex) {i : Nat} {m : Int} {x v : Int32} (p : Nat) (hk : lv[p]? = some (i, .int x)) (hv : x + Int32.ofInt m = v) (hn : i < nL) (hl : (i, Value.int v) :: lv.filter (fun q => !(q.1 == i) && !(q.1 + 1 == i && q.2.category == 2)) = lv') (hdg : decode cc pc = .ok (.iinc i m, 3)) (kk : WW g z nL n k ad μ (pc + 3) lv' st) : WW g z nL n k ad μ pc lv st := fun H locs ls M S L => lv_iinc K.1.1 K.1.2.1 hdg L hk hv hn hl (fun ls1 L1 => kk H locs ls1 M S L1)
theorem r_iconst (K : Kn g z cc nL y0 ret tb lev mc ms ad0 μ0 ok ex) {m : Int} {v : Int32} (hv : Int32.ofInt m = v) (hdg : decode cc pc = .ok (.iconst m, 1)) (kk : WW g z nL n k ad μ (pc + 1) lv (.int v :: st)) : WW g z nL n k ad μ pc lv st := fun H locs ls M S L => lv_iconst K.1.1 K.1.2.1 hdg hv (kk H locs ls M S L)
theorem r_bipush (K : Kn g z cc nL y0 ret tb lev mc ms ad0 μ0 ok ex) {m : Int} {v : Int32} (hv : (Int8.ofInt m).toInt32 = v) (hdg : decode cc pc = .ok (.bipush m, 2)) (kk : WW g z nL n k ad μ (pc + 2) lv (.int v :: st)) : WW g z nL n k ad μ pc lv st := fun H locs ls M S L => lv_bipush K.1.1 K.1.2.1 hdg hv (kk H locs ls M S L)
theorem r_sipush (K : Kn g z cc nL y0 ret tb lev mc ms ad0 μ0 ok ex) {m : Int} {v : Int32} (hv : (Int16.ofInt m).toInt32 = v) (hdg : decode cc pc = .ok (.sipush m, 3)) (kk : WW g z nL n k ad μ (pc + 3) lv (.int v :: st)) : WW g z nL n k ad μ pc lv st := fun H locs ls M S L => lv_sipush K.1.1 K.1.2.1 hdg hv (kk H locs ls M S L)
theorem r_lconst (K : Kn g z cc nL y0 ret tb lev mc ms ad0 μ0 ok ex) {m : Fin 2} {v : Int64} (hv : Int64.ofNat (m : Nat) = v) (hdg : decode cc pc = .ok (.lconst m, 1)) (kk : WW g z nL n k ad μ (pc + 1) lv (.long v :: st)) : WW g z nL n k ad μ pc lv st := fun H locs ls M S L => lv_lconst K.1.1 K.1.2.1 hdg hv (kk H locs ls M S L)
theorem r_null (K : Kn g z cc nL y0 ret tb lev mc ms ad0 μ0 ok ex)  (hdg : decode cc pc = .ok (.aconst_null, 1)) (kk : WW g z nL n k ad μ (pc + 1) lv (.null :: st)) : WW g z nL n k ad μ pc lv st := fun H locs ls M S L => lv_null K.1.1 K.1.2.1 hdg (kk H locs ls M S L)
theorem r_ldc (K : Kn g z cc nL y0 ret tb lev mc ms ad0 μ0 ok ex) {index : Nat} {v : Int32} (hc : Cond.constant y0.cls index v ∈ WALL) (hdg : decode cc pc = .ok (.ldc index, 2)) (kk : WW g z nL n k ad μ (pc + 2) lv (.int v :: st)) : WW g z nL n k ad μ pc lv st := fun H locs ls M S L => lv_ldc K.1.1 K.1.2.1 K.1.2.2.2.1 (K.1.2.2.2.2 _ hc) hdg (kk H locs ls M S L)
theorem r_ldcw (K : Kn g z cc nL y0 ret tb lev mc ms ad0 μ0 ok ex) {index : Nat} {v : Int32} (hc : Cond.constant y0.cls index v ∈ WALL) (hdg : decode cc pc = .ok (.ldc_w index, 3)) (kk : WW g z nL n k ad μ (pc + 3) lv (.int v :: st)) : WW g z nL n k ad μ pc lv st := fun H locs ls M S L => lv_ldcw K.1.1 K.1.2.1 K.1.2.2.2.1 (K.1.2.2.2.2 _ hc) hdg (kk H locs ls M S L)
theorem r_iadd (K : Kn g z cc nL y0 ret tb lev mc ms ad0 μ0 ok ex) {x y v : Int32} (hv : x + y = v) (hdg : decode cc pc = .ok (.iadd, 1)) (kk : WW g z nL n k ad μ (pc + 1) lv (.int v :: st)) : WW g z nL n k ad μ pc lv (.int y :: .int x :: st) := by subst hv; exact fun H locs ls M S L => lv_iadd K.1.1 K.1.2.1 hdg (kk H locs ls M S L)
theorem r_isub (K : Kn g z cc nL y0 ret tb lev mc ms ad0 μ0 ok ex) {x y v : Int32} (hv : x - y = v) (hdg : decode cc pc = .ok (.isub, 1)) (kk : WW g z nL n k ad μ (pc + 1) lv (.int v :: st)) : WW g z nL n k ad μ pc lv (.int y :: .int x :: st) := by subst hv; exact fun H locs ls M S L => lv_isub K.1.1 K.1.2.1 hdg (kk H locs ls M S L)
theorem r_imul (K : Kn g z cc nL y0 ret tb lev mc ms ad0 μ0 ok ex) {x y v : Int32} (hv : x * y = v) (hdg : decode cc pc = .ok (.imul, 1)) (kk : WW g z nL n k ad μ (pc + 1) lv (.int v :: st)) : WW g z nL n k ad μ pc lv (.int y :: .int x :: st) := by subst hv; exact fun H locs ls M S L => lv_imul K.1.1 K.1.2.1 hdg (kk H locs ls M S L)
theorem r_iand (K : Kn g z cc nL y0 ret tb lev mc ms ad0 μ0 ok ex) {x y v : Int32} (hv : x &&& y = v) (hdg : decode cc pc = .ok (.iand, 1)) (kk : WW g z nL n k ad μ (pc + 1) lv (.int v :: st)) : WW g z nL n k ad μ pc lv (.int y :: .int x :: st) := by subst hv; exact fun H locs ls M S L => lv_iand K.1.1 K.1.2.1 hdg (kk H locs ls M S L)
theorem r_idiv (K : Kn g z cc nL y0 ret tb lev mc ms ad0 μ0 ok ex) {x y v : Int32} (hne : ¬ y = 0) (hv : x / y = v) (hdg : decode cc pc = .ok (.idiv, 1)) (kk : WW g z nL n k ad μ (pc + 1) lv (.int v :: st)) : WW g z nL n k ad μ pc lv (.int y :: .int x :: st) := by subst hv; exact fun H locs ls M S L => lv_idiv K.1.1 K.1.2.1 hdg hne (kk H locs ls M S L)
theorem r_irem (K : Kn g z cc nL y0 ret tb lev mc ms ad0 μ0 ok ex) {x y v : Int32} (hne : ¬ y = 0) (hv : x - x / y * y = v) (hdg : decode cc pc = .ok (.irem, 1)) (kk : WW g z nL n k ad μ (pc + 1) lv (.int v :: st)) : WW g z nL n k ad μ pc lv (.int y :: .int x :: st) := by subst hv; exact fun H locs ls M S L => lv_irem K.1.1 K.1.2.1 hdg hne (kk H locs ls M S L)
theorem r_ineg (K : Kn g z cc nL y0 ret tb lev mc ms ad0 μ0 ok ex) {x v : Int32} (hv : -x = v) (hdg : decode cc pc = .ok (.ineg, 1)) (kk : WW g z nL n k ad μ (pc + 1) lv (.int v :: st)) : WW g z nL n k ad μ pc lv (.int x :: st) := by subst hv; exact fun H locs ls M S L => lv_ineg K.1.1 K.1.2.1 hdg (kk H locs ls M S L)
theorem r_ishl (K : Kn g z cc nL y0 ret tb lev mc ms ad0 μ0 ok ex) {x y v : Int32} (hv : x <<< (y &&& 31) = v) (hdg : decode cc pc = .ok (.ishl, 1)) (kk : WW g z nL n k ad μ (pc + 1) lv (.int v :: st)) : WW g z nL n k ad μ pc lv (.int y :: .int x :: st) := by subst hv; exact fun H locs ls M S L => lv_ishl K.1.1 K.1.2.1 hdg (kk H locs ls M S L)
theorem r_ishr (K : Kn g z cc nL y0 ret tb lev mc ms ad0 μ0 ok ex) {x y v : Int32} (hv : x >>> (y &&& 31) = v) (hdg : decode cc pc = .ok (.ishr, 1)) (kk : WW g z nL n k ad μ (pc + 1) lv (.int v :: st)) : WW g z nL n k ad μ pc lv (.int y :: .int x :: st) := by subst hv; exact fun H locs ls M S L => lv_ishr K.1.1 K.1.2.1 hdg (kk H locs ls M S L)
theorem r_ladd (K : Kn g z cc nL y0 ret tb lev mc ms ad0 μ0 ok ex) {x y v : Int64} (hv : x + y = v) (hdg : decode cc pc = .ok (.ladd, 1)) (kk : WW g z nL n k ad μ (pc + 1) lv (.long v :: st)) : WW g z nL n k ad μ pc lv (.long y :: .long x :: st) := by subst hv; exact fun H locs ls M S L => lv_ladd K.1.1 K.1.2.1 hdg (kk H locs ls M S L)
theorem r_i2l (K : Kn g z cc nL y0 ret tb lev mc ms ad0 μ0 ok ex) {x : Int32} {v : Int64} (hv : x.toInt64 = v) (hdg : decode cc pc = .ok (.i2l, 1)) (kk : WW g z nL n k ad μ (pc + 1) lv (.long v :: st)) : WW g z nL n k ad μ pc lv (.int x :: st) := fun H locs ls M S L => lv_i2l K.1.1 K.1.2.1 hdg hv (kk H locs ls M S L)
theorem r_i2c (K : Kn g z cc nL y0 ret tb lev mc ms ad0 μ0 ok ex) {x v : Int32} (hv : (x.toUInt32 % 65536).toInt32 = v) (hdg : decode cc pc = .ok (.i2c, 1)) (kk : WW g z nL n k ad μ (pc + 1) lv (.int v :: st)) : WW g z nL n k ad μ pc lv (.int x :: st) := fun H locs ls M S L => lv_i2c K.1.1 K.1.2.1 hdg hv (kk H locs ls M S L)
theorem r_i2b (K : Kn g z cc nL y0 ret tb lev mc ms ad0 μ0 ok ex) {x v : Int32} (hv : x.toInt8.toInt32 = v) (hdg : decode cc pc = .ok (.i2b, 1)) (kk : WW g z nL n k ad μ (pc + 1) lv (.int v :: st)) : WW g z nL n k ad μ pc lv (.int x :: st) := fun H locs ls M S L => lv_i2b K.1.1 K.1.2.1 hdg hv (kk H locs ls M S L)
theorem r_i2d (K : Kn g z cc nL y0 ret tb lev mc ms ad0 μ0 ok ex) {x : Int32} (hdg : decode cc pc = .ok (.i2d, 1)) (kk : WW g z nL n k ad μ (pc + 1) lv (.double (FP.i2d x) :: st)) : WW g z nL n k ad μ pc lv (.int x :: st) := fun H locs ls M S L => lv_i2d K.1.1 K.1.2.1 hdg (kk H locs ls M S L)
theorem r_l2d (K : Kn g z cc nL y0 ret tb lev mc ms ad0 μ0 ok ex) {x : Int64} (hdg : decode cc pc = .ok (.l2d, 1)) (kk : WW g z nL n k ad μ (pc + 1) lv (.double (FP.l2d x) :: st)) : WW g z nL n k ad μ pc lv (.long x :: st) := fun H locs ls M S L => lv_l2d K.1.1 K.1.2.1 hdg (kk H locs ls M S L)
theorem r_ddiv (K : Kn g z cc nL y0 ret tb lev mc ms ad0 μ0 ok ex) {x y : UInt64} (hne : vf_n64 (FP.ddiv x y)) (hdg : decode cc pc = .ok (.ddiv, 1)) (kk : WW g z nL n k ad μ (pc + 1) lv (.double (FP.ddiv x y) :: st)) : WW g z nL n k ad μ pc lv (.double y :: .double x :: st) := fun H locs ls M S L => lv_ddiv K.1.1 K.1.2.1 hdg hne (kk H locs ls M S L)
theorem r_dcmp (K : Kn g z cc nL y0 ret tb lev mc ms ad0 μ0 ok ex) {x y : UInt64} {op : CmpOp} (hdg : decode cc pc = .ok (.dcmp op, 1)) (kk : WW g z nL n k ad μ (pc + 1) lv (.int (Op.cmpValue (FP.dcmp x y) op) :: st)) : WW g z nL n k ad μ pc lv (.double y :: .double x :: st) := fun H locs ls M S L => lv_dcmp K.1.1 K.1.2.1 hdg (kk H locs ls M S L)
theorem r_dup (K : Kn g z cc nL y0 ret tb lev mc ms ad0 μ0 ok ex) {va : Value} (hva : va.category = 1) (hdg : decode cc pc = .ok (.dup, 1)) (kk : WW g z nL n k ad μ (pc + 1) lv (va :: va :: st)) : WW g z nL n k ad μ pc lv (va :: st) := fun H locs ls M S L => lv_dup K.1.1 K.1.2.1 hdg hva (kk H locs ls M S L)
theorem r_pop (K : Kn g z cc nL y0 ret tb lev mc ms ad0 μ0 ok ex) {va : Value} (hva : va.category = 1) (hdg : decode cc pc = .ok (.pop, 1)) (kk : WW g z nL n k ad μ (pc + 1) lv st) : WW g z nL n k ad μ pc lv (va :: st) := fun H locs ls M S L => lv_pop K.1.1 K.1.2.1 hdg hva (kk H locs ls M S L)
theorem r_dup2 (K : Kn g z cc nL y0 ret tb lev mc ms ad0 μ0 ok ex) {va vb : Value} (hva : va.category = 1) (hvb : vb.category = 1) (hdg : decode cc pc = .ok (.dup2, 1)) (kk : WW g z nL n k ad μ (pc + 1) lv (va :: vb :: va :: vb :: st)) : WW g z nL n k ad μ pc lv (va :: vb :: st) := fun H locs ls M S L => lv_dup2_11 K.1.1 K.1.2.1 hdg hva hvb (kk H locs ls M S L)
theorem r_dup_x1 (K : Kn g z cc nL y0 ret tb lev mc ms ad0 μ0 ok ex) {va vb : Value} (hva : va.category = 1) (hvb : vb.category = 1) (hdg : decode cc pc = .ok (.dup_x1, 1)) (kk : WW g z nL n k ad μ (pc + 1) lv (va :: vb :: va :: st)) : WW g z nL n k ad μ pc lv (va :: vb :: st) := fun H locs ls M S L => lv_dup_x1 K.1.1 K.1.2.1 hdg hva hvb (kk H locs ls M S L)
theorem r_if_eq (K : Kn g z cc nL y0 ret tb lev mc ms ad0 μ0 ok ex) {x : Int32} {off : Int} (tgt : Nat) (C : Prop) (hc : x = 0 ↔ C) (hdg : decode cc pc = .ok (.ifCond .eq off, 3)) (ht : (pc : Int) + off = (tgt : Int)) (kt : C → WW g z nL n k ad μ tgt lv st) (kf : ¬ C → WW g z nL n k ad μ (pc + 3) lv st) : WW g z nL n k ad μ pc lv (.int x :: st) := fun H locs ls M S L => lv_if_eq K.1.1 K.1.2.1 hdg ht (fun h => kt (hc.mp h) H locs ls M S L) (fun h => kf (fun q => h (hc.mpr q)) H locs ls M S L)
theorem r_icmp_eq (K : Kn g z cc nL y0 ret tb lev mc ms ad0 μ0 ok ex) {x y : Int32} {off : Int} (tgt : Nat) (C : Prop) (hc : x = y ↔ C) (hdg : decode cc pc = .ok (.if_icmp .eq off, 3)) (ht : (pc : Int) + off = (tgt : Int)) (kt : C → WW g z nL n k ad μ tgt lv st) (kf : ¬ C → WW g z nL n k ad μ (pc + 3) lv st) : WW g z nL n k ad μ pc lv (.int y :: .int x :: st) := fun H locs ls M S L => lv_icmp_eq K.1.1 K.1.2.1 hdg ht (fun h => kt (hc.mp h) H locs ls M S L) (fun h => kf (fun q => h (hc.mpr q)) H locs ls M S L)
theorem r_if_ne (K : Kn g z cc nL y0 ret tb lev mc ms ad0 μ0 ok ex) {x : Int32} {off : Int} (tgt : Nat) (C : Prop) (hc : x = 0 ↔ C) (hdg : decode cc pc = .ok (.ifCond .ne off, 3)) (ht : (pc : Int) + off = (tgt : Int)) (kt : ¬ C → WW g z nL n k ad μ tgt lv st) (kf : C → WW g z nL n k ad μ (pc + 3) lv st) : WW g z nL n k ad μ pc lv (.int x :: st) := fun H locs ls M S L => lv_if_ne K.1.1 K.1.2.1 hdg ht (fun h => kt (fun q => h (hc.mpr q)) H locs ls M S L) (fun h => kf (hc.mp h) H locs ls M S L)
theorem r_icmp_ne (K : Kn g z cc nL y0 ret tb lev mc ms ad0 μ0 ok ex) {x y : Int32} {off : Int} (tgt : Nat) (C : Prop) (hc : x = y ↔ C) (hdg : decode cc pc = .ok (.if_icmp .ne off, 3)) (ht : (pc : Int) + off = (tgt : Int)) (kt : ¬ C → WW g z nL n k ad μ tgt lv st) (kf : C → WW g z nL n k ad μ (pc + 3) lv st) : WW g z nL n k ad μ pc lv (.int y :: .int x :: st) := fun H locs ls M S L => lv_icmp_ne K.1.1 K.1.2.1 hdg ht (fun h => kt (fun q => h (hc.mpr q)) H locs ls M S L) (fun h => kf (hc.mp h) H locs ls M S L)
theorem r_if_lt (K : Kn g z cc nL y0 ret tb lev mc ms ad0 μ0 ok ex) {x : Int32} {off : Int} (tgt : Nat) (C : Prop) (hc : x < 0 ↔ C) (hdg : decode cc pc = .ok (.ifCond .lt off, 3)) (ht : (pc : Int) + off = (tgt : Int)) (kt : C → WW g z nL n k ad μ tgt lv st) (kf : ¬ C → WW g z nL n k ad μ (pc + 3) lv st) : WW g z nL n k ad μ pc lv (.int x :: st) := fun H locs ls M S L => lv_if_lt K.1.1 K.1.2.1 hdg ht (fun h => kt (hc.mp h) H locs ls M S L) (fun h => kf (fun q => h (hc.mpr q)) H locs ls M S L)
theorem r_icmp_lt (K : Kn g z cc nL y0 ret tb lev mc ms ad0 μ0 ok ex) {x y : Int32} {off : Int} (tgt : Nat) (C : Prop) (hc : x < y ↔ C) (hdg : decode cc pc = .ok (.if_icmp .lt off, 3)) (ht : (pc : Int) + off = (tgt : Int)) (kt : C → WW g z nL n k ad μ tgt lv st) (kf : ¬ C → WW g z nL n k ad μ (pc + 3) lv st) : WW g z nL n k ad μ pc lv (.int y :: .int x :: st) := fun H locs ls M S L => lv_icmp_lt K.1.1 K.1.2.1 hdg ht (fun h => kt (hc.mp h) H locs ls M S L) (fun h => kf (fun q => h (hc.mpr q)) H locs ls M S L)
theorem r_if_ge (K : Kn g z cc nL y0 ret tb lev mc ms ad0 μ0 ok ex) {x : Int32} {off : Int} (tgt : Nat) (C : Prop) (hc : 0 ≤ x ↔ C) (hdg : decode cc pc = .ok (.ifCond .ge off, 3)) (ht : (pc : Int) + off = (tgt : Int)) (kt : C → WW g z nL n k ad μ tgt lv st) (kf : ¬ C → WW g z nL n k ad μ (pc + 3) lv st) : WW g z nL n k ad μ pc lv (.int x :: st) := fun H locs ls M S L => lv_if_ge K.1.1 K.1.2.1 hdg ht (fun h => kt (hc.mp h) H locs ls M S L) (fun h => kf (fun q => h (hc.mpr q)) H locs ls M S L)
theorem r_icmp_ge (K : Kn g z cc nL y0 ret tb lev mc ms ad0 μ0 ok ex) {x y : Int32} {off : Int} (tgt : Nat) (C : Prop) (hc : y ≤ x ↔ C) (hdg : decode cc pc = .ok (.if_icmp .ge off, 3)) (ht : (pc : Int) + off = (tgt : Int)) (kt : C → WW g z nL n k ad μ tgt lv st) (kf : ¬ C → WW g z nL n k ad μ (pc + 3) lv st) : WW g z nL n k ad μ pc lv (.int y :: .int x :: st) := fun H locs ls M S L => lv_icmp_ge K.1.1 K.1.2.1 hdg ht (fun h => kt (hc.mp h) H locs ls M S L) (fun h => kf (fun q => h (hc.mpr q)) H locs ls M S L)
theorem r_if_gt (K : Kn g z cc nL y0 ret tb lev mc ms ad0 μ0 ok ex) {x : Int32} {off : Int} (tgt : Nat) (C : Prop) (hc : 0 < x ↔ C) (hdg : decode cc pc = .ok (.ifCond .gt off, 3)) (ht : (pc : Int) + off = (tgt : Int)) (kt : C → WW g z nL n k ad μ tgt lv st) (kf : ¬ C → WW g z nL n k ad μ (pc + 3) lv st) : WW g z nL n k ad μ pc lv (.int x :: st) := fun H locs ls M S L => lv_if_gt K.1.1 K.1.2.1 hdg ht (fun h => kt (hc.mp h) H locs ls M S L) (fun h => kf (fun q => h (hc.mpr q)) H locs ls M S L)
theorem r_icmp_gt (K : Kn g z cc nL y0 ret tb lev mc ms ad0 μ0 ok ex) {x y : Int32} {off : Int} (tgt : Nat) (C : Prop) (hc : y < x ↔ C) (hdg : decode cc pc = .ok (.if_icmp .gt off, 3)) (ht : (pc : Int) + off = (tgt : Int)) (kt : C → WW g z nL n k ad μ tgt lv st) (kf : ¬ C → WW g z nL n k ad μ (pc + 3) lv st) : WW g z nL n k ad μ pc lv (.int y :: .int x :: st) := fun H locs ls M S L => lv_icmp_gt K.1.1 K.1.2.1 hdg ht (fun h => kt (hc.mp h) H locs ls M S L) (fun h => kf (fun q => h (hc.mpr q)) H locs ls M S L)
theorem r_if_le (K : Kn g z cc nL y0 ret tb lev mc ms ad0 μ0 ok ex) {x : Int32} {off : Int} (tgt : Nat) (C : Prop) (hc : x ≤ 0 ↔ C) (hdg : decode cc pc = .ok (.ifCond .le off, 3)) (ht : (pc : Int) + off = (tgt : Int)) (kt : C → WW g z nL n k ad μ tgt lv st) (kf : ¬ C → WW g z nL n k ad μ (pc + 3) lv st) : WW g z nL n k ad μ pc lv (.int x :: st) := fun H locs ls M S L => lv_if_le K.1.1 K.1.2.1 hdg ht (fun h => kt (hc.mp h) H locs ls M S L) (fun h => kf (fun q => h (hc.mpr q)) H locs ls M S L)
theorem r_icmp_le (K : Kn g z cc nL y0 ret tb lev mc ms ad0 μ0 ok ex) {x y : Int32} {off : Int} (tgt : Nat) (C : Prop) (hc : x ≤ y ↔ C) (hdg : decode cc pc = .ok (.if_icmp .le off, 3)) (ht : (pc : Int) + off = (tgt : Int)) (kt : C → WW g z nL n k ad μ tgt lv st) (kf : ¬ C → WW g z nL n k ad μ (pc + 3) lv st) : WW g z nL n k ad μ pc lv (.int y :: .int x :: st) := fun H locs ls M S L => lv_icmp_le K.1.1 K.1.2.1 hdg ht (fun h => kt (hc.mp h) H locs ls M S L) (fun h => kf (fun q => h (hc.mpr q)) H locs ls M S L)
theorem r_goto (K : Kn g z cc nL y0 ret tb lev mc ms ad0 μ0 ok ex) {off : Int} (tgt : Nat) (hdg : decode cc pc = .ok (.goto off, 3)) (ht : (pc : Int) + off = (tgt : Int)) (kk : WW g z nL n k ad μ tgt lv st) : WW g z nL n k ad μ pc lv st := fun H locs ls M S L => lv_goto K.1.1 K.1.2.1 hdg ht (kk H locs ls M S L)
theorem r_lcmp (K : Kn g z cc nL y0 ret tb lev mc ms ad0 μ0 ok ex) {x y : Int64} (hdg : decode cc pc = .ok (.lcmp, 1)) (kk : WW g z nL n k ad μ (pc + 1) lv (.int (lg_cmp x y) :: st)) : WW g z nL n k ad μ pc lv (.long y :: .long x :: st) := fun H locs ls M S L => W.lcmp K.1.1 K.1.2.1 hdg (kk H locs ls M S L)
theorem r_tableIn (K : Kn g z cc nL y0 ret tb lev mc ms ad0 μ0 ok ex) {dflt lo hi : Int} {offs : Array Int} {len : Nat} {x : Int32} {off : Int} (tgt : Nat) (hdg : decode cc pc = .ok (.tableswitch dflt lo hi offs, len)) (h1 : ¬ x.toInt < lo) (h2 : ¬ hi < x.toInt) (ho : offs[(x.toInt - lo).toNat]? = some off) (ht : (pc : Int) + off = (tgt : Int)) (kk : WW g z nL n k ad μ tgt lv st) : WW g z nL n k ad μ pc lv (.int x :: st) := fun H locs ls M S L => lv_tableIn K.1.1 K.1.2.1 hdg h1 h2 ho ht (kk H locs ls M S L)
theorem r_tableOut (K : Kn g z cc nL y0 ret tb lev mc ms ad0 μ0 ok ex) {dflt lo hi : Int} {offs : Array Int} {len : Nat} {x : Int32} (tgt : Nat) (hdg : decode cc pc = .ok (.tableswitch dflt lo hi offs, len)) (h : x.toInt < lo ∨ hi < x.toInt) (ht : (pc : Int) + dflt = (tgt : Int)) (kk : WW g z nL n k ad μ tgt lv st) : WW g z nL n k ad μ pc lv (.int x :: st) := fun H locs ls M S L => lv_tableOut K.1.1 K.1.2.1 hdg h ht (kk H locs ls M S L)
theorem r_acmp_eq (K : Kn g z cc nL y0 ret tb lev mc ms ad0 μ0 ok ex) {a b : Nat} {off : Int} (tgt : Nat) (hdg : decode cc pc = .ok (.if_acmp .eq off, 3)) (ht : (pc : Int) + off = (tgt : Int)) (kt : a = b → WW g z nL n k ad μ tgt lv st) (kf : ¬ a = b → WW g z nL n k ad μ (pc + 3) lv st) : WW g z nL n k ad μ pc lv (.ref b :: .ref a :: st) := fun H locs ls M S L => lv_acmp_eq (rx := some a) (ry := some b) K.1.1 K.1.2.1 hdg ht (fun h => kt (Option.some.inj h) H locs ls M S L) (fun h => kf (fun q => h (congrArg some q)) H locs ls M S L)
theorem r_acmp_ne (K : Kn g z cc nL y0 ret tb lev mc ms ad0 μ0 ok ex) {a b : Nat} {off : Int} (tgt : Nat) (hdg : decode cc pc = .ok (.if_acmp .ne off, 3)) (ht : (pc : Int) + off = (tgt : Int)) (kt : ¬ a = b → WW g z nL n k ad μ tgt lv st) (kf : a = b → WW g z nL n k ad μ (pc + 3) lv st) : WW g z nL n k ad μ pc lv (.ref b :: .ref a :: st) := fun H locs ls M S L => lv_acmp_ne (rx := some a) (ry := some b) K.1.1 K.1.2.1 hdg ht (fun h => kt (fun q => h (congrArg some q)) H locs ls M S L) (fun h => kf (Option.some.inj h) H locs ls M S L)
theorem r_eq {ad' : Nm} {μ' : Ce} {st' : List Value} (h1 : ad = ad') (h2 : μ = μ') (h3 : lv = lv') (h4 : st = st') (kk : WW g z nL n k ad' μ' pc lv' st') : WW g z nL n k ad μ pc lv st := by subst h1; subst h2; subst h3; subst h4; exact kk
theorem r_mu {μ' : Ce} (h : μ = μ') (kk : WW g z nL n k ad μ' pc lv st) : WW g z nL n k ad μ pc lv st := by subst h; exact kk
theorem r_lv (ps : List Nat) (h : lv_pick lv ps = lv') (kk : WW g z nL n k ad μ pc lv' st) : WW g z nL n k ad μ pc lv st := fun H locs ls M S L => kk H locs ls M S (lv_sub L ps h)
theorem r_wide {n' k' : Nat} (h1 : n ≤ n') (h2 : k ≤ k') (kk : WW g z nL n' k' ad μ pc lv st) : WW g z nL n k ad μ pc lv st := fun H locs ls M S L => W.widen h1 h2 (kk H locs ls M S L)
end ZR
end
section
/-! ROWS of memory, calls, ends, throws -/
def FdZ (own : String) (index ci fk : Nat) (ft : FieldType) (fin : Bool) : Prop := ∃ (C : String) (T : u_T) (N : Nat) (ty : Nat → FieldType) (ref : String), vwCl[ci]? = some (C, T, N) ∧ fk < N ∧ (∀ w ∈ u_ws C T N, w ∈ WALL) ∧ Cond.fieldLink own index ref (T fk).2.1 (T fk).2.2.1 ∈ WALL ∧ (ref = (T fk).1 ∨ Cond.sameField ref (T fk).1 (T fk).2.1 (T fk).2.2.1 ∈ WALL) ∧ (∀ k, k < N → parseFieldDescriptor (T k).2.2.1 = some (ty k)) ∧ (∀ a, a < N → ∀ b, b < N → a ≠ b → (T a).2.1 ≠ (T b).2.1) ∧ ty fk = ft ∧ (T fk).2.2.2 = fin
theorem cA_eq {s : State} {c1 c2 : ClassId} {ty : FieldType} (h1 : va_RA s c1 ty) (h2 : va_RA s c2 ty) : c1 = c2 := by
  cases ty with
  | object C =>
    obtain ⟨-, -, -, -, -, a1⟩ := h1
    obtain ⟨-, -, -, -, -, a2⟩ := h2
    exact Option.some.inj (a1.symm.trans a2)
  | _ => exact Option.some.inj (h1.symm.trans h2)
theorem Hv.kept {z : Zx} {ad : Nm} {μ : Ce} {H H1 : Heap} (h : Hv z ad μ H) (hq : ∀ q : Nat, q < H.size → H1[q]? = H[q]?) : Hv z ad μ H1 := ⟨fun k i e he => ⟨(h.1 k i e he).1.kept (hq _ (h.lt he)), (h.1 k i e he).2⟩, h.2⟩
theorem koBlind {z : Zx} {as : List Value} {ad : Nm} {μ : Ce} : FrameBlind (va_Pc as (fun U => Ev z U ∧ Hv z ad μ U.heap)) := fun _ _ _ _ q => ⟨q.1, q.2.1.calling, q.2.2⟩
section ZM
variable {g : Gx} {z : Zx} {cc : ByteArray} {nL : Nat} {y0 : MethodName} {ret : Option FieldType} {tb : List ExceptionTableEntry} {lev mc ms : Nat} {ad0 ad : Nm} {μ0 μ : Ce} {ok : OkT} {ex : String → Prop} {n k pc : Nat} {lv lv' : Lv} {st : List Value}
theorem kE (K : Kn g z cc nL y0 ret tb lev mc ms ad0 μ0 ok ex) : Ev z (gs g) := K.2.1
theorem kK (K : Kn g z cc nL y0 ret tb lev mc ms ad0 μ0 ok ex) : va_K z.1.1 vwCl (tysZ z) (gs g) := K.2.1.1
theorem kR (K : Kn g z cc nL y0 ret tb lev mc ms ad0 μ0 ok ex) : gR g = rmK lev mc ms := K.2.2.2.2.2.1
theorem kQ (K : Kn g z cc nL y0 ret tb lev mc ms ad0 μ0 ok ex) : gQ g = vx_MQ (gb g) (okQ z ok) (exQ z ex ad0 μ0) (ga g) (gs g) mc ms (zA z) := K.2.2.2.2.2.2.2
theorem kA (K : Kn g z cc nL y0 ret tb lev mc ms ad0 μ0 ok ex) : ∀ q, (gs g).heap.size ≤ q → zA z q := fun q h => Nat.le_trans K.2.1.2.2.2.2.2.2.2.2.2 h
theorem kW (K : Kn g z cc nL y0 ret tb lev mc ms ad0 μ0 ok ex) {w : Cond} (h : w ∈ WALL) : w.before (ga g) (gs g) = true := K.1.2.2.2.2 w h
theorem kw' {w : Cond} (hw : ∀ w ∈ WALL, w.before (ga g) (gs g) = true) (C : String) (T : u_T) (N : Nat) (h : ∀ w ∈ u_ws C T N, w ∈ WALL) (hh : w ∈ u_ws C T N) : w.before (ga g) (gs g) = true := hw w (h w hh)
/-- a field read -/
theorem r_get (K : Kn g z cc nL y0 ret tb lev mc ms ad0 μ0 ok ex) {a ki ii ci fk index : Nat} {fs : List Value} {ft : FieldType} {fin : Bool} {v : Value} (F : FdZ y0.cls index ci fk ft fin) (hμ : μ ki ii = some (.inr (ci, fs))) (ha : ad ki ii = a) (hv : fs[fk]? = some v) (hdg : decode cc pc = .ok (.getfield index, 3))
    (kk : WW g z nL n k ad μ (pc + 3) lv (v :: st)) : WW g z nL n k ad μ pc lv (.ref a :: st) := by
  intro H locs ls M S L
  subst ha
  obtain ⟨C, T, N, ty, ref, f1, f2, f3, f4, f5, -⟩ := F
  refine va_get (cc := cc) K.1.1 K.1.2.1 (own := y0.cls) (ref := ref) (C := C) (T := T) (N := N) (ci := ci) (index := index) (Ts := WALL) K.1.2.2.2.2 f3 K.1.2.2.2.1 (kK K) (M.one hμ) 0 rfl f1 fk f2 (kW K f4) ?_ hv hdg (kk H locs ls M S L)
  rcases f5 with rfl | h
  · exact fun _ q => q
  · exact u_same (kW K h)
/-- a field written -/
theorem r_put (K : Kn g z cc nL y0 ret tb lev mc ms ad0 μ0 ok ex) {a ki ii ci fk index : Nat} {fs fs' : List Value} {ft : FieldType} {v : Value} (F : FdZ y0.cls index ci fk ft false) (hμ : μ ki ii = some (.inr (ci, fs))) (ha : ad ki ii = a) (hn : narrow ft v = v) (hfit : fits ft v = true) (hl : fk < fs.length) (hfs : fs.set fk v = fs') (hdg : decode cc pc = .ok (.putfield index, 3))
    (kk : WW g z nL n k ad (up2 μ ki ii (.inr (ci, fs'))) (pc + 3) lv st) : WW g z nL n k ad μ pc lv (v :: .ref a :: st) := by
  intro H locs ls M S L
  subst ha; subst hfs
  obtain ⟨C, T, N, ty, ref, f1, f2, f3, f4, f5, f6, f7, f8, f9⟩ := F
  obtain ⟨ws, hP, hD, hcov, -⟩ := M.list
  obtain ⟨q0, hq0⟩ := hcov ki ii _ hμ
  refine va_put (cc := cc) K.1.1 K.1.2.1 (own := y0.cls) (ref := ref) (C := C) (T := T) (N := N) (ci := ci) (index := index) (Ts := WALL) K.1.2.2.2.2 f3 ty f6 f7 K.1.2.2.2.1 (kK K) hP hD S q0 hq0 f1 fk f2 (kW K f4) ?_ f9 (by rw [f6 fk f2, f8]) hn hfit hl hdg (fun H1 locs1 hP1 _ hS1 => kk H1 locs1 ls (M.back hcov hμ hq0 hP1) hS1 L)
  rcases f5 with rfl | h
  · exact fun _ q => q
  · exact u_same (kW K h)
/-- a final field written, in a constructor -/
theorem r_putF (K : Kn g z cc nL y0 ret tb lev mc ms ad0 μ0 ok ex) {a ki ii ci fk index : Nat} {fs fs' : List Value} {ft : FieldType} {v : Value} (F : FdZ y0.cls index ci fk ft true) (hin : y0.name = "<init>") (hown : ∀ C T N, vwCl[ci]? = some (C, T, N) → (T fk).1 = y0.cls) (hμ : μ ki ii = some (.inr (ci, fs))) (ha : ad ki ii = a) (hn : narrow ft v = v) (hfit : fits ft v = true) (hl : fk < fs.length) (hfs : fs.set fk v = fs') (hdg : decode cc pc = .ok (.putfield index, 3))
    (kk : WW g z nL n k ad (up2 μ ki ii (.inr (ci, fs'))) (pc + 3) lv st) : WW g z nL n k ad μ pc lv (v :: .ref a :: st) := by
  intro H locs ls M S L
  subst ha; subst hfs
  obtain ⟨C, T, N, ty, ref, f1, f2, f3, f4, f5, f6, f7, f8, f9⟩ := F
  obtain ⟨ws, hP, hD, hcov, -⟩ := M.list
  obtain ⟨q0, hq0⟩ := hcov ki ii _ hμ
  refine va_putF (cc := cc) K.1.1 K.1.2.1 (own := y0.cls) (ref := ref) (C := C) (T := T) (N := N) (ci := ci) (index := index) (Ts := WALL) K.1.2.2.2.2 f3 ty f6 f7 K.1.2.2.2.1 (kK K) hP hD S q0 hq0 f1 fk f2 (kW K f4) ?_ f9 (K.2.2.2.2.1.2.trans hin) (hown C T N f1) (by rw [f6 fk f2, f8]) hn hfit hl hdg (fun H1 locs1 hP1 _ hS1 => kk H1 locs1 ls (M.back hcov hμ hq0 hP1) hS1 L)
  rcases f5 with rfl | h
  · exact fun _ q => q
  · exact u_same (kW K h)
theorem r_iald (K : Kn g z cc nL y0 ret tb lev mc ms ad0 μ0 ok ex) {a ki ii len j : Nat} {f : Nat → Int32} {x : Int32} {v : Int32} (hμ : μ ki ii = some (aI z len f)) (ha : ad ki ii = a) (hx : x = nI j) (hj : j < len) (hlen : len < 2 ^ 31) (hv : f j = v) (hdg : decode cc pc = .ok (.iaload, 1)) (kk : WW g z nL n k ad μ (pc + 1) lv (.int v :: st)) : WW g z nL n k ad μ pc lv (.int x :: .ref a :: st) := by
  intro H locs ls M S L
  subst ha; subst hv; subst hx
  refine va_iald K.1.1 K.1.2.1 (kK K) (M.one hμ) 0 0 rfl rfl (vp_in_nI hj hlen) hdg ?_
  rw [nI_clamp (by omega)]
  exact kk H locs ls M S L
theorem r_zald (K : Kn g z cc nL y0 ret tb lev mc ms ad0 μ0 ok ex) {a ki ii len j : Nat} {f : Nat → Int32} {x : Int32} {v : Int32} (hμ : μ ki ii = some (aZ z len f)) (ha : ad ki ii = a) (hx : x = nI j) (hj : j < len) (hlen : len < 2 ^ 31) (hv : f j = v) (hdg : decode cc pc = .ok (.baload, 1)) (kk : WW g z nL n k ad μ (pc + 1) lv (.int v :: st)) : WW g z nL n k ad μ pc lv (.int x :: .ref a :: st) := by
  intro H locs ls M S L
  subst ha; subst hv; subst hx
  refine va_zald K.1.1 K.1.2.1 (kK K) (M.one hμ) 0 1 rfl rfl (vp_in_nI hj hlen) hdg ?_
  rw [nI_clamp (by omega)]
  exact kk H locs ls M S L
theorem r_bald (K : Kn g z cc nL y0 ret tb lev mc ms ad0 μ0 ok ex) {a ki ii len j : Nat} {f : Nat → Int32} {x : Int32} {v : Int32} (hμ : μ ki ii = some (aB z len f)) (ha : ad ki ii = a) (hx : x = nI j) (hj : j < len) (hlen : len < 2 ^ 31) (hv : f j = v) (hdg : decode cc pc = .ok (.baload, 1)) (kk : WW g z nL n k ad μ (pc + 1) lv (.int v :: st)) : WW g z nL n k ad μ pc lv (.int x :: .ref a :: st) := by
  intro H locs ls M S L
  subst ha; subst hv; subst hx
  refine va_bald K.1.1 K.1.2.1 (kK K) (M.one hμ) 0 2 rfl rfl (vp_in_nI hj hlen) hdg ?_
  rw [nI_clamp (by omega)]
  exact kk H locs ls M S L
theorem r_cald (K : Kn g z cc nL y0 ret tb lev mc ms ad0 μ0 ok ex) {a ki ii len j : Nat} {f : Nat → Int32} {x : Int32} {v : Int32} (hμ : μ ki ii = some (aC z len f)) (ha : ad ki ii = a) (hx : x = nI j) (hj : j < len) (hlen : len < 2 ^ 31) (hv : f j = v) (hdg : decode cc pc = .ok (.caload, 1)) (kk : WW g z nL n k ad μ (pc + 1) lv (.int v :: st)) : WW g z nL n k ad μ pc lv (.int x :: .ref a :: st) := by
  intro H locs ls M S L
  subst ha; subst hv; subst hx
  refine va_cald K.1.1 K.1.2.1 (kK K) (M.one hμ) 0 5 rfl rfl (vp_in_nI hj hlen) hdg ?_
  rw [nI_clamp (by omega)]
  exact kk H locs ls M S L
theorem r_lald (K : Kn g z cc nL y0 ret tb lev mc ms ad0 μ0 ok ex) {a ki ii len j : Nat} {f : Nat → Int64} {x : Int32} {v : Int64} (hμ : μ ki ii = some (aJ z len f)) (ha : ad ki ii = a) (hx : x = nI j) (hj : j < len) (hlen : len < 2 ^ 31) (hv : f j = v) (hdg : decode cc pc = .ok (.laload, 1)) (kk : WW g z nL n k ad μ (pc + 1) lv (.long v :: st)) : WW g z nL n k ad μ pc lv (.int x :: .ref a :: st) := by
  intro H locs ls M S L
  subst ha; subst hv; subst hx
  refine va_lald K.1.1 K.1.2.1 (kK K) (M.one hμ) 0 3 rfl rfl (vp_in_nI hj hlen) hdg ?_
  rw [nI_clamp (by omega)]
  exact kk H locs ls M S L
theorem r_dald (K : Kn g z cc nL y0 ret tb lev mc ms ad0 μ0 ok ex) {a ki ii len j : Nat} {f : Nat → UInt64} {x : Int32} {v : UInt64} (hμ : μ ki ii = some (aD z len f)) (ha : ad ki ii = a) (hx : x = nI j) (hj : j < len) (hlen : len < 2 ^ 31) (hv : f j = v) (hdg : decode cc pc = .ok (.daload, 1)) (kk : WW g z nL n k ad μ (pc + 1) lv (.double v :: st)) : WW g z nL n k ad μ pc lv (.int x :: .ref a :: st) := by
  intro H locs ls M S L
  subst ha; subst hv; subst hx
  refine va_dald K.1.1 K.1.2.1 (kK K) (M.one hμ) 0 4 rfl rfl (vp_in_nI hj hlen) hdg ?_
  rw [nI_clamp (by omega)]
  exact kk H locs ls M S L
theorem r_iast (K : Kn g z cc nL y0 ret tb lev mc ms ad0 μ0 ok ex) {a ki ii len j : Nat} {f f' : Nat → Int32} {i : Int32} {x : Int32} (hμ : μ ki ii = some (aI z len f)) (ha : ad ki ii = a) (hx : i = nI j) (hj : j < len) (hlen : len < 2 ^ 31) (hf : upd f j x = f') (hdg : decode cc pc = .ok (.iastore, 1)) (kk : WW g z nL n k ad (up2 μ ki ii (aI z len f')) (pc + 1) lv st) : WW g z nL n k ad μ pc lv (.int x :: .int i :: .ref a :: st) := by
  intro H locs ls M S L
  subst ha; subst hf; subst hx
  obtain ⟨ws, hP, hD, hcov, -⟩ := M.list
  obtain ⟨q0, hq0⟩ := hcov ki ii _ hμ
  refine va_iast K.1.1 K.1.2.1 (kK K) hP hD S q0 0 hq0 rfl (vp_in_nI hj hlen) hdg (fun H1 locs1 hP1 _ hS1 => ?_)
  rw [nI_clamp (by omega)] at hP1
  exact kk H1 locs1 ls (M.back hcov hμ hq0 hP1) hS1 L
theorem r_zast (K : Kn g z cc nL y0 ret tb lev mc ms ad0 μ0 ok ex) {a ki ii len j : Nat} {f f' : Nat → Int32} {i : Int32} {x : Int32} (hμ : μ ki ii = some (aZ z len f)) (ha : ad ki ii = a) (hx : i = nI j) (hj : j < len) (hlen : len < 2 ^ 31) (hf : upd f j (vp_nar .boolean x) = f') (hdg : decode cc pc = .ok (.bastore, 1)) (kk : WW g z nL n k ad (up2 μ ki ii (aZ z len f')) (pc + 1) lv st) : WW g z nL n k ad μ pc lv (.int x :: .int i :: .ref a :: st) := by
  intro H locs ls M S L
  subst ha; subst hf; subst hx
  obtain ⟨ws, hP, hD, hcov, -⟩ := M.list
  obtain ⟨q0, hq0⟩ := hcov ki ii _ hμ
  refine va_zast K.1.1 K.1.2.1 (kK K) hP hD S q0 1 hq0 rfl (vp_in_nI hj hlen) hdg (fun H1 locs1 hP1 _ hS1 => ?_)
  rw [nI_clamp (by omega)] at hP1
  exact kk H1 locs1 ls (M.back hcov hμ hq0 hP1) hS1 L
theorem r_bast (K : Kn g z cc nL y0 ret tb lev mc ms ad0 μ0 ok ex) {a ki ii len j : Nat} {f f' : Nat → Int32} {i : Int32} {x : Int32} (hμ : μ ki ii = some (aB z len f)) (ha : ad ki ii = a) (hx : i = nI j) (hj : j < len) (hlen : len < 2 ^ 31) (hf : upd f j (vp_nar .byte x) = f') (hdg : decode cc pc = .ok (.bastore, 1)) (kk : WW g z nL n k ad (up2 μ ki ii (aB z len f')) (pc + 1) lv st) : WW g z nL n k ad μ pc lv (.int x :: .int i :: .ref a :: st) := by
  intro H locs ls M S L
  subst ha; subst hf; subst hx
  obtain ⟨ws, hP, hD, hcov, -⟩ := M.list
  obtain ⟨q0, hq0⟩ := hcov ki ii _ hμ
  refine va_bast K.1.1 K.1.2.1 (kK K) hP hD S q0 2 hq0 rfl (vp_in_nI hj hlen) hdg (fun H1 locs1 hP1 _ hS1 => ?_)
  rw [nI_clamp (by omega)] at hP1
  exact kk H1 locs1 ls (M.back hcov hμ hq0 hP1) hS1 L
theorem r_cast (K : Kn g z cc nL y0 ret tb lev mc ms ad0 μ0 ok ex) {a ki ii len j : Nat} {f f' : Nat → Int32} {i : Int32} {x : Int32} (hμ : μ ki ii = some (aC z len f)) (ha : ad ki ii = a) (hx : i = nI j) (hj : j < len) (hlen : len < 2 ^ 31) (hf : upd f j (vp_nar .char x) = f') (hdg : decode cc pc = .ok (.castore, 1)) (kk : WW g z nL n k ad (up2 μ ki ii (aC z len f')) (pc + 1) lv st) : WW g z nL n k ad μ pc lv (.int x :: .int i :: .ref a :: st) := by
  intro H locs ls M S L
  subst ha; subst hf; subst hx
  obtain ⟨ws, hP, hD, hcov, -⟩ := M.list
  obtain ⟨q0, hq0⟩ := hcov ki ii _ hμ
  refine va_cast K.1.1 K.1.2.1 (kK K) hP hD S q0 5 hq0 rfl (vp_in_nI hj hlen) hdg (fun H1 locs1 hP1 _ hS1 => ?_)
  rw [nI_clamp (by omega)] at hP1
  exact kk H1 locs1 ls (M.back hcov hμ hq0 hP1) hS1 L
theorem r_last (K : Kn g z cc nL y0 ret tb lev mc ms ad0 μ0 ok ex) {a ki ii len j : Nat} {f f' : Nat → Int64} {i : Int32} {x : Int64} (hμ : μ ki ii = some (aJ z len f)) (ha : ad ki ii = a) (hx : i = nI j) (hj : j < len) (hlen : len < 2 ^ 31) (hf : vp_updL f j x = f') (hdg : decode cc pc = .ok (.lastore, 1)) (kk : WW g z nL n k ad (up2 μ ki ii (aJ z len f')) (pc + 1) lv st) : WW g z nL n k ad μ pc lv (.long x :: .int i :: .ref a :: st) := by
  intro H locs ls M S L
  subst ha; subst hf; subst hx
  obtain ⟨ws, hP, hD, hcov, -⟩ := M.list
  obtain ⟨q0, hq0⟩ := hcov ki ii _ hμ
  refine va_last K.1.1 K.1.2.1 (kK K) hP hD S q0 3 hq0 rfl (vp_in_nI hj hlen) hdg (fun H1 locs1 hP1 _ hS1 => ?_)
  rw [nI_clamp (by omega)] at hP1
  exact kk H1 locs1 ls (M.back hcov hμ hq0 hP1) hS1 L
theorem r_dast (K : Kn g z cc nL y0 ret tb lev mc ms ad0 μ0 ok ex) {a ki ii len j : Nat} {f f' : Nat → UInt64} {i : Int32} {x : UInt64} (hμ : μ ki ii = some (aD z len f)) (ha : ad ki ii = a) (hx : i = nI j) (hj : j < len) (hlen : len < 2 ^ 31) (hf : vf_upd f j x = f') (hdg : decode cc pc = .ok (.dastore, 1)) (kk : WW g z nL n k ad (up2 μ ki ii (aD z len f')) (pc + 1) lv st) : WW g z nL n k ad μ pc lv (.double x :: .int i :: .ref a :: st) := by
  intro H locs ls M S L
  subst ha; subst hf; subst hx
  obtain ⟨ws, hP, hD, hcov, -⟩ := M.list
  obtain ⟨q0, hq0⟩ := hcov ki ii _ hμ
  refine va_dast K.1.1 K.1.2.1 (kK K) hP hD S q0 4 hq0 rfl (vp_in_nI hj hlen) hdg (fun H1 locs1 hP1 _ hS1 => ?_)
  rw [nI_clamp (by omega)] at hP1
  exact kk H1 locs1 ls (M.back hcov hμ hq0 hP1) hS1 L
theorem r_aald (K : Kn g z cc nL y0 ret tb lev mc ms ad0 μ0 ok ex) {a ki ii len j q : Nat} {f : Nat → Option Nat} {x : Int32} (hμ : μ ki ii = some (aO z len f)) (ha : ad ki ii = a) (hx : x = nI j) (hj : j < len) (hlen : len < 2 ^ 31) (hv : f j = some q) (hdg : decode cc pc = .ok (.aaload, 1)) (kk : WW g z nL n k ad μ (pc + 1) lv (.ref q :: st)) : WW g z nL n k ad μ pc lv (.int x :: .ref a :: st) := by
  intro H locs ls M S L
  subst ha; subst hx
  refine va_aldq K.1.1 K.1.2.1 (kK K) (M.one hμ) 0 6 rfl rfl (vp_in_nI hj hlen) hdg ?_
  rw [nI_clamp (by omega), hv]
  exact kk H locs ls M S L
theorem r_aast (K : Kn g z cc nL y0 ret tb lev mc ms ad0 μ0 ok ex) {a ki ii kv iv ci len j q : Nat} {f f' : Nat → Option Nat} {vs : List Value} {i : Int32} (hμ : μ ki ii = some (aO z len f)) (ha : ad ki ii = a) (hx : i = nI j) (hj : j < len) (hlen : len < 2 ^ 31) (hμv : μ kv iv = some (.inr (ci, vs))) (hav : ad kv iv = q) (hca : ∀ r : vw_C, vwCl[ci]? = some r → Cond.castable r.1 "java/lang/Object" ∈ WALL) (hf : va_up f j (some q) = f') (hdg : decode cc pc = .ok (.aastore, 1)) (kk : WW g z nL n k ad (up2 μ ki ii (aO z len f')) (pc + 1) lv st) : WW g z nL n k ad μ pc lv (.ref q :: .int i :: .ref a :: st) := by
  intro H locs ls M S L
  subst ha; subst hf; subst hx; subst hav
  obtain ⟨ws, hP, hD, hcov, -⟩ := M.list
  obtain ⟨q0, hq0⟩ := hcov ki ii _ hμ
  obtain ⟨q1, hq1⟩ := hcov kv iv _ hμv
  obtain ⟨r, hr, -⟩ := (M.1 kv iv _ hμv).1
  refine va_astqO (E := "java/lang/Object") (ci := ci) K.1.1 K.1.2.1 (kK K) hP hD S q0 6 q1 hq0 rfl (va_any rfl (kW K (hca r hr))) hq1 hr (vp_in_nI hj hlen) hdg (fun H1 locs1 hP1 _ hS1 => ?_)
  rw [nI_clamp (by omega)] at hP1
  exact kk H1 locs1 ls (M.back hcov hμ hq0 hP1) hS1 L
theorem r_aastN (K : Kn g z cc nL y0 ret tb lev mc ms ad0 μ0 ok ex) {a ki ii len j : Nat} {f f' : Nat → Option Nat} {i : Int32} (hμ : μ ki ii = some (aO z len f)) (ha : ad ki ii = a) (hx : i = nI j) (hj : j < len) (hlen : len < 2 ^ 31) (hf : va_up f j none = f') (hdg : decode cc pc = .ok (.aastore, 1)) (kk : WW g z nL n k ad (up2 μ ki ii (aO z len f')) (pc + 1) lv st) : WW g z nL n k ad μ pc lv (.null :: .int i :: .ref a :: st) := by
  intro H locs ls M S L
  subst ha; subst hf; subst hx
  obtain ⟨ws, hP, hD, hcov, -⟩ := M.list
  obtain ⟨q0, hq0⟩ := hcov ki ii _ hμ
  refine va_astqN K.1.1 K.1.2.1 (kK K) hP hD S q0 6 hq0 rfl (vp_in_nI hj hlen) hdg (fun H1 locs1 hP1 _ hS1 => ?_)
  rw [nI_clamp (by omega)] at hP1
  exact kk H1 locs1 ls (M.back hcov hμ hq0 hP1) hS1 L
theorem r_alenI (K : Kn g z cc nL y0 ret tb lev mc ms ad0 μ0 ok ex) {a ki ii len : Nat} {f : Nat → Int32} (hμ : μ ki ii = some (aI z len f)) (ha : ad ki ii = a) (hdg : decode cc pc = .ok (.arraylength, 1)) (kk : WW g z nL n k ad μ (pc + 1) lv (.int (nI len) :: st)) : WW g z nL n k ad μ pc lv (.ref a :: st) := by
  intro H locs ls M S L
  subst ha
  exact va_alen K.1.1 K.1.2.1 (kK K) (M.one hμ) 0 0 rfl rfl rfl hdg (kk H locs ls M S L)
theorem r_alenB (K : Kn g z cc nL y0 ret tb lev mc ms ad0 μ0 ok ex) {a ki ii len : Nat} {f : Nat → Int32} (hμ : μ ki ii = some (aB z len f)) (ha : ad ki ii = a) (hdg : decode cc pc = .ok (.arraylength, 1)) (kk : WW g z nL n k ad μ (pc + 1) lv (.int (nI len) :: st)) : WW g z nL n k ad μ pc lv (.ref a :: st) := by
  intro H locs ls M S L
  subst ha
  exact va_alen K.1.1 K.1.2.1 (kK K) (M.one hμ) 0 2 rfl rfl rfl hdg (kk H locs ls M S L)
theorem r_alenO (K : Kn g z cc nL y0 ret tb lev mc ms ad0 μ0 ok ex) {a ki ii len : Nat} {f : Nat → Option Nat} (hμ : μ ki ii = some (aO z len f)) (ha : ad ki ii = a) (hdg : decode cc pc = .ok (.arraylength, 1)) (kk : WW g z nL n k ad μ (pc + 1) lv (.int (nI len) :: st)) : WW g z nL n k ad μ pc lv (.ref a :: st) := by
  intro H locs ls M S L
  subst ha
  exact va_alen K.1.1 K.1.2.1 (kK K) (M.one hμ) 0 6 rfl rfl rfl hdg (kk H locs ls M S L)
theorem r_newaI (K : Kn g z cc nL y0 ret tb lev mc ms ad0 μ0 ok ex) {x : Int32} {len : Nat} (ki ii : Nat) (hμ : μ ki ii = none) (hw : Cond.arrayClass .int ∈ WALL) (hx : x = nI len) (hlen : len ≤ 65536) (hc : n + 1 ≤ mc) (hs : k + len ≤ ms) (hdg : decode cc pc = .ok (.newarray .int, 2)) (kk : ∀ q : Nat, WW g z nL (n + 1) (k + len) (nmu ad ki ii q) (up2 μ ki ii (aI z len (fun _ => 0))) (pc + 2) lv (.ref q :: st)) : WW g z nL n k ad μ pc lv (.int x :: st) := by
  intro H locs ls M S L
  subst hx
  obtain ⟨ws, hP, hD, hcov, -⟩ := M.list
  refine va_newa (atype := .int) (ty := .int) (a0 := (len, .inl (fun _ => 0))) K.1.1 K.1.2.1 (kW K hw) rfl (kK K) hP hD S (kA K) (fun cA => rfl) (nI_pos (by omega)) (nI_clamp (by omega)) (by simp only [componentBytes]; omega) (by rw [kR K]; exact hc) (by rw [kR K]; exact hs) hdg (fun q cA H1 hK1 hP1 hD1 hS1 => ?_)
  have e1 : cA = z.1.2 0 := cA_eq (hK1.2 7 (cA, .int) rfl).2 (hK1.2 0 (z.1.2 0, .int) rfl).2
  subst e1
  exact kk q H1 locs ls (M.push hcov hμ hP1 hD1) hS1 L
theorem r_newaZ (K : Kn g z cc nL y0 ret tb lev mc ms ad0 μ0 ok ex) {x : Int32} {len : Nat} (ki ii : Nat) (hμ : μ ki ii = none) (hw : Cond.arrayClass .boolean ∈ WALL) (hx : x = nI len) (hlen : len ≤ 65536) (hc : n + 1 ≤ mc) (hs : k + len ≤ ms) (hdg : decode cc pc = .ok (.newarray .boolean, 2)) (kk : ∀ q : Nat, WW g z nL (n + 1) (k + len) (nmu ad ki ii q) (up2 μ ki ii (aZ z len (fun _ => 0))) (pc + 2) lv (.ref q :: st)) : WW g z nL n k ad μ pc lv (.int x :: st) := by
  intro H locs ls M S L
  subst hx
  obtain ⟨ws, hP, hD, hcov, -⟩ := M.list
  refine va_newa (atype := .boolean) (ty := .boolean) (a0 := (len, .inl (fun _ => 0))) K.1.1 K.1.2.1 (kW K hw) rfl (kK K) hP hD S (kA K) (fun cA => rfl) (nI_pos (by omega)) (nI_clamp (by omega)) (by simp only [componentBytes]; omega) (by rw [kR K]; exact hc) (by rw [kR K]; exact hs) hdg (fun q cA H1 hK1 hP1 hD1 hS1 => ?_)
  have e1 : cA = z.1.2 1 := cA_eq (hK1.2 7 (cA, .boolean) rfl).2 (hK1.2 1 (z.1.2 1, .boolean) rfl).2
  subst e1
  exact kk q H1 locs ls (M.push hcov hμ hP1 hD1) hS1 L
theorem r_newaB (K : Kn g z cc nL y0 ret tb lev mc ms ad0 μ0 ok ex) {x : Int32} {len : Nat} (ki ii : Nat) (hμ : μ ki ii = none) (hw : Cond.arrayClass .byte ∈ WALL) (hx : x = nI len) (hlen : len ≤ 65536) (hc : n + 1 ≤ mc) (hs : k + len ≤ ms) (hdg : decode cc pc = .ok (.newarray .byte, 2)) (kk : ∀ q : Nat, WW g z nL (n + 1) (k + len) (nmu ad ki ii q) (up2 μ ki ii (aB z len (fun _ => 0))) (pc + 2) lv (.ref q :: st)) : WW g z nL n k ad μ pc lv (.int x :: st) := by
  intro H locs ls M S L
  subst hx
  obtain ⟨ws, hP, hD, hcov, -⟩ := M.list
  refine va_newa (atype := .byte) (ty := .byte) (a0 := (len, .inl (fun _ => 0))) K.1.1 K.1.2.1 (kW K hw) rfl (kK K) hP hD S (kA K) (fun cA => rfl) (nI_pos (by omega)) (nI_clamp (by omega)) (by simp only [componentBytes]; omega) (by rw [kR K]; exact hc) (by rw [kR K]; exact hs) hdg (fun q cA H1 hK1 hP1 hD1 hS1 => ?_)
  have e1 : cA = z.1.2 2 := cA_eq (hK1.2 7 (cA, .byte) rfl).2 (hK1.2 2 (z.1.2 2, .byte) rfl).2
  subst e1
  exact kk q H1 locs ls (M.push hcov hμ hP1 hD1) hS1 L
theorem r_newaJ (K : Kn g z cc nL y0 ret tb lev mc ms ad0 μ0 ok ex) {x : Int32} {len : Nat} (ki ii : Nat) (hμ : μ ki ii = none) (hw : Cond.arrayClass .long ∈ WALL) (hx : x = nI len) (hlen : len ≤ 65536) (hc : n + 1 ≤ mc) (hs : k + len ≤ ms) (hdg : decode cc pc = .ok (.newarray .long, 2)) (kk : ∀ q : Nat, WW g z nL (n + 1) (k + len) (nmu ad ki ii q) (up2 μ ki ii (aJ z len (fun _ => 0))) (pc + 2) lv (.ref q :: st)) : WW g z nL n k ad μ pc lv (.int x :: st) := by
  intro H locs ls M S L
  subst hx
  obtain ⟨ws, hP, hD, hcov, -⟩ := M.list
  refine va_newa (atype := .long) (ty := .long) (a0 := (len, .inr (.inl (fun _ => 0)))) K.1.1 K.1.2.1 (kW K hw) rfl (kK K) hP hD S (kA K) (fun cA => rfl) (nI_pos (by omega)) (nI_clamp (by omega)) (by simp only [componentBytes]; omega) (by rw [kR K]; exact hc) (by rw [kR K]; exact hs) hdg (fun q cA H1 hK1 hP1 hD1 hS1 => ?_)
  have e1 : cA = z.1.2 3 := cA_eq (hK1.2 7 (cA, .long) rfl).2 (hK1.2 3 (z.1.2 3, .long) rfl).2
  subst e1
  exact kk q H1 locs ls (M.push hcov hμ hP1 hD1) hS1 L
theorem r_newaD (K : Kn g z cc nL y0 ret tb lev mc ms ad0 μ0 ok ex) {x : Int32} {len : Nat} (ki ii : Nat) (hμ : μ ki ii = none) (hw : Cond.arrayClass .double ∈ WALL) (hx : x = nI len) (hlen : len ≤ 65536) (hc : n + 1 ≤ mc) (hs : k + len ≤ ms) (hdg : decode cc pc = .ok (.newarray .double, 2)) (kk : ∀ q : Nat, WW g z nL (n + 1) (k + len) (nmu ad ki ii q) (up2 μ ki ii (aD z len (fun _ => 0))) (pc + 2) lv (.ref q :: st)) : WW g z nL n k ad μ pc lv (.int x :: st) := by
  intro H locs ls M S L
  subst hx
  obtain ⟨ws, hP, hD, hcov, -⟩ := M.list
  refine va_newa (atype := .double) (ty := .double) (a0 := (len, .inr (.inr (.inr (.inl (fun _ => 0)))))) K.1.1 K.1.2.1 (kW K hw) rfl (kK K) hP hD S (kA K) (fun cA => rfl) (nI_pos (by omega)) (nI_clamp (by omega)) (by simp only [componentBytes]; omega) (by rw [kR K]; exact hc) (by rw [kR K]; exact hs) hdg (fun q cA H1 hK1 hP1 hD1 hS1 => ?_)
  have e1 : cA = z.1.2 4 := cA_eq (hK1.2 7 (cA, .double) rfl).2 (hK1.2 4 (z.1.2 4, .double) rfl).2
  subst e1
  exact kk q H1 locs ls (M.push hcov hμ hP1 hD1) hS1 L
theorem r_newaC (K : Kn g z cc nL y0 ret tb lev mc ms ad0 μ0 ok ex) {x : Int32} {len : Nat} (ki ii : Nat) (hμ : μ ki ii = none) (hw : Cond.arrayClass .char ∈ WALL) (hx : x = nI len) (hlen : len ≤ 65536) (hc : n + 1 ≤ mc) (hs : k + len ≤ ms) (hdg : decode cc pc = .ok (.newarray .char, 2)) (kk : ∀ q : Nat, WW g z nL (n + 1) (k + len) (nmu ad ki ii q) (up2 μ ki ii (aC z len (fun _ => 0))) (pc + 2) lv (.ref q :: st)) : WW g z nL n k ad μ pc lv (.int x :: st) := by
  intro H locs ls M S L
  subst hx
  obtain ⟨ws, hP, hD, hcov, -⟩ := M.list
  refine va_newa (atype := .char) (ty := .char) (a0 := (len, .inl (fun _ => 0))) K.1.1 K.1.2.1 (kW K hw) rfl (kK K) hP hD S (kA K) (fun cA => rfl) (nI_pos (by omega)) (nI_clamp (by omega)) (by simp only [componentBytes]; omega) (by rw [kR K]; exact hc) (by rw [kR K]; exact hs) hdg (fun q cA H1 hK1 hP1 hD1 hS1 => ?_)
  have e1 : cA = z.1.2 5 := cA_eq (hK1.2 7 (cA, .char) rfl).2 (hK1.2 5 (z.1.2 5, .char) rfl).2
  subst e1
  exact kk q H1 locs ls (M.push hcov hμ hP1 hD1) hS1 L
theorem r_newq (K : Kn g z cc nL y0 ret tb lev mc ms ad0 μ0 ok ex) {x : Int32} {len index : Nat} (ki ii : Nat) (hμ : μ ki ii = none) (hl : Cond.classLink y0.cls index "java/lang/Object" ∈ WALL) (hx : x = nI len) (hlen : len ≤ 65536) (hc : n + 1 ≤ mc) (hs : k + len ≤ ms) (hdg : decode cc pc = .ok (.anewarray index, 3)) (kk : ∀ q : Nat, WW g z nL (n + 1) (k + len) (nmu ad ki ii q) (up2 μ ki ii (aO z len (fun _ => none))) (pc + 3) lv (.ref q :: st)) : WW g z nL n k ad μ pc lv (.int x :: st) := by
  intro H locs ls M S L
  subst hx
  obtain ⟨ws, hP, hD, hcov, -⟩ := M.list
  refine va_newq (C := "java/lang/Object") K.1.1 K.1.2.1 K.1.2.2.2.1 (kW K hl) (kE K).2.2.2.2.2.2.2.2.1.2.2 (kK K) hP hD S (kA K) (nI_pos (by omega)) (nI_clamp (by omega)) (by omega) (by rw [kR K]; exact hc) (by rw [kR K]; exact hs) hdg (fun q cA H1 hK1 hP1 hD1 hS1 => ?_)
  have e1 : cA = z.1.2 6 := cA_eq (hK1.2 7 (cA, .object "java/lang/Object") rfl).2 (hK1.2 6 (z.1.2 6, .object "java/lang/Object") rfl).2
  subst e1
  exact kk q H1 locs ls (M.push hcov hμ hP1 hD1) hS1 L
/-- what 'new' needs of a class -/
def NwZ (own : String) (index ci N : Nat) (fs : List Value) : Prop := ∃ (C : String) (T : u_T) (ty : Nat → FieldType), vwCl[ci]? = some (C, T, N) ∧ (∀ w ∈ u_ws C T N, w ∈ WALL) ∧ (∀ k, k < N → parseFieldDescriptor (T k).2.2.1 = some (ty k)) ∧ (∀ j, j < N → defaultValue (ty j) = vp_V fs j) ∧ Cond.classLink own index C ∈ WALL ∧ Cond.instantiable C N ∈ WALL ∧ Cond.initialized C ∈ WALL
theorem r_new (K : Kn g z cc nL y0 ret tb lev mc ms ad0 μ0 ok ex) {index ci N : Nat} {fs : List Value} (ki ii : Nat) (F : NwZ y0.cls index ci N fs) (hμ : μ ki ii = none) (hc : n + 1 ≤ mc) (hs : k + N ≤ ms) (hdg : decode cc pc = .ok (.new index, 3)) (kk : ∀ q : Nat, WW g z nL (n + 1) (k + N) (nmu ad ki ii q) (up2 μ ki ii (.inr (ci, fs))) (pc + 3) lv (.ref q :: st)) : WW g z nL n k ad μ pc lv st := by
  intro H locs ls M S L
  obtain ⟨C, T, ty, f1, f2, f3, f4, f5, f6, f7⟩ := F
  obtain ⟨ws, hP, hD, hcov, -⟩ := M.list
  exact va_new (c0 := gc g) (cc := cc) K.1.1 K.1.2.1 (own := y0.cls) (C := C) (T := T) (N := N) (ci := ci) (index := index) (Ts := WALL) K.1.2.2.2.2 f2 ty f3 K.1.2.2.2.1 (kW K f5) (kW K f6) (kW K f7) (kK K) hP hD S (kA K) f1 f4 (by rw [kR K]; exact hc) (by rw [kR K]; exact hs) hdg (fun q H1 hP1 hD1 hS1 => kk q H1 locs ls (M.push hcov hμ hP1 hD1) hS1 L)
theorem r_castY (K : Kn g z cc nL y0 ret tb lev mc ms ad0 μ0 ok ex) {a ki ii ci index : Nat} {fs : List Value} {nm : String} (hl : Cond.classLink y0.cls index nm ∈ WALL) (hca : ∀ r : vw_C, vwCl[ci]? = some r → Cond.castable r.1 nm ∈ WALL) (hμ : μ ki ii = some (.inr (ci, fs))) (ha : ad ki ii = a) (hdg : decode cc pc = .ok (.checkcast index, 3)) (kk : WW g z nL n k ad μ (pc + 3) lv (.ref a :: st)) : WW g z nL n k ad μ pc lv (.ref a :: st) := by
  intro H locs ls M S L
  subst ha
  obtain ⟨r, hr, -⟩ := (M.1 ki ii _ hμ).1
  exact va_castY K.1.1 K.1.2.1 K.1.2.2.2.1 (kW K hl) (va_any rfl (kW K (hca r hr))) (va_recv (kK K) (M.one hμ) hr (q0 := 0) rfl) hdg (kk H locs ls M S L)
theorem r_gets (K : Kn g z cc nL y0 ret tb lev mc ms ad0 μ0 ok ex) {C nme d ref : String} {v : Value} {index : Nat} (hZ : va_Z C nme d v (zA z) (gs g) (gs g).heap) (hl : Cond.fieldLink y0.cls index C nme d ∈ WALL) (hdg : decode cc pc = .ok (.getstatic index, 3)) (kk : WW g z nL n k ad μ (pc + 3) lv (v :: st)) : WW g z nL n k ad μ pc lv st := fun H locs ls M S L => va_gets K.1.1 K.1.2.1 hZ S K.1.2.2.2.1 (kW K hl) (fun _ q => q) hdg (kk H locs ls M S L)
theorem r_objInit (K : Kn g z cc nL y0 ret tb lev mc ms ad0 μ0 ok ex) {a idx : Nat} (hl : Cond.methodLink y0.cls idx Lib.objectInit ∈ WALL) (h2 : Cond.instanceMethod Lib.objectInit ∈ WALL) (h3 : Cond.code Lib.objectInit ⟨#[0xb1]⟩ 1 none ∈ WALL) (hst : (st.map fun v => v.category).sum ≤ 8) (hdg : decode cc pc = .ok (.invokespecial idx, 3)) (kk : WW g z nL n k ad μ (pc + 3) lv st) : WW g z nL n k ad μ pc lv (.ref a :: st) := fun H locs ls M S L => W.objInit K.1.1 K.1.2.1 K.1.2.2.2.1 (kW K hl) (kW K h2) (kW K h3) rfl (by rw [K.1.2.2.1]; exact L.1) rfl hdg (by rw [kR K]; show 1 ≤ 12 + lev; omega) (by rw [kR K]; show 2 * 0 + _ + 12 ≤ 200 + 60 * lev; omega) (kk H locs ls M S L)
theorem r_mmin (K : Kn g z cc nL y0 ret tb lev mc ms ad0 μ0 ok ex) {x y : Int32} {v : Int32} {index : Nat} (hl : Cond.methodLink y0.cls index Lib.Math.min.name ∈ WALL) (h2 : Cond.static Lib.Math.min.name ∈ WALL) (h3 : Cond.initialized "java/lang/Math" ∈ WALL) (h4 : Cond.code Lib.Math.min.name Lib.Math.min.code 2 (some .int) ∈ WALL) (hst : (st.map fun v => v.category).sum ≤ 8) (hv : (if y < x then y else x) = v) (hdg : decode cc pc = .ok (.invokestatic index, 3)) (kk : WW g z nL n k ad μ (pc + 3) lv (.int v :: st)) : WW g z nL n k ad μ pc lv (.int y :: .int x :: st) := by
  sorry

end ZM
end
