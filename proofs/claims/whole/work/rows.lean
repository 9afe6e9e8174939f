section
-- ===== PART A: goes FIRST, ahead of the names: the tables' words, and 'selects' of the private methods out of them =====
/-- a private method of a class that the tables say can be made, by its rows of tables_1 -/
def lw_okq (q : MethodName × Nat) : Prop := (q.1.cls ≠ "java/lang/invoke/MethodHandle" ∧ q.1.cls ≠ "java/lang/invoke/VarHandle") ∧ Cond.instantiable q.1.cls q.2 ∈ tables_1 ∧ Cond.privateMethod q.1 ∈ tables_1 ∧ Cond.instanceMethod q.1 ∈ tables_1
theorem lw_p0 : lw_okq (⟨"StormBasin", "tryPastRain", "(II)I"⟩, 9) := ⟨⟨by decide +kernel, by decide +kernel⟩, List.mem_of_getElem? (i := 36) (by decide +kernel), List.mem_of_getElem? (i := 222) (by decide +kernel), List.mem_of_getElem? (i := 223) (by decide +kernel)⟩
theorem lw_p1 : lw_okq (⟨"StormBasin", "moveWater", "(LStormBasin$Water;III)V"⟩, 9) := ⟨⟨by decide +kernel, by decide +kernel⟩, List.mem_of_getElem? (i := 36) (by decide +kernel), List.mem_of_getElem? (i := 233) (by decide +kernel), List.mem_of_getElem? (i := 234) (by decide +kernel)⟩
theorem lw_p2 : lw_okq (⟨"StormBasin", "openingBy", "(LStormBasin$Water;I)I"⟩, 9) := ⟨⟨by decide +kernel, by decide +kernel⟩, List.mem_of_getElem? (i := 36) (by decide +kernel), List.mem_of_getElem? (i := 238) (by decide +kernel), List.mem_of_getElem? (i := 239) (by decide +kernel)⟩
theorem lw_p3 : lw_okq (⟨"StormBasin", "holdsBy", "(LStormBasin$Water;LStormBasin$Rule;)Z"⟩, 9) := ⟨⟨by decide +kernel, by decide +kernel⟩, List.mem_of_getElem? (i := 36) (by decide +kernel), List.mem_of_getElem? (i := 243) (by decide +kernel), List.mem_of_getElem? (i := 244) (by decide +kernel)⟩
theorem lw_p4 : lw_okq (⟨"StormBasin", "levelBy", "(LStormBasin$Water;I)I"⟩, 9) := ⟨⟨by decide +kernel, by decide +kernel⟩, List.mem_of_getElem? (i := 36) (by decide +kernel), List.mem_of_getElem? (i := 247) (by decide +kernel), List.mem_of_getElem? (i := 248) (by decide +kernel)⟩
theorem lw_p5 : lw_okq (⟨"StormBasin", "wetCellsBy", "(LStormBasin$Water;)I"⟩, 9) := ⟨⟨by decide +kernel, by decide +kernel⟩, List.mem_of_getElem? (i := 36) (by decide +kernel), List.mem_of_getElem? (i := 267) (by decide +kernel), List.mem_of_getElem? (i := 268) (by decide +kernel)⟩
theorem lw_p6 : lw_okq (⟨"java/lang/Throwable", "fillInStackTrace", "(I)Ljava/lang/Throwable;"⟩, 6) := ⟨⟨by decide +kernel, by decide +kernel⟩, List.mem_of_getElem? (i := 317) (by decide +kernel), List.mem_of_getElem? (i := 315) (by decide +kernel), List.mem_of_getElem? (i := 316) (by decide +kernel)⟩
theorem lw_p7 : lw_okq (⟨"StormBasin", "requireBeforeFirstHour", "()V"⟩, 9) := ⟨⟨by decide +kernel, by decide +kernel⟩, List.mem_of_getElem? (i := 36) (by decide +kernel), List.mem_of_getElem? (i := 420) (by decide +kernel), List.mem_of_getElem? (i := 421) (by decide +kernel)⟩
theorem lw_p8 : lw_okq (⟨"java/util/ArrayList", "add", "(Ljava/lang/Object;[Ljava/lang/Object;I)V"⟩, 3) := ⟨⟨by decide +kernel, by decide +kernel⟩, List.mem_of_getElem? (i := 44) (by decide +kernel), List.mem_of_getElem? (i := 489) (by decide +kernel), List.mem_of_getElem? (i := 490) (by decide +kernel)⟩
theorem lw_p9 : lw_okq (⟨"java/util/ArrayList", "grow", "()[Ljava/lang/Object;"⟩, 3) := ⟨⟨by decide +kernel, by decide +kernel⟩, List.mem_of_getElem? (i := 44) (by decide +kernel), List.mem_of_getElem? (i := 493) (by decide +kernel), List.mem_of_getElem? (i := 494) (by decide +kernel)⟩
theorem lw_p10 : lw_okq (⟨"java/util/ArrayList", "grow", "(I)[Ljava/lang/Object;"⟩, 3) := ⟨⟨by decide +kernel, by decide +kernel⟩, List.mem_of_getElem? (i := 44) (by decide +kernel), List.mem_of_getElem? (i := 497) (by decide +kernel), List.mem_of_getElem? (i := 498) (by decide +kernel)⟩
theorem lw_p11 : lw_okq (⟨"StormBasin", "basinOf", "(I)LStormBasin$Basin;"⟩, 9) := ⟨⟨by decide +kernel, by decide +kernel⟩, List.mem_of_getElem? (i := 36) (by decide +kernel), List.mem_of_getElem? (i := 555) (by decide +kernel), List.mem_of_getElem? (i := 556) (by decide +kernel)⟩
theorem lw_p12 : lw_okq (⟨"StormBasin", "requireBasin", "(I)V"⟩, 9) := ⟨⟨by decide +kernel, by decide +kernel⟩, List.mem_of_getElem? (i := 36) (by decide +kernel), List.mem_of_getElem? (i := 559) (by decide +kernel), List.mem_of_getElem? (i := 560) (by decide +kernel)⟩
theorem lw_p13 : lw_okq (⟨"StormBasin$Street", "volumeBefore", "(I)I"⟩, 5) := ⟨⟨by decide +kernel, by decide +kernel⟩, List.mem_of_getElem? (i := 430) (by decide +kernel), List.mem_of_getElem? (i := 569) (by decide +kernel), List.mem_of_getElem? (i := 570) (by decide +kernel)⟩
theorem lw_p14 : lw_okq (⟨"StormBasin$Street", "cellsAhead", "(II)I"⟩, 5) := ⟨⟨by decide +kernel, by decide +kernel⟩, List.mem_of_getElem? (i := 430) (by decide +kernel), List.mem_of_getElem? (i := 573) (by decide +kernel), List.mem_of_getElem? (i := 574) (by decide +kernel)⟩
theorem lw_p15 : lw_okq (⟨"StormBasin", "requireRule", "(I)V"⟩, 9) := ⟨⟨by decide +kernel, by decide +kernel⟩, List.mem_of_getElem? (i := 36) (by decide +kernel), List.mem_of_getElem? (i := 645) (by decide +kernel), List.mem_of_getElem? (i := 646) (by decide +kernel)⟩
def lw_privs_1 : List (MethodName × Nat) := [(⟨"StormBasin", "tryPastRain", "(II)I"⟩, 9), (⟨"StormBasin", "moveWater", "(LStormBasin$Water;III)V"⟩, 9), (⟨"StormBasin", "openingBy", "(LStormBasin$Water;I)I"⟩, 9), (⟨"StormBasin", "holdsBy", "(LStormBasin$Water;LStormBasin$Rule;)Z"⟩, 9), (⟨"StormBasin", "levelBy", "(LStormBasin$Water;I)I"⟩, 9), (⟨"StormBasin", "wetCellsBy", "(LStormBasin$Water;)I"⟩, 9), (⟨"java/lang/Throwable", "fillInStackTrace", "(I)Ljava/lang/Throwable;"⟩, 6), (⟨"StormBasin", "requireBeforeFirstHour", "()V"⟩, 9), (⟨"java/util/ArrayList", "add", "(Ljava/lang/Object;[Ljava/lang/Object;I)V"⟩, 3), (⟨"java/util/ArrayList", "grow", "()[Ljava/lang/Object;"⟩, 3), (⟨"java/util/ArrayList", "grow", "(I)[Ljava/lang/Object;"⟩, 3), (⟨"StormBasin", "basinOf", "(I)LStormBasin$Basin;"⟩, 9), (⟨"StormBasin", "requireBasin", "(I)V"⟩, 9), (⟨"StormBasin$Street", "volumeBefore", "(I)I"⟩, 5), (⟨"StormBasin$Street", "cellsAhead", "(II)I"⟩, 5), (⟨"StormBasin", "requireRule", "(I)V"⟩, 9)]
theorem lw_r1 : ∀ q ∈ lw_privs_1, lw_okq q := List.forall_mem_cons.mpr ⟨lw_p0, List.forall_mem_cons.mpr ⟨lw_p1, List.forall_mem_cons.mpr ⟨lw_p2, List.forall_mem_cons.mpr ⟨lw_p3, List.forall_mem_cons.mpr ⟨lw_p4, List.forall_mem_cons.mpr ⟨lw_p5, List.forall_mem_cons.mpr ⟨lw_p6, List.forall_mem_cons.mpr ⟨lw_p7, List.forall_mem_cons.mpr ⟨lw_p8, List.forall_mem_cons.mpr ⟨lw_p9, List.forall_mem_cons.mpr ⟨lw_p10, List.forall_mem_cons.mpr ⟨lw_p11, List.forall_mem_cons.mpr ⟨lw_p12, List.forall_mem_cons.mpr ⟨lw_p13, List.forall_mem_cons.mpr ⟨lw_p14, List.forall_mem_cons.mpr ⟨lw_p15, fun _ h => absurd h List.not_mem_nil⟩⟩⟩⟩⟩⟩⟩⟩⟩⟩⟩⟩⟩⟩⟩⟩
theorem lw_p16 : lw_okq (⟨"java/util/ArrayList", "fastRemove", "([Ljava/lang/Object;I)V"⟩, 3) := ⟨⟨by decide +kernel, by decide +kernel⟩, List.mem_of_getElem? (i := 44) (by decide +kernel), List.mem_of_getElem? (i := 654) (by decide +kernel), List.mem_of_getElem? (i := 655) (by decide +kernel)⟩
theorem lw_p17 : lw_okq (⟨"StormBasin", "passOneHour", "()V"⟩, 9) := ⟨⟨by decide +kernel, by decide +kernel⟩, List.mem_of_getElem? (i := 36) (by decide +kernel), List.mem_of_getElem? (i := 695) (by decide +kernel), List.mem_of_getElem? (i := 696) (by decide +kernel)⟩
theorem lw_p18 : lw_okq (⟨"StormBasin", "streetWith", "(II)LStormBasin$Street;"⟩, 9) := ⟨⟨by decide +kernel, by decide +kernel⟩, List.mem_of_getElem? (i := 36) (by decide +kernel), List.mem_of_getElem? (i := 727) (by decide +kernel), List.mem_of_getElem? (i := 728) (by decide +kernel)⟩
theorem lw_p19 : lw_okq (⟨"StormBasin$Street", "cellsUpTo", "(I)I"⟩, 5) := ⟨⟨by decide +kernel, by decide +kernel⟩, List.mem_of_getElem? (i := 430) (by decide +kernel), List.mem_of_getElem? (i := 736) (by decide +kernel), List.mem_of_getElem? (i := 737) (by decide +kernel)⟩
theorem lw_p20 : lw_okq (⟨"StormBasin$Street", "lowestCell", "()I"⟩, 5) := ⟨⟨by decide +kernel, by decide +kernel⟩, List.mem_of_getElem? (i := 430) (by decide +kernel), List.mem_of_getElem? (i := 752) (by decide +kernel), List.mem_of_getElem? (i := 753) (by decide +kernel)⟩
theorem lw_p21 : lw_okq (⟨"StormBasin", "requireHour", "(I)V"⟩, 9) := ⟨⟨by decide +kernel, by decide +kernel⟩, List.mem_of_getElem? (i := 36) (by decide +kernel), List.mem_of_getElem? (i := 763) (by decide +kernel), List.mem_of_getElem? (i := 764) (by decide +kernel)⟩
theorem lw_p22 : lw_okq (⟨"StormBasin", "houseOf", "(I)LStormBasin$House;"⟩, 9) := ⟨⟨by decide +kernel, by decide +kernel⟩, List.mem_of_getElem? (i := 36) (by decide +kernel), List.mem_of_getElem? (i := 830) (by decide +kernel), List.mem_of_getElem? (i := 831) (by decide +kernel)⟩
theorem lw_p23 : lw_okq (⟨"StormBasinModel", "isNone", "(I)Z"⟩, 38) := ⟨⟨by decide +kernel, by decide +kernel⟩, List.mem_of_getElem? (i := 1253) (by decide +kernel), List.mem_of_getElem? (i := 1383) (by decide +kernel), List.mem_of_getElem? (i := 1384) (by decide +kernel)⟩
theorem lw_p24 : lw_okq (⟨"StormBasinModel", "fails", "(I)Z"⟩, 38) := ⟨⟨by decide +kernel, by decide +kernel⟩, List.mem_of_getElem? (i := 1253) (by decide +kernel), List.mem_of_getElem? (i := 1390) (by decide +kernel), List.mem_of_getElem? (i := 1391) (by decide +kernel)⟩
theorem lw_p25 : lw_okq (⟨"StormBasinModel", "tells", "(I)I"⟩, 38) := ⟨⟨by decide +kernel, by decide +kernel⟩, List.mem_of_getElem? (i := 1253) (by decide +kernel), List.mem_of_getElem? (i := 1402) (by decide +kernel), List.mem_of_getElem? (i := 1403) (by decide +kernel)⟩
theorem lw_p26 : lw_okq (⟨"StormBasinModel", "holds", "(I)I"⟩, 38) := ⟨⟨by decide +kernel, by decide +kernel⟩, List.mem_of_getElem? (i := 1253) (by decide +kernel), List.mem_of_getElem? (i := 1414) (by decide +kernel), List.mem_of_getElem? (i := 1415) (by decide +kernel)⟩
theorem lw_p27 : lw_okq (⟨"StormBasinModel", "isNoRule", "(I)Z"⟩, 38) := ⟨⟨by decide +kernel, by decide +kernel⟩, List.mem_of_getElem? (i := 1253) (by decide +kernel), List.mem_of_getElem? (i := 1430) (by decide +kernel), List.mem_of_getElem? (i := 1431) (by decide +kernel)⟩
theorem lw_p28 : lw_okq (⟨"StormBasinModel", "isTrue", "(I[I)Z"⟩, 38) := ⟨⟨by decide +kernel, by decide +kernel⟩, List.mem_of_getElem? (i := 1253) (by decide +kernel), List.mem_of_getElem? (i := 1442) (by decide +kernel), List.mem_of_getElem? (i := 1443) (by decide +kernel)⟩
theorem lw_p29 : lw_okq (⟨"StormBasinModel", "opening", "(I[I)I"⟩, 38) := ⟨⟨by decide +kernel, by decide +kernel⟩, List.mem_of_getElem? (i := 1253) (by decide +kernel), List.mem_of_getElem? (i := 1450) (by decide +kernel), List.mem_of_getElem? (i := 1451) (by decide +kernel)⟩
theorem lw_p30 : lw_okq (⟨"StormBasinModel", "flows", "([I[I)I"⟩, 38) := ⟨⟨by decide +kernel, by decide +kernel⟩, List.mem_of_getElem? (i := 1253) (by decide +kernel), List.mem_of_getElem? (i := 1462) (by decide +kernel), List.mem_of_getElem? (i := 1463) (by decide +kernel)⟩
theorem lw_p31 : lw_okq (⟨"StormBasinModel", "held", "()I"⟩, 38) := ⟨⟨by decide +kernel, by decide +kernel⟩, List.mem_of_getElem? (i := 1253) (by decide +kernel), List.mem_of_getElem? (i := 1497) (by decide +kernel), List.mem_of_getElem? (i := 1498) (by decide +kernel)⟩
def lw_privs_2 : List (MethodName × Nat) := [(⟨"java/util/ArrayList", "fastRemove", "([Ljava/lang/Object;I)V"⟩, 3), (⟨"StormBasin", "passOneHour", "()V"⟩, 9), (⟨"StormBasin", "streetWith", "(II)LStormBasin$Street;"⟩, 9), (⟨"StormBasin$Street", "cellsUpTo", "(I)I"⟩, 5), (⟨"StormBasin$Street", "lowestCell", "()I"⟩, 5), (⟨"StormBasin", "requireHour", "(I)V"⟩, 9), (⟨"StormBasin", "houseOf", "(I)LStormBasin$House;"⟩, 9), (⟨"StormBasinModel", "isNone", "(I)Z"⟩, 38), (⟨"StormBasinModel", "fails", "(I)Z"⟩, 38), (⟨"StormBasinModel", "tells", "(I)I"⟩, 38), (⟨"StormBasinModel", "holds", "(I)I"⟩, 38), (⟨"StormBasinModel", "isNoRule", "(I)Z"⟩, 38), (⟨"StormBasinModel", "isTrue", "(I[I)Z"⟩, 38), (⟨"StormBasinModel", "opening", "(I[I)I"⟩, 38), (⟨"StormBasinModel", "flows", "([I[I)I"⟩, 38), (⟨"StormBasinModel", "held", "()I"⟩, 38)]
theorem lw_r2 : ∀ q ∈ lw_privs_2, lw_okq q := List.forall_mem_cons.mpr ⟨lw_p16, List.forall_mem_cons.mpr ⟨lw_p17, List.forall_mem_cons.mpr ⟨lw_p18, List.forall_mem_cons.mpr ⟨lw_p19, List.forall_mem_cons.mpr ⟨lw_p20, List.forall_mem_cons.mpr ⟨lw_p21, List.forall_mem_cons.mpr ⟨lw_p22, List.forall_mem_cons.mpr ⟨lw_p23, List.forall_mem_cons.mpr ⟨lw_p24, List.forall_mem_cons.mpr ⟨lw_p25, List.forall_mem_cons.mpr ⟨lw_p26, List.forall_mem_cons.mpr ⟨lw_p27, List.forall_mem_cons.mpr ⟨lw_p28, List.forall_mem_cons.mpr ⟨lw_p29, List.forall_mem_cons.mpr ⟨lw_p30, List.forall_mem_cons.mpr ⟨lw_p31, fun _ h => absurd h List.not_mem_nil⟩⟩⟩⟩⟩⟩⟩⟩⟩⟩⟩⟩⟩⟩⟩⟩
theorem lw_p32 : lw_okq (⟨"StormBasinModel", "deep", "(II)I"⟩, 38) := ⟨⟨by decide +kernel, by decide +kernel⟩, List.mem_of_getElem? (i := 1253) (by decide +kernel), List.mem_of_getElem? (i := 1509) (by decide +kernel), List.mem_of_getElem? (i := 1510) (by decide +kernel)⟩
theorem lw_p33 : lw_okq (⟨"StormBasinModel", "isNoCell", "(II)Z"⟩, 38) := ⟨⟨by decide +kernel, by decide +kernel⟩, List.mem_of_getElem? (i := 1253) (by decide +kernel), List.mem_of_getElem? (i := 1513) (by decide +kernel), List.mem_of_getElem? (i := 1514) (by decide +kernel)⟩
theorem lw_p34 : lw_okq (⟨"StormBasinModel", "depth", "(III)I"⟩, 38) := ⟨⟨by decide +kernel, by decide +kernel⟩, List.mem_of_getElem? (i := 1253) (by decide +kernel), List.mem_of_getElem? (i := 1517) (by decide +kernel), List.mem_of_getElem? (i := 1518) (by decide +kernel)⟩
theorem lw_p35 : lw_okq (⟨"StormBasinModel", "heightOf", "(II)I"⟩, 38) := ⟨⟨by decide +kernel, by decide +kernel⟩, List.mem_of_getElem? (i := 1253) (by decide +kernel), List.mem_of_getElem? (i := 1521) (by decide +kernel), List.mem_of_getElem? (i := 1522) (by decide +kernel)⟩
theorem lw_p36 : lw_okq (⟨"StormBasinModel", "upTo", "(II)I"⟩, 38) := ⟨⟨by decide +kernel, by decide +kernel⟩, List.mem_of_getElem? (i := 1253) (by decide +kernel), List.mem_of_getElem? (i := 1525) (by decide +kernel), List.mem_of_getElem? (i := 1526) (by decide +kernel)⟩
theorem lw_p37 : lw_okq (⟨"StormBasinModel", "then", "(III)I"⟩, 38) := ⟨⟨by decide +kernel, by decide +kernel⟩, List.mem_of_getElem? (i := 1253) (by decide +kernel), List.mem_of_getElem? (i := 1537) (by decide +kernel), List.mem_of_getElem? (i := 1538) (by decide +kernel)⟩
theorem lw_p38 : lw_okq (⟨"StormBasinModel", "wet", "(II)I"⟩, 38) := ⟨⟨by decide +kernel, by decide +kernel⟩, List.mem_of_getElem? (i := 1253) (by decide +kernel), List.mem_of_getElem? (i := 1545) (by decide +kernel), List.mem_of_getElem? (i := 1546) (by decide +kernel)⟩
theorem lw_p39 : lw_okq (⟨"StormBasinModel", "isNoHour", "(II)Z"⟩, 38) := ⟨⟨by decide +kernel, by decide +kernel⟩, List.mem_of_getElem? (i := 1253) (by decide +kernel), List.mem_of_getElem? (i := 1569) (by decide +kernel), List.mem_of_getElem? (i := 1570) (by decide +kernel)⟩
theorem lw_p40 : lw_okq (⟨"StormBasinModel", "isNoHouse", "(I)Z"⟩, 38) := ⟨⟨by decide +kernel, by decide +kernel⟩, List.mem_of_getElem? (i := 1253) (by decide +kernel), List.mem_of_getElem? (i := 1573) (by decide +kernel), List.mem_of_getElem? (i := 1574) (by decide +kernel)⟩
theorem lw_p41 : lw_okq (⟨"StormBasinModel", "worth", "(II)I"⟩, 38) := ⟨⟨by decide +kernel, by decide +kernel⟩, List.mem_of_getElem? (i := 1253) (by decide +kernel), List.mem_of_getElem? (i := 1577) (by decide +kernel), List.mem_of_getElem? (i := 1578) (by decide +kernel)⟩
theorem lw_p42 : lw_okq (⟨"StormBasinModel", "pays", "(II)I"⟩, 38) := ⟨⟨by decide +kernel, by decide +kernel⟩, List.mem_of_getElem? (i := 1253) (by decide +kernel), List.mem_of_getElem? (i := 1589) (by decide +kernel), List.mem_of_getElem? (i := 1590) (by decide +kernel)⟩
theorem lw_p43 : lw_okq (⟨"StormBasinModel", "allPaid", "()J"⟩, 38) := ⟨⟨by decide +kernel, by decide +kernel⟩, List.mem_of_getElem? (i := 1253) (by decide +kernel), List.mem_of_getElem? (i := 1609) (by decide +kernel), List.mem_of_getElem? (i := 1610) (by decide +kernel)⟩
theorem lw_p44 : lw_okq (⟨"StormBasinModel", "trial", "(II)I"⟩, 38) := ⟨⟨by decide +kernel, by decide +kernel⟩, List.mem_of_getElem? (i := 1253) (by decide +kernel), List.mem_of_getElem? (i := 1621) (by decide +kernel), List.mem_of_getElem? (i := 1622) (by decide +kernel)⟩
theorem lw_p45 : lw_okq (⟨"StormBasinModel", "putsNumber", "(I)V"⟩, 38) := ⟨⟨by decide +kernel, by decide +kernel⟩, List.mem_of_getElem? (i := 1253) (by decide +kernel), List.mem_of_getElem? (i := 1637) (by decide +kernel), List.mem_of_getElem? (i := 1638) (by decide +kernel)⟩
theorem lw_p46 : lw_okq (⟨"StormBasinModel", "puts", "(C)V"⟩, 38) := ⟨⟨by decide +kernel, by decide +kernel⟩, List.mem_of_getElem? (i := 1253) (by decide +kernel), List.mem_of_getElem? (i := 1641) (by decide +kernel), List.mem_of_getElem? (i := 1642) (by decide +kernel)⟩
def lw_privs_3 : List (MethodName × Nat) := [(⟨"StormBasinModel", "deep", "(II)I"⟩, 38), (⟨"StormBasinModel", "isNoCell", "(II)Z"⟩, 38), (⟨"StormBasinModel", "depth", "(III)I"⟩, 38), (⟨"StormBasinModel", "heightOf", "(II)I"⟩, 38), (⟨"StormBasinModel", "upTo", "(II)I"⟩, 38), (⟨"StormBasinModel", "then", "(III)I"⟩, 38), (⟨"StormBasinModel", "wet", "(II)I"⟩, 38), (⟨"StormBasinModel", "isNoHour", "(II)Z"⟩, 38), (⟨"StormBasinModel", "isNoHouse", "(I)Z"⟩, 38), (⟨"StormBasinModel", "worth", "(II)I"⟩, 38), (⟨"StormBasinModel", "pays", "(II)I"⟩, 38), (⟨"StormBasinModel", "allPaid", "()J"⟩, 38), (⟨"StormBasinModel", "trial", "(II)I"⟩, 38), (⟨"StormBasinModel", "putsNumber", "(I)V"⟩, 38), (⟨"StormBasinModel", "puts", "(C)V"⟩, 38)]
theorem lw_r3 : ∀ q ∈ lw_privs_3, lw_okq q := List.forall_mem_cons.mpr ⟨lw_p32, List.forall_mem_cons.mpr ⟨lw_p33, List.forall_mem_cons.mpr ⟨lw_p34, List.forall_mem_cons.mpr ⟨lw_p35, List.forall_mem_cons.mpr ⟨lw_p36, List.forall_mem_cons.mpr ⟨lw_p37, List.forall_mem_cons.mpr ⟨lw_p38, List.forall_mem_cons.mpr ⟨lw_p39, List.forall_mem_cons.mpr ⟨lw_p40, List.forall_mem_cons.mpr ⟨lw_p41, List.forall_mem_cons.mpr ⟨lw_p42, List.forall_mem_cons.mpr ⟨lw_p43, List.forall_mem_cons.mpr ⟨lw_p44, List.forall_mem_cons.mpr ⟨lw_p45, List.forall_mem_cons.mpr ⟨lw_p46, fun _ h => absurd h List.not_mem_nil⟩⟩⟩⟩⟩⟩⟩⟩⟩⟩⟩⟩⟩⟩⟩
def lw_privs : List (MethodName × Nat) := lw_privs_1 ++ (lw_privs_2 ++ (lw_privs_3))
def lw_tbl : List Cond := k2_sels lw_privs ++ tables_1
theorem lw_privs_ok : ∀ q ∈ lw_privs, lw_okq q := by
  show ∀ q ∈ lw_privs_1 ++ (lw_privs_2 ++ (lw_privs_3)), lw_okq q
  exact List.forall_mem_append.mpr ⟨lw_r1, List.forall_mem_append.mpr ⟨lw_r2, lw_r3⟩⟩
/-- the streams that the claim lets the run draw from -/
abbrev lw_cs : List Choice := [Jvm.Choice.named "NaN.bits"]
theorem lw_bits : nanBits ∈ lw_cs := by first | decide | exact List.mem_cons_self | simp [lw_cs, nanBits]
-- ===== end of PART A; then your names; then what follows =====
end
section
/-! ===== BEGIN words of one list among another's, by their places ===== -/
theorem goodIn_r {big : List Cond} (ws : List Cond) (ps : List Nat) (hp : ws = ps.filterMap (fun i => big[i]?)) (h : ws.all goodWord = true) : GoodIn big ws := by
  intro w hw
  have h1 := List.all_eq_true.mp h w hw
  rw [hp] at hw
  obtain ⟨i, -, hi⟩ := List.mem_filterMap.mp hw
  have hm : w ∈ big := by first | exact List.mem_of_getElem? hi | exact List.getElem?_mem hi
  exact ⟨hm, good_of_word h1⟩
theorem goodIn_app {big a b : List Cond} (ha : GoodIn big a) (hb : GoodIn big b) : GoodIn big (a ++ b) := fun w h => (List.mem_append.mp h).elim (ha w) (hb w)
theorem goodIn_ca {big a b : List Cond} {c : Cond} (ha : GoodIn big (c :: a)) (hb : GoodIn big b) : GoodIn big (c :: (a ++ b)) := fun w h => (List.mem_cons.mp h).elim (fun e => ha w (List.mem_cons.mpr (Or.inl e))) (fun h => (List.mem_append.mp h).elim (fun h => ha w (List.mem_cons.mpr (Or.inr h))) (hb w))
theorem goodIn_sub {big ws : List Cond} (hm : ∀ w ∈ ws, w ∈ big) (h : ws.all goodWord = true) : GoodIn big ws := fun w hw => ⟨hm w hw, good_of_word (List.all_eq_true.mp h w hw)⟩
/-! ===== END ===== -/
/-! ===== BEGIN exceptions that leave a method, and their catching by the caller (launches without stack traces) ===== -/
section VXA
/-! The laws vx_back, vx_callV, vx_callS, vx_callSW, vx_throw0, vx_throwS follow proofs of the library, with one case more: JvmDerived/Free/Laws.lean (Back.of_free), Shelf42/LK1.lean (callV, callS), Shelf/KitTraced.lean (throwNew0V, throwNewS). -/
/-- where a method has thrown q: the class by its name, the cell, what was written, the world -/
def vx_T (XC : String → State → State → Prop) (st : State) (q : Addr) (t : State) (mc ms : Nat) (free : Addr → Prop) : Prop :=
  ∃ (E : String) (ce : Cell) (L : List Loc), XC E st t ∧ t.heap[q]? = some ce ∧ ce.vm = .none ∧ st.vm.findClass E = some ce.cls ∧ st.WarmedH t.vm ∧ st.sameButNew ({ t with vm := st.vm } : State) L mc ms ∧ ∀ z ∈ L, free z.base
def vx_Q (Qc : Array Value → State → Outcome → State → Prop) (XC : String → State → State → Prop) (mc ms : Nat) (free : Addr → Prop) : Array Value → State → Outcome → State → Prop := fun a st o t =>
  (Qc a st o t ∧ ∃ L, FrameEnd st o t L mc ms ∧ ∀ q ∈ L, free q.base) ∨ ∃ q, o = .threw q ∧ vx_T XC st q t mc ms free
/-- a callee that returns or throws -/
def vx_Met (l : Launch) (y : MethodName) (ws : List Cond) (rm : Room) (Pc : Array Value → State → Prop) (Qc : Array Value → State → Outcome → State → Prop) (XC : String → State → State → Prop) (mc ms : Nat) (free : Addr → Prop) : Prop :=
  MetFree l y (headSpec ws rm) Pc (fun _ _ _ _ _ => True) (vx_Q Qc XC mc ms free)
def vx_Post (XC : String → State → State → Prop) (mc ms : Nat) (free : Addr → Prop) : Pt → Array Value → Addr → Pt → Prop := fun A a q B =>
  ∃ (g : JFrame) (mk : MethodId) (t : State) (L : List Loc) (E : String) (ce : Cell), B.U.heap = t.heap ∧ B.U.vm = t.vm ∧ XC E (A.U.calling g mk a) t ∧ t.heap[q]? = some ce ∧ ce.vm = .none ∧ A.U.vm.findClass E = some ce.cls ∧ B.locs = A.locs ++ L ∧ (∀ z ∈ L, free z.base) ∧ B.cells = A.cells + mc ∧ B.slots = A.slots + ms
def vx_Back (l : Launch) (R : Room) (p : Program) (e : Env) (below : List Frame) (s : State) (sargs : Array Value) (y : MethodName) (len W9 : Nat)
    (Pre : Pt → Array Value → Prop) (Post : Pt → Array Value → Option Value → Pt → Prop) (PostX : Pt → Array Value → Addr → Pt → Prop) : Prop :=
  ∀ (m : MethodId) (meth : Method) (c : Code) (A : Pt) (g : JFrame) (ig : Instr) (mk : MethodId) (a : Array Value),
    Stand p l e R s m sargs below meth c A.U A.locs A.cells A.slots → g.method = m → g.locals.size = c.maxLocals → decode c.code g.pc = .ok (ig, len) →
    2 * g.monitorRoom + (g.stack.map fun v => v.category).sum ≤ W9 → A.U.methodNamed? y = some mk → Pre A a →
    (∃ (v : Option Value) (B : Pt), Stand p l e R s m sargs below meth c B.U B.locs B.cells B.slots ∧ Post A a v B ∧
      Steps p.tables e below (doInvoke e (A.U.setTop g) [] mk a).1 (B.U.setTop { g with pc := g.pc + len, stack := v.toList ++ g.stack })) ∨
    (∃ (q : Addr) (B : Pt), Stand p l e R s m sargs below meth c B.U B.locs B.cells B.slots ∧ PostX A a q B ∧
      Steps p.tables e below (doInvoke e (A.U.setTop g) [] mk a).1 ((B.U.setTop g).pushFrame (.throwing q)))
section Payer
variable {l : Launch} {R : Room} {p : Program} {e : Env} {below : List Frame} {s : State} {sargs : Array Value} {y : MethodName} {len W9 : Nat}
theorem vx_back {ws : List Cond} {rm : Room} {Pc : Array Value → State → Prop} {Qc : Array Value → State → Outcome → State → Prop} {XC : String → State → State → Prop} {mc ms : Nat} {free : Addr → Prop} {bytes : ByteArray} {maxL : Nat} {ret : Option FieldType}
    (hM : vx_Met l y ws rm Pc Qc XC mc ms free) (hblind : FrameBlind Pc) (hrc : rm.cells = mc) (hrs : rm.slots = ms)
    (hframes : rm.frames + 1 ≤ R.frames) (hlocals : W9 + (maxL + 11) + rm.locals ≤ R.locals)
    (hws : ∀ w ∈ ws, ∀ a' U, s.WarmedH U.vm → w.before a' U = true) (hcode : Cond.code y bytes maxL ret ∈ ws) (hinit : ∀ a' U, s.WarmedH U.vm → (Cond.initialized y.cls).before a' U = true) :
    vx_Back l R p e below s sargs y len W9 (PreOf R mc ms Pc) (PostOf Qc mc ms free) (vx_Post XC mc ms free) := by
  intro m meth c A g ig mk a X hg hsize hdg hW hn hp
  have h1 : (headSpec ws rm).pre.before a A.U = true := atoms_intro fun w hw => hws w hw _ _ X.warmed
  have h2 : (Cond.code y bytes maxL ret).before a A.U = true := hws _ hcode _ _ X.warmed
  have h3 : (Cond.initialized y.cls).before a A.U = true := hinit _ _ X.warmed
  have h4 : A.cells + (headSpec ws rm).room.cells ≤ R.cells := by rw [show (headSpec ws rm).room.cells = mc from hrc]; exact hp.1
  have h5 : A.slots + (headSpec ws rm).room.slots ≤ R.slots := by rw [show (headSpec ws rm).room.slots = ms from hrs]; exact hp.2.1
  have hPc : Pc a (A.U.calling g mk a) := hblind _ _ _ _ hp.2.2
  obtain ⟨U, Ls, c0, s0⟩ := A
  dsimp only [Pt.U, Pt.locs, Pt.cells, Pt.slots] at h1 h2 h3 h4 h5 X hn hPc ⊢
  obtain ⟨methY, cY, hmY, hcY, -, hlY, -, -, -, -⟩ := Cond.code_spec hn h2
  obtain ⟨kY, hkY, -⟩ := className_of_methodNamed hn
  have hinitY : kY.init = .initialized := Cond.initialized_spec (findClass_of_methodNamed hn) hkY h3
  have h : At U g.method c below := by rw [hg]; exact X.here
  have hlocals9 : W9 + (maxL + 11) + (headSpec ws rm).room.locals ≤ R.locals := hlocals
  have happ : (headSpec ws rm).appliesLoose y e.platform (U.calling g mk a) = true :=
    Spec.appliesLoose_calling (g := g) h hdg hn hkY hinitY
      (X.room_calling (g := g) (R' := (headSpec ws rm).room) hsize hmY hcY hframes (by rw [hlY]; omega) h4 h5) h1
  obtain ⟨mid, hmid⟩ := h.above
  have hfr : (U.setTop g).frames = (.java g :: mid) ++ below := by rw [State.frames_setTop' g h.top, hmid]; rfl
  obtain ⟨o, s₂, hsteps, -, hend, hq⟩ := Steps.callFree hM p X.admits X.cas X.clock (acts := []) hfr happ hPc trivial
  have hq' : vx_Q Qc XC mc ms free a (U.calling g mk a) o s₂ := hq
  rw [State.frames_setTop' g h.top] at hend
  obtain ⟨g₀, hg0⟩ := Option.isSome_iff_exists.mp h.top
  obtain ⟨r, hr⟩ := State.topJava?_eq_some.mp hg0
  have hr' : (({ U with heap := s₂.heap, slotsUsed := s₂.slotsUsed } : State).setVm s₂.vm).frames = .java g₀ :: r := hr
  rcases hq' with ⟨hqc, L, hfe, hL⟩ | ⟨q, rfl, E, ce, L, hx, hce, hcv, hcl, hW₂, hsm, hL⟩
  · obtain ⟨⟨v, rfl⟩, hW₂, e2, q2, q3, q4, q5, q6⟩ := id hfe
    have e3 : s₂ = ({ (U.calling g mk a).setFrames s₂.frames with heap := s₂.heap, slotsUsed := s₂.slotsUsed } : State).setVm s₂.vm := by
      have : s₂ = ({ s₂ with vm := (U.calling g mk a).vm } : State).setVm s₂.vm := rfl
      rw [e2] at this
      exact this
    obtain ⟨c₂, i₂, len₂, hc₂, hd₂, hf₂⟩ := hend
    have hW' : U.WarmedH s₂.vm := hW₂
    have hcc : c₂ = c := by
      have h1 : s₂.code? g.method = U.code? g.method := by
        rw [State.code?_eq, State.code?_eq, hW'.alike.method?]
      exact Option.some.inj (hc₂.symm.trans (h1.trans h.code))
    subst hcc
    have hlen : len₂ = len := by rw [hdg] at hd₂; cases hd₂; rfl
    subst hlen
    have hs₂ : s₂ = (({ U with heap := s₂.heap, slotsUsed := s₂.slotsUsed } : State).setVm s₂.vm).setTop { g with pc := g.pc + len₂, stack := v.toList ++ g.stack } := by
      refine e3.trans ?_
      rw [hf₂, State.calling_eq h.top, State.setFrames_setFrames, State.setTop_of_frames _ hr', hr]
      rfl
    have hsame : U.sameButNew ({ U with heap := s₂.heap, slotsUsed := s₂.slotsUsed } : State) L mc ms := by
      refine ⟨?_, q2, q3, q4, q5, q6⟩
      obtain ⟨t, ht, -⟩ := State.frames_cons hr
      show ({ U with heap := s₂.heap, slotsUsed := s₂.slotsUsed } : State) = { U.setFrames U.frames with heap := s₂.heap, slotsUsed := s₂.slotsUsed }
      rw [State.setFrames_self ht]
    subst hg
    refine Or.inl ⟨v, ⟨(({ U with heap := s₂.heap, slotsUsed := s₂.slotsUsed } : State).setVm s₂.vm), Ls ++ L, c0 + mc, s0 + ms⟩,
      ⟨X.admits, X.cas, X.clock, X.frames, X.room, X.hears, X.method, X.code, (X.here.setHeapUsed s₂.heap s₂.slotsUsed).setVm hW'.alike, X.tail, State.WarmedH.trans X.warmed hW', X.limits, X.bytes, X.same.trans (hsame.setVm s.vm)⟩,
      ⟨g, mk, s₂, L, rfl, rfl, hqc, rfl, hL, rfl, rfl⟩, ?_⟩
    show Steps p.tables e below _ ((({ U with heap := s₂.heap, slotsUsed := s₂.slotsUsed } : State).setVm s₂.vm).setTop { g with pc := g.pc + len₂, stack := v.toList ++ g.stack })
    rw [← hs₂]
    exact hsteps
  · obtain ⟨e2, q2, q3, q4, q5, q6⟩ := id hsm
    have e3 : s₂ = ({ (U.calling g mk a).setFrames s₂.frames with heap := s₂.heap, slotsUsed := s₂.slotsUsed } : State).setVm s₂.vm := by
      have : s₂ = ({ s₂ with vm := (U.calling g mk a).vm } : State).setVm s₂.vm := rfl
      rw [e2] at this
      exact this
    have hf₂ : s₂.frames = .throwing q :: .java g :: U.frames.tail := hend
    have hW' : U.WarmedH s₂.vm := hW₂
    have hs₂ : s₂ = ((({ U with heap := s₂.heap, slotsUsed := s₂.slotsUsed } : State).setVm s₂.vm).setTop g).pushFrame (.throwing q) := by
      refine e3.trans ?_
      rw [hf₂, State.calling_eq h.top, State.setFrames_setFrames, State.pushFrame, State.frames_setTop _ hr', State.setTop_of_frames _ hr', State.setFrames_setFrames, hr]
      rfl
    have hsame : U.sameButNew ({ U with heap := s₂.heap, slotsUsed := s₂.slotsUsed } : State) L mc ms := by
      refine ⟨?_, q2, q3, q4, q5, q6⟩
      obtain ⟨t, ht, -⟩ := State.frames_cons hr
      show ({ U with heap := s₂.heap, slotsUsed := s₂.slotsUsed } : State) = { U.setFrames U.frames with heap := s₂.heap, slotsUsed := s₂.slotsUsed }
      rw [State.setFrames_self ht]
    subst hg
    refine Or.inr ⟨q, ⟨(({ U with heap := s₂.heap, slotsUsed := s₂.slotsUsed } : State).setVm s₂.vm), Ls ++ L, c0 + mc, s0 + ms⟩,
      ⟨X.admits, X.cas, X.clock, X.frames, X.room, X.hears, X.method, X.code, (X.here.setHeapUsed s₂.heap s₂.slotsUsed).setVm hW'.alike, X.tail, State.WarmedH.trans X.warmed hW', X.limits, X.bytes, X.same.trans (hsame.setVm s.vm)⟩,
      ⟨g, mk, s₂, L, E, ce, rfl, rfl, hx, hce, hcv, hcl, rfl, hL, rfl, rfl⟩, ?_⟩
    show Steps p.tables e below _ (((({ U with heap := s₂.heap, slotsUsed := s₂.slotsUsed } : State).setVm s₂.vm).setTop g).pushFrame (.throwing q))
    rw [← hs₂]
    exact hsteps
end Payer
section Calls
variable {p : Program} {l : Launch} {e : Env} {R : Room} {s : State} {m : MethodId} {args : Array Value} {below : List Frame} {meth : Method} {c : Code} {T : State} {locs : List Loc} {cells slots : Nat}
theorem vx_callV (X : Stand p l e R s m args below meth c T locs cells slots) (hexec : p.tables.exec = Jvm.exec) {own C : String} {index : Nat} {y : MethodName} {bytes : ByteArray} {maxL : Nat} {ret : Option FieldType}
    (hown : s.vm.findClass own = some m.cls) (hlink : (Cond.methodLink own index y).before args s = true) (hinst : (Cond.instanceMethod y).before args s = true) (hsel : (Cond.selects C y y).before args s = true)
    (hcode : (Cond.code y bytes maxL ret).before args s = true) (hy : y.cls ≠ "java/lang/invoke/MethodHandle" ∧ y.cls ≠ "java/lang/invoke/VarHandle")
    {W9 : Nat} {Pre : Pt → Array Value → Prop} {Post : Pt → Array Value → Option Value → Pt → Prop} {PostX : Pt → Array Value → Addr → Pt → Prop} (hK : vx_Back l R p e below s args y 3 W9 Pre Post PostX)
    {b : Addr} {cellB : Cell} (hcell : T.heap[b]? = some cellB) (hobj : cellB.vm.isStatics = false) (hcls : s.vm.findClass C = some cellB.cls)
    {g : JFrame} (hg : g.method = m) (hsize : g.locals.size = c.maxLocals) {argsL rest : List Value} (hlen : ∀ sig, parseMethodDescriptor y.desc = some sig → argsL.length = sig.parameters.length)
    (hstack : g.stack = argsL.reverse ++ .ref b :: rest) (hW : 2 * g.monitorRoom + (rest.map fun v => v.category).sum ≤ W9) (hdg : decode c.code g.pc = .ok (.invokevirtual index, 3))
    (hpre : ∀ vm₁, s.WarmedH vm₁ → Pre ⟨T.setVm vm₁, locs, cells, slots⟩ (Value.ref b :: argsL).toArray) :
    (∃ (v : Option Value) (vm₁ : Vm) (B : Pt), s.WarmedH vm₁ ∧ Stand p l e R s m args below meth c B.U B.locs B.cells B.slots ∧ Post ⟨T.setVm vm₁, locs, cells, slots⟩ (Value.ref b :: argsL).toArray v B ∧
      ∀ target, Steps p.tables e below (B.U.setTop { g with pc := g.pc + 3, stack := v.toList ++ rest }) target → Steps p.tables e below (T.setTop g) target) ∨
    (∃ (q : Addr) (vm₁ : Vm) (B : Pt), s.WarmedH vm₁ ∧ Stand p l e R s m args below meth c B.U B.locs B.cells B.slots ∧ PostX ⟨T.setVm vm₁, locs, cells, slots⟩ (Value.ref b :: argsL).toArray q B ∧
      Steps p.tables e below (T.setTop g) ((B.U.setTop { g with stack := rest }).pushFrame (.throwing q))) := by
  obtain ⟨mk, methM, hnamed, hmethM, hstM, habM⟩ := Cond.instanceMethod_spec hinst
  obtain ⟨methM', cM, hmethM', -, -, -, -, -, -, hsigM⟩ := Cond.code_spec hnamed hcode
  cases hmethM.symm.trans hmethM'
  obtain ⟨c2, r2, m2, q1, q2, q3, q4, kP, hkP, hkPi⟩ := Cond.selects_spec hsel
  cases hcls.symm.trans q1
  cases (State.methodFound?_of_named hnamed hy).symm.trans q2
  cases hnamed.symm.trans q3
  have hselP : selectMethod e.platform s.vm cellB.cls mk = .method mk := by rw [Launch.admits_selectMethod X.admits]; exact q4
  obtain ⟨vm₁, X₁, hstep₁⟩ := X.invokevirtual hexec hown hlink hnamed hmethM hstM hkP hkPi hy (a := b) (cell := cellB) hcell
    (fun z h => by rw [h] at hobj; cases hobj) hselP hmethM habM hkP hkPi (g := g) hg (argsL := argsL) (rest := rest) (hlen _ hsigM) hstack hdg
  rcases hK m meth c ⟨T.setVm vm₁, locs, cells, slots⟩ { g with stack := rest } (.invokevirtual index) mk (Value.ref b :: argsL).toArray X₁ hg hsize hdg hW (X₁.named hnamed) (hpre vm₁ X₁.warmed) with ⟨v, B, X', hpost, hsteps⟩ | ⟨q, B, X', hpost, hsteps⟩
  · exact Or.inl ⟨v, vm₁, B, X₁.warmed, X', hpost, fun target h => hstep₁ _ fun acts => by rw [doInvoke_state]; exact hsteps.trans h⟩
  · exact Or.inr ⟨q, vm₁, B, X₁.warmed, X', hpost, hstep₁ _ fun acts => by rw [doInvoke_state]; exact hsteps⟩
theorem vx_callS (X : Stand p l e R s m args below meth c T locs cells slots) (hexec : p.tables.exec = Jvm.exec) {own : String} {index : Nat} {y : MethodName} {bytes : ByteArray} {maxL : Nat} {ret : Option FieldType}
    (hown : s.vm.findClass own = some m.cls) (hlink : (Cond.methodLink own index y).before args s = true) (hstat : (Cond.static y).before args s = true) (hinit : (Cond.initialized y.cls).before args s = true)
    (hcode : (Cond.code y bytes maxL ret).before args s = true) (hy : y.cls ≠ "java/lang/invoke/MethodHandle" ∧ y.cls ≠ "java/lang/invoke/VarHandle")
    {W9 : Nat} {Pre : Pt → Array Value → Prop} {Post : Pt → Array Value → Option Value → Pt → Prop} {PostX : Pt → Array Value → Addr → Pt → Prop} (hK : vx_Back l R p e below s args y 3 W9 Pre Post PostX)
    {g : JFrame} (hg : g.method = m) (hsize : g.locals.size = c.maxLocals) {argsL rest : List Value} (hlen : ∀ sig, parseMethodDescriptor y.desc = some sig → argsL.length = sig.parameters.length)
    (hstack : g.stack = argsL.reverse ++ rest) (hW : 2 * g.monitorRoom + (rest.map fun v => v.category).sum ≤ W9) (hdg : decode c.code g.pc = .ok (.invokestatic index, 3))
    (hpre : ∀ vm₁, s.WarmedH vm₁ → Pre ⟨T.setVm vm₁, locs, cells, slots⟩ argsL.toArray) :
    (∃ (v : Option Value) (vm₁ : Vm) (B : Pt), s.WarmedH vm₁ ∧ Stand p l e R s m args below meth c B.U B.locs B.cells B.slots ∧ Post ⟨T.setVm vm₁, locs, cells, slots⟩ argsL.toArray v B ∧
      ∀ target, Steps p.tables e below (B.U.setTop { g with pc := g.pc + 3, stack := v.toList ++ rest }) target → Steps p.tables e below (T.setTop g) target) ∨
    (∃ (q : Addr) (vm₁ : Vm) (B : Pt), s.WarmedH vm₁ ∧ Stand p l e R s m args below meth c B.U B.locs B.cells B.slots ∧ PostX ⟨T.setVm vm₁, locs, cells, slots⟩ argsL.toArray q B ∧
      Steps p.tables e below (T.setTop g) ((B.U.setTop { g with stack := rest }).pushFrame (.throwing q))) := by
  obtain ⟨mk, hnamed⟩ := Cond.code_named hcode
  obtain ⟨methM, cM, hmethM, -, -, -, -, -, -, hsigM⟩ := Cond.code_spec hnamed hcode
  have hstatic : methM.isStatic = true := Cond.static_spec hnamed hmethM hstat
  obtain ⟨kP, hkP, -⟩ := className_of_methodNamed hnamed
  have hinitP : kP.init = .initialized := Cond.initialized_spec (findClass_of_methodNamed hnamed) hkP hinit
  obtain ⟨vm₁, X₁, hstep₁⟩ := X.invokestatic hexec hown hlink hnamed hmethM hstatic hkP hinitP hy (g := g) hg (argsL := argsL) (rest := rest) (hlen _ hsigM) hstack hdg
  rcases hK m meth c ⟨T.setVm vm₁, locs, cells, slots⟩ { g with stack := rest } (.invokestatic index) mk argsL.toArray X₁ hg hsize hdg hW (X₁.named hnamed) (hpre vm₁ X₁.warmed) with ⟨v, B, X', hpost, hsteps⟩ | ⟨q, B, X', hpost, hsteps⟩
  · exact Or.inl ⟨v, vm₁, B, X₁.warmed, X', hpost, fun target h => hstep₁ _ fun acts => by rw [doInvoke_state]; exact hsteps.trans h⟩
  · exact Or.inr ⟨q, vm₁, B, X₁.warmed, X', hpost, hstep₁ _ fun acts => by rw [doInvoke_state]; exact hsteps⟩
end Calls
theorem vx_cls {s : State} {T : State} {vm₁ : Vm} {E : String} {k : ClassId} (hW : s.WarmedH vm₁) (h : (T.setVm vm₁).vm.findClass E = some k) : s.vm.findClass E = some k := by
  have h1 : vm₁.findClass E = some k := h
  rw [hW.alike.findClass] at h1
  exact h1
/-- the method's frame g, with q thrown over it -/
def vx_W (p : Program) (l : Launch) (e : Env) (R : Room) (s : State) (m : MethodId) (args : Array Value) (below : List Frame) (meth : Method) (c : Code) (H : Heap) (locs : List Loc) (cells slots : Nat) (Q : State → Prop) (g : JFrame) (q : Addr) : Prop :=
  ∀ T : State, T.heap = H → Stand p l e R s m args below meth c T locs cells slots → ∃ t, Steps p.tables e below ((T.setTop g).pushFrame (.throwing q)) t ∧ Q t
def vx_Run (p : Program) (l : Launch) (e : Env) (R : Room) (s : State) (m : MethodId) (args : Array Value) (below : List Frame) (meth : Method) (c : Code) (H : Heap) (locs : List Loc) (cells slots mc ms : Nat) (g : JFrame) (rest : List Value) (Qa : State → Outcome → State → Prop) (XC : String → State → State → Prop) (free : Addr → Prop) : Prop :=
  ∀ T : State, T.heap = H → Stand p l e R s m args below meth c T locs cells slots →
    (∃ (v : Option Value) (st₀ t T' : State) (L : List Loc), st₀.heap = H ∧ Stand p l e R s m args below meth c T' (locs ++ L) (cells + mc) (slots + ms) ∧ (∀ q ∈ L, free q.base) ∧ T'.heap = t.heap ∧ T'.vm = t.vm ∧ Qa st₀ (.returned v) t ∧
      Goes p e below T g T' { g with pc := g.pc + 3, stack := v.toList ++ rest }) ∨
    (∃ (q : Addr) (st₀ t T' : State) (L : List Loc) (E : String) (ce : Cell), st₀.heap = H ∧ Stand p l e R s m args below meth c T' (locs ++ L) (cells + mc) (slots + ms) ∧ (∀ z ∈ L, free z.base) ∧ T'.heap = t.heap ∧ T'.vm = t.vm ∧ XC E st₀ t ∧ t.heap[q]? = some ce ∧ ce.vm = .none ∧ s.vm.findClass E = some ce.cls ∧
      Steps p.tables e below (T.setTop g) ((T'.setTop { g with stack := rest }).pushFrame (.throwing q)))
def vx_X {S : Type} (px : S → Prop) (B : String → S → State → Prop) (A : Nat → Prop) : String → State → State → Prop := fun E st t => ∃ u : S, px u ∧ B E u t ∧ va_F A st t
section Runs
variable {p : Program} {l : Launch} {e : Env} {R : Room} {s : State} {m : MethodId} {args : Array Value} {below : List Frame} {meth : Method} {c : Code} {H : Heap} {locs : List Loc} {cells slots : Nat}
variable {y : MethodName} {bytes cc : ByteArray} {maxL nL mc ms n index : Nat} {ret : Option FieldType} {ws : List Cond} {rm : Room} {Pc : Array Value → State → Prop} {Qc : Array Value → State → Outcome → State → Prop} {XC : String → State → State → Prop} {free : Addr → Prop} {Ts : List Cond} {own C : String} {b : Addr} {As rest : List Value} {g : JFrame}
theorem vx_callBack (cb : CallB R s args own index y bytes maxL ret ws rm mc ms n) (hM : vx_Met l y ws rm Pc Qc XC mc ms free) (hbl : FrameBlind Pc) : vx_Back l R p e below s args y 3 8 (PreOf R mc ms Pc) (PostOf Qc mc ms free) (vx_Post XC mc ms free) := by
  obtain ⟨hrc, hrs, hfr, hlo, hws, hcw, -, hini, -⟩ := cb
  exact vx_back (bytes := bytes) (maxL := maxL) (ret := ret) hM hbl hrc hrs hfr hlo hws hcw (fun a' U hW => word_at hW (Or.inl (by first | rfl | simp [Cond.onTables, Cond.keeps, Cond.steady])) hini)
theorem vx_runV (S : CallFix p m c cc nL s args Ts own) (hM : vx_Met l y ws rm Pc Qc XC mc ms free) (cw : CallW R s args own C index y bytes maxL ret ws rm mc ms n) (hp : PreV s H C b Pc As)
    (hg : g.method = m) (hn : As.length = n) (hsize : g.locals.size = nL) (hstack : g.stack = As.reverse ++ .ref b :: rest) (hW : 2 * g.monitorRoom + (rest.map fun v => v.category).sum ≤ 8) (hdg : decode cc g.pc = .ok (.invokevirtual index, 3)) (hf : cells + mc ≤ R.cells ∧ slots + ms ≤ R.slots) :
    vx_Run p l e R s m args below meth c H locs cells slots mc ms g rest (Qc (Value.ref b :: As).toArray) XC free := by
  have hK : vx_Back l R p e below s args y 3 8 (PreOf R mc ms Pc) (PostOf Qc mc ms free) (vx_Post XC mc ms free) := vx_callBack cw.1 hM hp.1
  obtain ⟨⟨-, -, -, -, -, -, hcode, -, hy, hlen, hl⟩, hin, hse⟩ := cw
  obtain ⟨hx, hb, hml, ho, -⟩ := S
  obtain ⟨-, ⟨cellB, hcB, hoB, hclB⟩, hPc⟩ := hp
  intro T hT X
  rcases vx_callV X hx (C := C) (bytes := bytes) (maxL := maxL) (ret := ret) ho hl hin hse hcode hy hK (by rw [hT]; exact hcB) hoB hclB hg (hsize.trans hml.symm) (argsL := As) (rest := rest) (fun sig h => hn.trans (hlen sig h)) hstack hW (by rw [hb]; exact hdg)
    (fun vm₁ hW₁ => ⟨hf.1, hf.2, hPc (T.setVm vm₁) hT hW₁⟩) with ⟨v, vm₁, ⟨U', l2, c2, s2⟩, hW₁, X', ⟨g', mk, t, L, e1, e2, hq, h1, hL, h2, h3⟩, st⟩ | ⟨q, vm₁, ⟨U', l2, c2, s2⟩, hW₁, X', ⟨g', mk, t, L, E, ce, e1, e2, hq, hce, hcv, hcl, h1, hL, h2, h3⟩, st⟩
  · dsimp only [Pt.U, Pt.locs, Pt.cells, Pt.slots] at X' e1 e2 h1 h2 h3 st
    subst h1; subst h2; subst h3
    exact Or.inl ⟨v, (T.setVm vm₁).calling g' mk (Value.ref b :: As).toArray, t, U', L, hT, X', hL, e1, e2, hq, st⟩
  · dsimp only [Pt.U, Pt.locs, Pt.cells, Pt.slots] at X' e1 e2 h1 h2 h3 st hcl
    subst h1; subst h2; subst h3
    exact Or.inr ⟨q, (T.setVm vm₁).calling g' mk (Value.ref b :: As).toArray, t, U', L, E, ce, hT, X', hL, e1, e2, hq, hce, hcv, vx_cls hW₁ hcl, st⟩
theorem vx_runS (S : CallFix p m c cc nL s args Ts own) (hM : vx_Met l y ws rm Pc Qc XC mc ms free) (cw : CallB R s args own index y bytes maxL ret ws rm mc ms n ∧ (Cond.static y).before args s = true) (hp : PreS s H Pc As)
    (hg : g.method = m) (hn : As.length = n) (hsize : g.locals.size = nL) (hstack : g.stack = As.reverse ++ rest) (hW : 2 * g.monitorRoom + (rest.map fun v => v.category).sum ≤ 8) (hdg : decode cc g.pc = .ok (.invokestatic index, 3)) (hf : cells + mc ≤ R.cells ∧ slots + ms ≤ R.slots) :
    vx_Run p l e R s m args below meth c H locs cells slots mc ms g rest (Qc As.toArray) XC free := by
  have hK : vx_Back l R p e below s args y 3 8 (PreOf R mc ms Pc) (PostOf Qc mc ms free) (vx_Post XC mc ms free) := vx_callBack cw.1 hM hp.1
  obtain ⟨⟨-, -, -, -, -, -, hcode, hini, hy, hlen, hl⟩, hstt⟩ := cw
  obtain ⟨hx, hb, hml, ho, -⟩ := S
  intro T hT X
  rcases vx_callS X hx (bytes := bytes) (maxL := maxL) (ret := ret) ho hl hstt hini hcode hy hK hg (hsize.trans hml.symm) (argsL := As) (rest := rest) (fun sig h => hn.trans (hlen sig h)) hstack hW (by rw [hb]; exact hdg)
    (fun vm₁ hW₁ => ⟨hf.1, hf.2, hp.2 (T.setVm vm₁) hT hW₁⟩) with ⟨v, vm₁, ⟨U', l2, c2, s2⟩, hW₁, X', ⟨g', mk, t, L, e1, e2, hq, h1, hL, h2, h3⟩, st⟩ | ⟨q, vm₁, ⟨U', l2, c2, s2⟩, hW₁, X', ⟨g', mk, t, L, E, ce, e1, e2, hq, hce, hcv, hcl, h1, hL, h2, h3⟩, st⟩
  · dsimp only [Pt.U, Pt.locs, Pt.cells, Pt.slots] at X' e1 e2 h1 h2 h3 st
    subst h1; subst h2; subst h3
    exact Or.inl ⟨v, (T.setVm vm₁).calling g' mk As.toArray, t, U', L, hT, X', hL, e1, e2, hq, st⟩
  · dsimp only [Pt.U, Pt.locs, Pt.cells, Pt.slots] at X' e1 e2 h1 h2 h3 st hcl
    subst h1; subst h2; subst h3
    exact Or.inr ⟨q, (T.setVm vm₁).calling g' mk As.toArray, t, U', L, E, ce, hT, X', hL, e1, e2, hq, hce, hcv, vx_cls hW₁ hcl, st⟩
end Runs
section Rows
variable {p : Program} {l : Launch} {e : Env} {R : Room} {s : State} {m : MethodId} {args : Array Value} {below : List Frame} {meth : Method} {c : Code} {H : Heap} {locs : List Loc} {cells slots : Nat} {Q : State → Prop}
variable {mc ms : Nat} {free : Addr → Prop} {A0 A1 : Nat → Prop} {H0 : Heap} {a : Array Value} {pc : Nat} {ls : Array Slot} {st0 rest : List Value}
theorem vx_keep {st₀ t T' : State} {L : List Loc} (h0 : st₀.heap = H) (e1 : T'.heap = t.heap) (hS : va_S A0 H0 H locs) (hA : ∀ q, q < H.size → A1 q → A0 q) (hf : ∀ q, free q → A0 q) (hL : ∀ q ∈ L, free q.base) (hF : va_F A1 st₀ t) :
    H.size ≤ T'.heap.size ∧ (∀ q : Nat, q < H.size → ¬ A1 q → T'.heap[q]? = H[q]?) ∧ va_S A0 H0 T'.heap (locs ++ L) := by
  obtain ⟨hz, hk⟩ := hF
  rw [h0] at hz hk
  exact ⟨by rw [e1]; exact hz, fun q h1 h2 => by rw [e1]; exact hk q h1 h2,
    ⟨Nat.le_trans hS.1 (by rw [e1]; exact hz), fun q h1 h2 => by rw [e1, hk q (Nat.lt_of_lt_of_le h1 hS.1) (fun z => h2 (hA q (Nat.lt_of_lt_of_le h1 hS.1) z))]; exact hS.2.1 q h1 h2, fun q hq => by
      rcases List.mem_append.mp hq with h | h
      · exact hS.2.2 q h
      · exact hf _ (hL q h)⟩⟩
theorem vx_calli {S SX : Type} {post : Int32 → S → Prop} {px : SX → Prop} {B : S → State → Prop} {BX : String → SX → State → Prop} {AX : Nat → Prop} (hr : vx_Run p l e R s m args below meth c H locs cells slots mc ms (F0 m pc ls st0) rest (va_Qi post B A1 a) (vx_X px BX AX) free) (hS : va_S A0 H0 H locs) (hA : ∀ q, q < H.size → A1 q → A0 q) (hf : ∀ q, free q → A0 q) (hAX : ∀ q, q < H.size → AX q → A0 q)
    (kx : ∀ (E : String) (ce : Cell) (q9 : Addr) (u : SX) (t : State) (H1 : Heap) (locs1 : List Loc), t.heap = H1 → s.vm.Alike t.vm → px u → BX E u t → H.size ≤ H1.size → (∀ q : Nat, q < H.size → ¬ AX q → H1[q]? = H[q]?) → va_S A0 H0 H1 locs1 → H1[q9]? = some ce → ce.vm = .none → s.vm.findClass E = some ce.cls → vx_W p l e R s m args below meth c H1 locs1 (cells + mc) (slots + ms) Q (F0 m pc ls rest) q9)
    (kk : ∀ (r : Int32) (u : S) (t : State) (H1 : Heap) (locs1 : List Loc), t.heap = H1 → s.vm.Alike t.vm → post r u → B u t → H.size ≤ H1.size → (∀ q : Nat, q < H.size → ¬ A1 q → H1[q]? = H[q]?) → va_S A0 H0 H1 locs1 → W p l e R s m args below meth c H1 locs1 (cells + mc) (slots + ms) Q (F0 m (pc + 3) ls (.int r :: rest))) : W p l e R s m args below meth c H locs cells slots Q (F0 m pc ls st0) := by
  intro T hT X
  rcases hr T hT X with ⟨v, st₀, t, T', L, h0, X', hL, e1, e2, ⟨⟨r, u, hv, hp, hb⟩, hF⟩, st⟩ | ⟨q, st₀, t, T', L, E, ce, h0, X', hL, e1, e2, ⟨u, hp, hb, hF⟩, hce, hcv, hcl, st⟩
  · cases hv
    obtain ⟨k1, k2, k3⟩ := vx_keep h0 e1 hS hA hf hL hF
    obtain ⟨t2, a1, b1⟩ := kk r u t T'.heap (locs ++ L) e1.symm (by rw [← e2]; exact X'.warmed.alike) hp hb k1 k2 k3 T' rfl X'
    exact ⟨t2, st t2 a1, b1⟩
  · obtain ⟨k1, k2, k3⟩ := vx_keep h0 e1 hS hAX hf hL hF
    obtain ⟨t2, a1, b1⟩ := kx E ce q u t T'.heap (locs ++ L) e1.symm (by rw [← e2]; exact X'.warmed.alike) hp hb k1 k2 k3 (by rw [e1]; exact hce) hcv hcl T' rfl X'
    exact ⟨t2, st.trans a1, b1⟩
theorem vx_calll {S SX : Type} {post : Int64 → S → Prop} {px : SX → Prop} {B : S → State → Prop} {BX : String → SX → State → Prop} {AX : Nat → Prop} (hr : vx_Run p l e R s m args below meth c H locs cells slots mc ms (F0 m pc ls st0) rest (va_Ql post B A1 a) (vx_X px BX AX) free) (hS : va_S A0 H0 H locs) (hA : ∀ q, q < H.size → A1 q → A0 q) (hf : ∀ q, free q → A0 q) (hAX : ∀ q, q < H.size → AX q → A0 q)
    (kx : ∀ (E : String) (ce : Cell) (q9 : Addr) (u : SX) (t : State) (H1 : Heap) (locs1 : List Loc), t.heap = H1 → s.vm.Alike t.vm → px u → BX E u t → H.size ≤ H1.size → (∀ q : Nat, q < H.size → ¬ AX q → H1[q]? = H[q]?) → va_S A0 H0 H1 locs1 → H1[q9]? = some ce → ce.vm = .none → s.vm.findClass E = some ce.cls → vx_W p l e R s m args below meth c H1 locs1 (cells + mc) (slots + ms) Q (F0 m pc ls rest) q9)
    (kk : ∀ (r : Int64) (u : S) (t : State) (H1 : Heap) (locs1 : List Loc), t.heap = H1 → s.vm.Alike t.vm → post r u → B u t → H.size ≤ H1.size → (∀ q : Nat, q < H.size → ¬ A1 q → H1[q]? = H[q]?) → va_S A0 H0 H1 locs1 → W p l e R s m args below meth c H1 locs1 (cells + mc) (slots + ms) Q (F0 m (pc + 3) ls (.long r :: rest))) : W p l e R s m args below meth c H locs cells slots Q (F0 m pc ls st0) := by
  intro T hT X
  rcases hr T hT X with ⟨v, st₀, t, T', L, h0, X', hL, e1, e2, ⟨⟨r, u, hv, hp, hb⟩, hF⟩, st⟩ | ⟨q, st₀, t, T', L, E, ce, h0, X', hL, e1, e2, ⟨u, hp, hb, hF⟩, hce, hcv, hcl, st⟩
  · cases hv
    obtain ⟨k1, k2, k3⟩ := vx_keep h0 e1 hS hA hf hL hF
    obtain ⟨t2, a1, b1⟩ := kk r u t T'.heap (locs ++ L) e1.symm (by rw [← e2]; exact X'.warmed.alike) hp hb k1 k2 k3 T' rfl X'
    exact ⟨t2, st t2 a1, b1⟩
  · obtain ⟨k1, k2, k3⟩ := vx_keep h0 e1 hS hAX hf hL hF
    obtain ⟨t2, a1, b1⟩ := kx E ce q u t T'.heap (locs ++ L) e1.symm (by rw [← e2]; exact X'.warmed.alike) hp hb k1 k2 k3 (by rw [e1]; exact hce) hcv hcl T' rfl X'
    exact ⟨t2, st.trans a1, b1⟩
theorem vx_callf {S SX : Type} {post : UInt32 → S → Prop} {px : SX → Prop} {B : S → State → Prop} {BX : String → SX → State → Prop} {AX : Nat → Prop} (hr : vx_Run p l e R s m args below meth c H locs cells slots mc ms (F0 m pc ls st0) rest (va_Qf post B A1 a) (vx_X px BX AX) free) (hS : va_S A0 H0 H locs) (hA : ∀ q, q < H.size → A1 q → A0 q) (hf : ∀ q, free q → A0 q) (hAX : ∀ q, q < H.size → AX q → A0 q)
    (kx : ∀ (E : String) (ce : Cell) (q9 : Addr) (u : SX) (t : State) (H1 : Heap) (locs1 : List Loc), t.heap = H1 → s.vm.Alike t.vm → px u → BX E u t → H.size ≤ H1.size → (∀ q : Nat, q < H.size → ¬ AX q → H1[q]? = H[q]?) → va_S A0 H0 H1 locs1 → H1[q9]? = some ce → ce.vm = .none → s.vm.findClass E = some ce.cls → vx_W p l e R s m args below meth c H1 locs1 (cells + mc) (slots + ms) Q (F0 m pc ls rest) q9)
    (kk : ∀ (r : UInt32) (u : S) (t : State) (H1 : Heap) (locs1 : List Loc), t.heap = H1 → s.vm.Alike t.vm → post r u → B u t → H.size ≤ H1.size → (∀ q : Nat, q < H.size → ¬ A1 q → H1[q]? = H[q]?) → va_S A0 H0 H1 locs1 → W p l e R s m args below meth c H1 locs1 (cells + mc) (slots + ms) Q (F0 m (pc + 3) ls (.float r :: rest))) : W p l e R s m args below meth c H locs cells slots Q (F0 m pc ls st0) := by
  intro T hT X
  rcases hr T hT X with ⟨v, st₀, t, T', L, h0, X', hL, e1, e2, ⟨⟨r, u, hv, hp, hb⟩, hF⟩, st⟩ | ⟨q, st₀, t, T', L, E, ce, h0, X', hL, e1, e2, ⟨u, hp, hb, hF⟩, hce, hcv, hcl, st⟩
  · cases hv
    obtain ⟨k1, k2, k3⟩ := vx_keep h0 e1 hS hA hf hL hF
    obtain ⟨t2, a1, b1⟩ := kk r u t T'.heap (locs ++ L) e1.symm (by rw [← e2]; exact X'.warmed.alike) hp hb k1 k2 k3 T' rfl X'
    exact ⟨t2, st t2 a1, b1⟩
  · obtain ⟨k1, k2, k3⟩ := vx_keep h0 e1 hS hAX hf hL hF
    obtain ⟨t2, a1, b1⟩ := kx E ce q u t T'.heap (locs ++ L) e1.symm (by rw [← e2]; exact X'.warmed.alike) hp hb k1 k2 k3 (by rw [e1]; exact hce) hcv hcl T' rfl X'
    exact ⟨t2, st.trans a1, b1⟩
theorem vx_calld {S SX : Type} {post : UInt64 → S → Prop} {px : SX → Prop} {B : S → State → Prop} {BX : String → SX → State → Prop} {AX : Nat → Prop} (hr : vx_Run p l e R s m args below meth c H locs cells slots mc ms (F0 m pc ls st0) rest (va_Qd post B A1 a) (vx_X px BX AX) free) (hS : va_S A0 H0 H locs) (hA : ∀ q, q < H.size → A1 q → A0 q) (hf : ∀ q, free q → A0 q) (hAX : ∀ q, q < H.size → AX q → A0 q)
    (kx : ∀ (E : String) (ce : Cell) (q9 : Addr) (u : SX) (t : State) (H1 : Heap) (locs1 : List Loc), t.heap = H1 → s.vm.Alike t.vm → px u → BX E u t → H.size ≤ H1.size → (∀ q : Nat, q < H.size → ¬ AX q → H1[q]? = H[q]?) → va_S A0 H0 H1 locs1 → H1[q9]? = some ce → ce.vm = .none → s.vm.findClass E = some ce.cls → vx_W p l e R s m args below meth c H1 locs1 (cells + mc) (slots + ms) Q (F0 m pc ls rest) q9)
    (kk : ∀ (r : UInt64) (u : S) (t : State) (H1 : Heap) (locs1 : List Loc), t.heap = H1 → s.vm.Alike t.vm → post r u → B u t → H.size ≤ H1.size → (∀ q : Nat, q < H.size → ¬ A1 q → H1[q]? = H[q]?) → va_S A0 H0 H1 locs1 → W p l e R s m args below meth c H1 locs1 (cells + mc) (slots + ms) Q (F0 m (pc + 3) ls (.double r :: rest))) : W p l e R s m args below meth c H locs cells slots Q (F0 m pc ls st0) := by
  intro T hT X
  rcases hr T hT X with ⟨v, st₀, t, T', L, h0, X', hL, e1, e2, ⟨⟨r, u, hv, hp, hb⟩, hF⟩, st⟩ | ⟨q, st₀, t, T', L, E, ce, h0, X', hL, e1, e2, ⟨u, hp, hb, hF⟩, hce, hcv, hcl, st⟩
  · cases hv
    obtain ⟨k1, k2, k3⟩ := vx_keep h0 e1 hS hA hf hL hF
    obtain ⟨t2, a1, b1⟩ := kk r u t T'.heap (locs ++ L) e1.symm (by rw [← e2]; exact X'.warmed.alike) hp hb k1 k2 k3 T' rfl X'
    exact ⟨t2, st t2 a1, b1⟩
  · obtain ⟨k1, k2, k3⟩ := vx_keep h0 e1 hS hAX hf hL hF
    obtain ⟨t2, a1, b1⟩ := kx E ce q u t T'.heap (locs ++ L) e1.symm (by rw [← e2]; exact X'.warmed.alike) hp hb k1 k2 k3 (by rw [e1]; exact hce) hcv hcl T' rfl X'
    exact ⟨t2, st.trans a1, b1⟩
theorem vx_callv {S SX : Type} {post : S → Prop} {px : SX → Prop} {B : S → State → Prop} {BX : String → SX → State → Prop} {AX : Nat → Prop} (hr : vx_Run p l e R s m args below meth c H locs cells slots mc ms (F0 m pc ls st0) rest (va_Qv post B A1 a) (vx_X px BX AX) free) (hS : va_S A0 H0 H locs) (hA : ∀ q, q < H.size → A1 q → A0 q) (hf : ∀ q, free q → A0 q) (hAX : ∀ q, q < H.size → AX q → A0 q)
    (kx : ∀ (E : String) (ce : Cell) (q9 : Addr) (u : SX) (t : State) (H1 : Heap) (locs1 : List Loc), t.heap = H1 → s.vm.Alike t.vm → px u → BX E u t → H.size ≤ H1.size → (∀ q : Nat, q < H.size → ¬ AX q → H1[q]? = H[q]?) → va_S A0 H0 H1 locs1 → H1[q9]? = some ce → ce.vm = .none → s.vm.findClass E = some ce.cls → vx_W p l e R s m args below meth c H1 locs1 (cells + mc) (slots + ms) Q (F0 m pc ls rest) q9)
    (kk : ∀ (u : S) (t : State) (H1 : Heap) (locs1 : List Loc), t.heap = H1 → s.vm.Alike t.vm → post u → B u t → H.size ≤ H1.size → (∀ q : Nat, q < H.size → ¬ A1 q → H1[q]? = H[q]?) → va_S A0 H0 H1 locs1 → W p l e R s m args below meth c H1 locs1 (cells + mc) (slots + ms) Q (F0 m (pc + 3) ls (rest))) : W p l e R s m args below meth c H locs cells slots Q (F0 m pc ls st0) := by
  intro T hT X
  rcases hr T hT X with ⟨v, st₀, t, T', L, h0, X', hL, e1, e2, ⟨⟨u, hv, hp, hb⟩, hF⟩, st⟩ | ⟨q, st₀, t, T', L, E, ce, h0, X', hL, e1, e2, ⟨u, hp, hb, hF⟩, hce, hcv, hcl, st⟩
  · cases hv
    obtain ⟨k1, k2, k3⟩ := vx_keep h0 e1 hS hA hf hL hF
    obtain ⟨t2, a1, b1⟩ := kk u t T'.heap (locs ++ L) e1.symm (by rw [← e2]; exact X'.warmed.alike) hp hb k1 k2 k3 T' rfl X'
    exact ⟨t2, st t2 a1, b1⟩
  · obtain ⟨k1, k2, k3⟩ := vx_keep h0 e1 hS hAX hf hL hF
    obtain ⟨t2, a1, b1⟩ := kx E ce q u t T'.heap (locs ++ L) e1.symm (by rw [← e2]; exact X'.warmed.alike) hp hb k1 k2 k3 (by rw [e1]; exact hce) hcv hcl T' rfl X'
    exact ⟨t2, st.trans a1, b1⟩
/-- caught by the row x of this method's table; the rows ahead don't take it -/
theorem vx_catch {own name : String} {E : String} {ce : Cell} {q : Addr} (hown : s.vm.findClass own = some m.cls) (pre : List ExceptionTableEntry) (x : ExceptionTableEntry) (suf : List ExceptionTableEntry) (hsplit : c.exceptionTable.toList = pre ++ x :: suf)
    (hpass : ∀ z ∈ pre, covers z pc = false ∨ (z.catchType ≠ 0 ∧ ∃ nm : String, (Cond.classLink own z.catchType nm).before args s = true ∧ va_Nc E nm s)) (hx : covers x pc = true) (h0 : x.catchType ≠ 0)
    (hlink : (Cond.classLink own x.catchType name).before args s = true) (hcast : (Cond.castable E name).before args s = true) (hcell : H[q]? = some ce) (hv : ce.vm = .none) (hcl : s.vm.findClass E = some ce.cls)
    (kk : W p l e R s m args below meth c H locs cells slots Q (F0 m x.handlerPc ls [.ref q])) : vx_W p l e R s m args below meth c H locs cells slots Q (F0 m pc ls rest) q := by
  intro T hT X
  have hpl : e.platform.magicAccessors = ({} : Platform).magicAccessors := by rw [X.admits.platform]
  obtain ⟨c3, c4, hc3, hc4, hasg⟩ := Cond.castable_spec hcast
  cases Option.some.inj (hc3.symm.trans hcl)
  obtain ⟨c5, hc5, hcl5⟩ := Cond.classLink_spec hown hlink e.platform hpl
  cases Option.some.inj (hc4.symm.trans hc5)
  obtain ⟨vm', X', st⟩ := X.thenCaughtThrough q (g := F0 m pc ls rest) rfl (Steps.refl _) (by rw [hT]; exact hcell) (by rw [hv]; rfl) (by obtain ⟨k9, h9, -⟩ := Vm.findClass_spec hcl; exact ⟨k9, h9⟩) pre x suf hsplit
    (fun z hz => by
      rcases hpass z hz with h | ⟨hz0, nm, hl1, hn1⟩
      · exact Or.inl h
      · obtain ⟨c6, hc6, hcl6⟩ := Cond.classLink_spec hown hl1 e.platform hpl
        obtain ⟨a8, b8, h1, h2, h3⟩ := hn1
        cases Option.some.inj (h1.symm.trans hcl)
        cases Option.some.inj (h2.symm.trans hc6)
        exact Or.inr ⟨hz0, _, hcl6, h3⟩) hx (Or.inr ⟨h0, c4, hcl5, hasg⟩)
  obtain ⟨t, a1, b1⟩ := kk (T.setVm vm') hT X'
  exact ⟨t, st.trans a1, b1⟩
end Rows
section Ends
variable {p : Program} {l : Launch} {e : Env} {R : Room} {s : State} {m : MethodId} {args : Array Value} {below : List Frame} {meth : Method} {c : Code} {H : Heap} {locs : List Loc} {cells slots : Nat} {Q : State → Prop}
variable {mc ms : Nat} {free : Addr → Prop} {A0 A1 : Nat → Prop} {H0 : Heap} {a : Array Value} {ls : Array Slot} {st0 rest : List Value}
variable {Qc : Array Value → State → Outcome → State → Prop} {XC : String → State → State → Prop}
/-- what a body that may throw owes at its end -/
def vx_MQ (below : List Frame) (Qc : Array Value → State → Outcome → State → Prop) (XC : String → State → State → Prop) (a : Array Value) (s : State) (mc ms : Nat) (free : Addr → Prop) : State → Prop := fun t =>
  ∃ o, t.status = .running ∧ Ended t below o ∧ vx_Q Qc XC mc ms free a s o t
theorem vx_ret {g : JFrame} {mc ms : Nat} (k : W p l e R s m args below meth c H locs cells slots (MQ below Qc args s mc ms free) g) : W p l e R s m args below meth c H locs cells slots (vx_MQ below Qc XC args s mc ms free) g := by
  intro T hT X
  obtain ⟨t, a1, o, b1, b2, b3, b4⟩ := k T hT X
  exact ⟨t, a1, o, b1, b2, Or.inl ⟨b3, b4⟩⟩
/-- not caught here: it goes on to the caller -/
theorem vx_widen {g : JFrame} {q : Addr} {k n : Nat} (h1 : cells ≤ k) (h2 : slots ≤ n) (kk : vx_W p l e R s m args below meth c H locs k n Q g q) : vx_W p l e R s m args below meth c H locs cells slots Q g q := fun T hT X => kk T hT (stand_widen X h1 h2)
theorem vx_out {pc : Nat} {E : String} {ce : Cell} {q : Addr} {mc ms : Nat} (hout : ∀ x ∈ c.exceptionTable.toList, covers x pc = false) (hlocks : meth.locks = false) (hcell : H[q]? = some ce) (hv : ce.vm = .none) (hcl : s.vm.findClass E = some ce.cls)
    (hx : ∀ t : State, t.heap = H → s.vm.Alike t.vm → XC E s t) (hf : ∀ z ∈ locs, free z.base) (hc : cells ≤ mc) (hs : slots ≤ ms) :
    vx_W p l e R s m args below meth c H locs cells slots (vx_MQ below Qc XC args s mc ms free) (F0 m pc ls rest) q := by
  intro T hT X
  obtain ⟨st1, hrun, hend, hW, hsm⟩ := X.leaveThrown q (g := F0 m pc ls rest) rfl rfl rfl hout hlocks
  have hcell9 : (T.setFrames (.throwing q :: below)).heap[q]? = some ce := by
    show T.heap[q]? = some ce
    rw [hT]; exact hcell
  exact ⟨_, st1, .threw q, hrun, hend, Or.inr ⟨q, rfl, E, ce, locs, hx _ hT hW.alike, hcell9, hv, hcl, hW, hsm.mono hc hs, hf⟩⟩
theorem vx_frame {U : State} {k n : Nat} (h : s.sameButNew ({ U with vm := s.vm } : State) locs k n) : s.heap.size ≤ U.heap.size ∧ ∀ q : Nat, q < s.heap.size → (∀ z ∈ locs, z.base ≠ q) → U.heap[q]? = s.heap[q]? := by
  obtain ⟨-, h2, -, -, -, h6⟩ := h
  refine ⟨h2, fun q hq hz => ?_⟩
  obtain ⟨c9, e1, e2, e3, e4⟩ := h6 q _ (Array.getElem?_eq_getElem hq)
  have hs : c9.slots = (s.heap[q]).slots := Array.ext_getElem? fun i => e4 i fun hm => hz _ hm rfl
  have h9 : c9 = s.heap[q] := by
    rw [hs] at e2
    exact e2
  have e5 : U.heap[q]? = some c9 := e1
  rw [e5, h9, Array.getElem?_eq_getElem hq]
/-- the words of a throw but the four that speak of the heap -/
def vx_no (w : Cond) : Bool := decide (w ≠ .isRef (.static Bundle.tN "UNASSIGNED_STACK" Bundle.steD)) && decide (w ≠ .isRef (.static Bundle.tN "SUPPRESSED_SENTINEL" Bundle.listD)) && decide (w ≠ .laysStatic Bundle.tN "UNASSIGNED_STACK" Bundle.steD) && decide (w ≠ .laysStatic Bundle.tN "SUPPRESSED_SENTINEL" Bundle.listD)
def vx_at0 (own : String) (ic : Nat) (X : String) (names : List String) : List Cond := (Bundle.ownAtoms0 own ic X names).filter vx_no
def vx_atS (own : String) (ic : Nat) (X : String) (names : List String) : List Cond := (Bundle.ownAtoms own ic X names).filter vx_no
/-- a word that the tables alone decide, or a good one -/
def vx_ot (w : Cond) : Bool := w.onTables || goodWord w
theorem vx_ot_at {args a' : Array Value} {s U : State} {w : Cond} (hW : s.WarmedH U.vm) (hvm : s.vm = U.vm) (hg : vx_ot w = true) (h : w.before args s = true) : w.before a' U = true := by
  simp only [vx_ot, Bool.or_eq_true] at hg
  rcases hg with hg | hg
  · exact va_tabs hg hvm h
  · exact word_at hW (good_of_word hg) h
/-- a list's words: the good ones out of the method's own list, the others by premises of their own -/
theorem vx_hat {args : Array Value} {s : State} {L B : List Cond} (h1 : ∀ w ∈ L.filter goodWord, w.before args s = true) (h2 : ∀ w ∈ L.filter (fun w => !goodWord w), w ∈ B) (h3 : ∀ w ∈ B, w.before args s = true) : ∀ w ∈ L, w.before args s = true := by
  intro w hw
  by_cases g : goodWord w = true
  · exact h1 w (List.mem_filter.mpr ⟨hw, g⟩)
  · refine h3 w (h2 w (List.mem_filter.mpr ⟨hw, ?_⟩))
    show (!goodWord w) = true
    cases hgw : goodWord w
    · rfl
    · exact absurd hgw g
theorem vx_c {args : Array Value} {s : State} {w : Cond} {B : List Cond} (h : w.before args s = true) (t : ∀ w ∈ B, w.before args s = true) : ∀ w' ∈ w :: B, w'.before args s = true := fun w' h' => (List.mem_cons.mp h').elim (fun e => by rw [e]; exact h) (t w')
theorem vx_n {args : Array Value} {s : State} : ∀ w ∈ ([] : List Cond), w.before args s = true := fun _ h => nomatch h
theorem vx_own {args : Array Value} {s : State} {L : List Cond} (h1 : ∀ w ∈ L.filter vx_no, w.before args s = true)
    (hU : (Cond.isRef (.static Bundle.tN "UNASSIGNED_STACK" Bundle.steD)).before args s = true) (hN : (Cond.isRef (.static Bundle.tN "SUPPRESSED_SENTINEL" Bundle.listD)).before args s = true)
    (lU : (Cond.laysStatic Bundle.tN "UNASSIGNED_STACK" Bundle.steD).before args s = true) (lN : (Cond.laysStatic Bundle.tN "SUPPRESSED_SENTINEL" Bundle.listD).before args s = true) : ∀ w ∈ L, w.before args s = true := by
  intro w hw
  by_cases e1 : w = .isRef (.static Bundle.tN "UNASSIGNED_STACK" Bundle.steD)
  · rw [e1]; exact hU
  · by_cases e2 : w = .isRef (.static Bundle.tN "SUPPRESSED_SENTINEL" Bundle.listD)
    · rw [e2]; exact hN
    · by_cases e3 : w = .laysStatic Bundle.tN "UNASSIGNED_STACK" Bundle.steD
      · rw [e3]; exact lU
      · by_cases e4 : w = .laysStatic Bundle.tN "SUPPRESSED_SENTINEL" Bundle.listD
        · rw [e4]; exact lN
        · exact h1 w (List.mem_filter.mpr ⟨hw, by unfold vx_no; rw [decide_eq_true e1, decide_eq_true e2, decide_eq_true e3, decide_eq_true e4]; rfl⟩)
/-- where a static field lies, its class's statics cell in H -/
def vx_L (C n d : String) (A : Nat → Prop) (U : State) (H : Heap) : Prop := ∃ (c : ClassId) (k : Class) (i : Nat) (f : Field) (a : Nat) (cell : Cell), U.vm.findClass C = some c ∧ U.fieldFound? C n d = some (c, k, i, f) ∧ f.isStatic = true ∧ k.statics = some a ∧ H[a]? = some cell ∧ cell.vm.isStatics = true ∧ cell.cls = c ∧ f.slot < cell.slots.size ∧ k.staticTypes[f.slot]? = some f.type ∧ ¬ A a
theorem vx_L.moved {C n d : String} {A : Nat → Prop} {u U : State} {H : Heap} (hvm : u.vm.Alike U.vm) (h : vx_L C n d A u H) : vx_L C n d A U H := by
  obtain ⟨c, k, i, f, a, cell, h1, h2, h3, h4, h5, h6, h7, h8, h9, h10⟩ := h
  obtain ⟨k', hi', he⟩ := State.fieldFound?_setVm hvm h2
  exact ⟨c, k', i, f, a, cell, by rw [hvm.findClass]; exact h1, hi', h3, by rw [he]; exact h4, h5, h6, h7, h8, by rw [he]; exact h9, h10⟩
theorem vx_L.kept {C n d : String} {A : Nat → Prop} {U : State} {H H1 : Heap} (h : vx_L C n d A U H) (hq : ∀ a : Nat, a < H.size → ¬ A a → H1[a]? = H[a]?) : vx_L C n d A U H1 := by
  obtain ⟨c, k, i, f, a, cell, h1, h2, h3, h4, h5, h6, h7, h8, h9, h10⟩ := h
  exact ⟨c, k, i, f, a, cell, h1, h2, h3, h4, by rw [hq a (Array.getElem?_eq_some_iff.mp h5).1 h10]; exact h5, h6, h7, h8, h9, h10⟩
theorem vx_L.narrow {C n d : String} {A B : Nat → Prop} {U : State} {H : Heap} (h : vx_L C n d A U H) (hAB : ∀ q, B q → A q) : vx_L C n d B U H := by
  obtain ⟨c, k, i, f, a, cell, h1, h2, h3, h4, h5, h6, h7, h8, h9, h10⟩ := h
  exact ⟨c, k, i, f, a, cell, h1, h2, h3, h4, h5, h6, h7, h8, h9, fun z => h10 (hAB _ z)⟩
theorem vx_L.word {C n d : String} {A : Nat → Prop} {s : State} {args : Array Value} (h : vx_L C n d A s s.heap) : (Cond.laysStatic C n d).before args s = true := by
  obtain ⟨c, k, i, f, a, cell, h1, h2, h3, h4, h5, h6, h7, h8, h9, -⟩ := h
  show (Cond.laysStatic C n d).holds args s none s [] = true
  exact Cond.laysStatic_of h1 h2 h3 h4 h5 h6 h7 h8 h9
/-- .. and what it holds: null or some reference -/
def vx_Zq (C n d : String) (A : Nat → Prop) (U : State) (H : Heap) : Prop := va_Zq C n d A U H ∧ vx_L C n d A U H
theorem vx_Zq.moved {C n d : String} {A : Nat → Prop} {u U : State} {H : Heap} (hvm : u.vm.Alike U.vm) (h : vx_Zq C n d A u H) : vx_Zq C n d A U H := ⟨va_Zq.moved hvm h.1, vx_L.moved hvm h.2⟩
theorem vx_Zq.kept {C n d : String} {A : Nat → Prop} {U : State} {H H1 : Heap} (h : vx_Zq C n d A U H) (hq : ∀ a : Nat, a < H.size → ¬ A a → H1[a]? = H[a]?) : vx_Zq C n d A U H1 := ⟨va_Zq.kept h.1 hq, vx_L.kept h.2 hq⟩
theorem vx_Zq.narrow {C n d : String} {A B : Nat → Prop} {U : State} {H : Heap} (h : vx_Zq C n d A U H) (hAB : ∀ q, B q → A q) : vx_Zq C n d B U H := ⟨va_Zq.narrow h.1 hAB, vx_L.narrow h.2 hAB⟩
theorem vx_Zqof {args : Array Value} {s : State} {C n d : String} {A : Nat → Prop} (hl : (Cond.laysStatic C n d).before args s = true) (hini : (Cond.initialized C).before args s = true) (h : (Cond.isRef (.static C n d)).before args s = true) (hA : ∀ a : Nat, a < s.heap.size → ¬ A a) : vx_Zq C n d A s s.heap := by
  refine ⟨va_Zqof hl hini h hA, ?_⟩
  obtain ⟨c, k, i, f, a, cell, h1, h2, h3, h4, h5, h6, h7, h8, h9⟩ := Cond.laysStatic_spec hl
  exact ⟨c, k, i, f, a, cell, h1, h2, h3, h4, h5, h6, h7, h8, h9, hA a (Array.getElem?_eq_some_iff.mp h5).1⟩
theorem vx_isRef {C n d : String} {v : Value} {A : Nat → Prop} {s : State} {args : Array Value} (h : va_Z C n d v A s s.heap) (hv : v.isRef = true) : (Cond.isRef (.static C n d)).before args s = true := by
  obtain ⟨cf, kf, fi, f, a, cell, h1, h2, h3, h4, h5, h6, h7, -⟩ := h
  have he : (Term.static C n d).eval args s none [] s = some v := by
    simp [Term.eval, State.fieldNamed?, h1, h2, h4, h5, h6, h7]
  simp only [Cond.before, Cond.holds, Cond.value, he]
  cases v <;> simp_all [Value.isRef]
theorem vx_isRefq {C n d : String} {A : Nat → Prop} {s : State} {args : Array Value} (h : va_Zq C n d A s s.heap) : (Cond.isRef (.static C n d)).before args s = true := by
  rcases h with h | ⟨t, h⟩
  · exact vx_isRef h rfl
  · exact vx_isRef h rfl
/-- the same frame, seen from here: as if the method were called anew in this heap -/
theorem vx_rebase {T : State} (X : Stand p l e R s m args below meth c T locs cells slots) {R' : Room} (hf : R'.frames ≤ R.frames) (hl : R'.locals ≤ R.locals) (hc : cells + R'.cells ≤ R.cells) (hs : slots + R'.slots ≤ R.slots) :
    Stand p l e R' ((T.setVm s.vm).setFrames (.invoking m args :: below)) m args below meth c T [] 0 0 := by
  have htop : (T.setVm s.vm).topJava?.isSome := X.here.top
  have hF : ((T.setVm s.vm).setFrames (.invoking m args :: below)).frames = .invoking m args :: below := State.frames_setFrames _ (State.cur_lt_of_top htop)
  obtain ⟨g₀, hg0⟩ := Option.isSome_iff_exists.mp htop
  obtain ⟨r, hr⟩ := State.topJava?_eq_some.mp hg0
  have hl9 : e.platform.stackLimits (T.setVm s.vm).me = e.platform.stackLimits s.me := X.limits
  have hb9 : (T.setVm s.vm).me.stackBytes = s.me.stackBytes := X.bytes
  refine ⟨X.admits, X.cas, X.clock, hF, ?_, X.hears, X.method, X.code, X.here, X.tail, X.warmed, ?_, ?_, ?_⟩
  · have h := X.room
    have hU : ((T.setVm s.vm).setFrames (.invoking m args :: below)).localsInUse = s.localsInUse := by
      rw [State.localsInUse_invoking hF (meth := meth) (c := c) X.method X.code, State.localsInUse_invoking X.frames X.method X.code]
    simp only [State.hasRoom, Bool.and_eq_true, decide_eq_true_eq] at h ⊢
    obtain ⟨⟨⟨⟨h1, h2, h3, h4, h5, h6⟩, h7⟩, h8⟩, h9⟩ := h
    rw [X.frames, List.length_cons] at h2 h3
    have q1 := X.heapSize
    have q2 := X.used
    simp only [hF, hU, List.length_cons, State.stackLimits_setFrames, State.stackBytes_setFrames, hl9, hb9]
    refine ⟨⟨⟨⟨by omega, by omega, by omega, by omega, by omega, h6⟩, ?_⟩, ?_⟩, X.book⟩
    · show T.heap.size + R'.cells ≤ e.platform.maxCells
      omega
    · show T.slotsUsed + R'.slots ≤ e.platform.maxSlots
      omega
  · rw [State.stackLimits_setFrames]; rfl
  · rw [State.stackBytes_setFrames]; rfl
  · refine ⟨?_, Nat.le_refl _, Nat.le_refl _, ?_, ?_, fun a c9 h9 => ⟨c9, h9, rfl, rfl, fun _ _ => rfl⟩⟩
    · obtain ⟨t, ht, -⟩ := State.frames_cons hr
      show T.setVm s.vm = { ((T.setVm s.vm).setFrames (.invoking m args :: below)).setFrames (T.setVm s.vm).frames with heap := T.heap, slotsUsed := T.slotsUsed }
      rw [State.setFrames_setFrames, State.setFrames_self ht]
      rfl
    · show T.slotsUsed = T.slotsUsed + ((T.heap.toList.drop T.heap.size).map (·.slots.size)).sum
      rw [List.drop_eq_nil_of_le (Nat.le_of_eq Array.length_toList)]
      rfl
    · show ((T.heap.toList.drop T.heap.size).map (·.slots.size)).sum ≤ 0
      rw [List.drop_eq_nil_of_le (Nat.le_of_eq Array.length_toList)]
      exact Nat.le_refl _
/-- 'throw new E()': new; dup; invokespecial; athrow -/
theorem vx_throw0 {cc : ByteArray} {pc : Nat} (hexec : p.tables.exec = Jvm.exec) (hb : c.code = cc) (hl : l.stackTraces = false) {own cls : String} {names : List String} {ik ic mc ms : Nat} {A : Nat → Prop}
    (hown : s.vm.findClass own = some m.cls) (hcls : Bundle.fit cls = true) (hnames : ∀ n ∈ names, Bundle.fit n = true)
    (hk : (Cond.classLink own ik cls).before args s = true) (hini : (Cond.initialized cls).before args s = true) (hat : ∀ w ∈ vx_at0 own ic cls names, w.before args s = true)
    (hgood : ∀ w ∈ Cond.classLink own ik cls :: Cond.initialized cls :: vx_at0 own ic cls names, vx_ot w = true)
    (hU : vx_Zq Bundle.tN "UNASSIGNED_STACK" Bundle.steD A s s.heap) (hN : vx_Zq Bundle.tN "SUPPRESSED_SENTINEL" Bundle.listD A s s.heap) (hS : va_S A s.heap H locs) (hsize : ls.size = c.maxLocals)
    (d0 : decode cc pc = .ok (.new ik, 3)) (d3 : decode cc (pc + 3) = .ok (.dup, 1)) (d4 : decode cc (pc + 4) = .ok (.invokespecial ic, 3)) (d7 : decode cc (pc + 7) = .ok (.athrow, 1))
    (hout : ∀ x ∈ c.exceptionTable.toList, covers x (pc + 7) = false)
    (hRframes : names.length + 3 < R.frames) (hRlocals : (rest.map fun v => v.category).sum + (13 * (names.length + 1) + 42) ≤ R.locals) (hRcells : cells + 1 ≤ R.cells) (hRslots : slots + 6 ≤ R.slots) (hlocks : meth.locks = false)
    (hx : ∀ t : State, s.vm.Alike t.vm → H.size ≤ t.heap.size → (∀ q : Nat, q < H.size → t.heap[q]? = H[q]?) → XC cls s t)
    (hf : ∀ z ∈ locs, free z.base) (hc : cells + 1 ≤ mc) (hs : slots + 6 ≤ ms) :
    W p l e R s m args below meth c H locs cells slots (vx_MQ below Qc XC args s mc ms free) (F0 m pc ls rest) := by
  intro T hT X
  have htr : e.platform.stackTraces = false := (show e.platform.stackTraces = l.stackTraces by rw [X.admits.platform]).trans hl
  have Y := vx_rebase X (R' := { frames := R.frames, locals := R.locals, cells := 1, slots := 6 }) (Nat.le_refl _) (Nat.le_refl _) hRcells hRslots
  obtain ⟨s', hA⟩ : ∃ z, z = (T.setVm s.vm).setFrames (.invoking m args :: below) := ⟨_, rfl⟩
  rw [← hA] at Y
  have hvm : s'.vm = s.vm := by rw [hA]; rfl
  have hhp : s'.heap = H := by rw [hA]; exact hT
  have hW0 : s.WarmedH s'.vm := by rw [hvm]; exact State.WarmedH.refl s
  have hat' : ∀ w ∈ vx_at0 own ic cls names, w.before args s' = true := fun w hw => vx_ot_at hW0 hvm.symm (hgood w (List.mem_cons_of_mem _ (List.mem_cons_of_mem _ hw))) (hat w hw)
  have hk' : (Cond.classLink own ik cls).before args s' = true := vx_ot_at hW0 hvm.symm (hgood _ List.mem_cons_self) hk
  have hini' : (Cond.initialized cls).before args s' = true := vx_ot_at hW0 hvm.symm (hgood _ (List.mem_cons_of_mem _ List.mem_cons_self)) hini
  have hU' : vx_Zq Bundle.tN "UNASSIGNED_STACK" Bundle.steD A s' s'.heap := by rw [hhp]; exact vx_Zq.moved hW0.alike (hU.kept hS.2.1)
  have hN' : vx_Zq Bundle.tN "SUPPRESSED_SENTINEL" Bundle.listD A s' s'.heap := by rw [hhp]; exact vx_Zq.moved hW0.alike (hN.kept hS.2.1)
  have h : ∀ w ∈ Bundle.ownAtoms0 own ic cls names, w.before args s' = true := vx_own hat' (vx_isRefq hU'.1) (vx_isRefq hN'.1) hU'.2.word hN'.2.word
  have hown' : s'.vm.findClass own = some m.cls := by rw [hvm]; exact hown
  have hins : (Cond.instantiable cls 6).before args s' = true := h _ (by simp [Bundle.ownAtoms0])
  obtain ⟨vm₁, cX, kX, hfX, hkX, -, -, X₁, st1⟩ := Y.newCold hexec (own := own) (C := cls) (index := ik) (n := 6) hown' hk' hins hini'
    (g := F0 m pc ls rest) rfl (by rw [hb]; exact d0) (Nat.le_refl _) (Nat.le_refl _)
  generalize hT1 : (T.setVm vm₁).pushCell { cls := cX, slots := kX.instanceTypes.map defaultValue, vm := .none } = T1 at X₁ st1
  have hcat : (Value.ref T.heap.size).category = 1 := rfl
  have hcellA : T1.heap[T.heap.size]? = some (freshCell cX kX) := by rw [← hT1]; exact State.heap_pushCell_size _ _
  have d3' : decode c.code (pc + 3) = .ok (.dup, 1) := by rw [hb]; exact d3
  obtain ⟨U, hsteps, hrun, hend, hW, hsame, ce, hce, hO⟩ := X₁.ctorThrow0 hexec htr (own := own) (cls := cls) (names := names) (ic := ic) hown' hcls hnames h (fun x hx => nomatch hx) hfX hkX hcellA (by rw [hhp, hT]; exact Nat.le_refl _)
    (g := { method := m, pc := pc + 4, locals := ls, stack := .ref T.heap.size :: .ref T.heap.size :: rest, locked := none }) rfl hsize rfl rfl (rest := rest) rfl
    (by rw [hb]; exact d4) (by rw [hb]; exact d7) hout hRframes (by simp only [List.map_cons, List.sum_cons, hcat]; omega) hlocks
  obtain ⟨f1, f2⟩ := vx_frame hsame
  rw [hhp] at f1 f2
  have hWs : s.WarmedH U.vm := State.WarmedH.trans hW0 hW
  have hcl : s.vm.findClass cls = some ce.cls := by
    have h9 := hO.cls
    rw [hvm] at h9
    exact h9
  have hall : s.sameButNew ({ U with vm := s.vm } : State) locs mc ms := by
    subst hA
    obtain ⟨e1, e2⟩ := hsame
    rw [State.setFrames_setFrames] at e1
    have h2 : (T.setVm s.vm).sameButNew ({ U with vm := s.vm } : State) [] (0 + 1) (0 + 6) := ⟨e1, e2⟩
    have h3 := X.same.trans h2
    rw [List.append_nil] at h3
    exact h3.mono hc hs
  refine ⟨U, ?_, .threw T.heap.size, hrun, hend, Or.inr ⟨T.heap.size, rfl, cls, ce, locs, hx U hWs.alike f1 (fun q hq => f2 q hq (fun z hz => nomatch hz)), hce, hO.vm, hcl, hWs, hall, hf⟩⟩
  refine st1 _ ?_
  show Steps p.tables e below (T1.setTop { method := m, pc := pc + 3, locals := ls, stack := .ref T.heap.size :: rest, locked := none }) _
  jvm_step X₁.here [X₁.here.top, hexec, d3', Value.category]
  exact hsteps
/-- 'throw new E("text")': new; dup; ldc; invokespecial; athrow -/
theorem vx_throwS {cc : ByteArray} {pc : Nat} (hexec : p.tables.exec = Jvm.exec) (hb : c.code = cc) (hl : l.stackTraces = false) {own cls text : String} {names : List String} {ik is ic mc ms sa : Nat} {A : Nat → Prop}
    (hown : s.vm.findClass own = some m.cls) (hcls : Bundle.fit cls = true) (hnames : ∀ n ∈ names, Bundle.fit n = true)
    (hk : (Cond.classLink own ik cls).before args s = true) (hini : (Cond.initialized cls).before args s = true) (hstr : vk_R own is text sa s) (hat : ∀ w ∈ vx_atS own ic cls names, w.before args s = true)
    (hgood : ∀ w ∈ Cond.classLink own ik cls :: Cond.initialized cls :: vx_atS own ic cls names, vx_ot w = true)
    (hU : vx_Zq Bundle.tN "UNASSIGNED_STACK" Bundle.steD A s s.heap) (hN : vx_Zq Bundle.tN "SUPPRESSED_SENTINEL" Bundle.listD A s s.heap) (hS : va_S A s.heap H locs) (hsize : ls.size = c.maxLocals)
    (d0 : decode cc pc = .ok (.new ik, 3)) (d3 : decode cc (pc + 3) = .ok (.dup, 1)) (d4 : decode cc (pc + 4) = .ok (.ldc is, 2)) (d6 : decode cc (pc + 6) = .ok (.invokespecial ic, 3)) (d9 : decode cc (pc + 9) = .ok (.athrow, 1))
    (hout : ∀ x ∈ c.exceptionTable.toList, covers x (pc + 9) = false)
    (hRframes : names.length + 3 < R.frames) (hRlocals : (rest.map fun v => v.category).sum + (13 * (names.length + 1) + 43) ≤ R.locals) (hRcells : cells + 1 ≤ R.cells) (hRslots : slots + 6 ≤ R.slots) (hlocks : meth.locks = false)
    (hx : ∀ t : State, s.vm.Alike t.vm → H.size ≤ t.heap.size → (∀ q : Nat, q < H.size → t.heap[q]? = H[q]?) → XC cls s t)
    (hf : ∀ z ∈ locs, free z.base) (hc : cells + 1 ≤ mc) (hs : slots + 6 ≤ ms) :
    W p l e R s m args below meth c H locs cells slots (vx_MQ below Qc XC args s mc ms free) (F0 m pc ls rest) := by
  intro T hT X
  have htr : e.platform.stackTraces = false := (show e.platform.stackTraces = l.stackTraces by rw [X.admits.platform]).trans hl
  have Y := vx_rebase X (R' := { frames := R.frames, locals := R.locals, cells := 1, slots := 6 }) (Nat.le_refl _) (Nat.le_refl _) hRcells hRslots
  obtain ⟨s', hA⟩ : ∃ z, z = (T.setVm s.vm).setFrames (.invoking m args :: below) := ⟨_, rfl⟩
  rw [← hA] at Y
  have hvm : s'.vm = s.vm := by rw [hA]; rfl
  have hhp : s'.heap = H := by rw [hA]; exact hT
  have hW0 : s.WarmedH s'.vm := by rw [hvm]; exact State.WarmedH.refl s
  have hat' : ∀ w ∈ vx_atS own ic cls names, w.before args s' = true := fun w hw => vx_ot_at hW0 hvm.symm (hgood w (List.mem_cons_of_mem _ (List.mem_cons_of_mem _ hw))) (hat w hw)
  have hk' : (Cond.classLink own ik cls).before args s' = true := vx_ot_at hW0 hvm.symm (hgood _ List.mem_cons_self) hk
  have hini' : (Cond.initialized cls).before args s' = true := vx_ot_at hW0 hvm.symm (hgood _ (List.mem_cons_of_mem _ List.mem_cons_self)) hini
  have hU' : vx_Zq Bundle.tN "UNASSIGNED_STACK" Bundle.steD A s' s'.heap := by rw [hhp]; exact vx_Zq.moved hW0.alike (hU.kept hS.2.1)
  have hN' : vx_Zq Bundle.tN "SUPPRESSED_SENTINEL" Bundle.listD A s' s'.heap := by rw [hhp]; exact vx_Zq.moved hW0.alike (hN.kept hS.2.1)
  have h : ∀ w ∈ Bundle.ownAtoms own ic cls names, w.before args s' = true := vx_own hat' (vx_isRefq hU'.1) (vx_isRefq hN'.1) hU'.2.word hN'.2.word
  have hown' : s'.vm.findClass own = some m.cls := by rw [hvm]; exact hown
  have hins : (Cond.instantiable cls 6).before args s' = true := h _ (by simp [Bundle.ownAtoms])
  obtain ⟨vm₁, cX, kX, hfX, hkX, -, -, X₁, st1⟩ := Y.newCold hexec (own := own) (C := cls) (index := ik) (n := 6) hown' hk' hins hini'
    (g := F0 m pc ls rest) rfl (by rw [hb]; exact d0) (Nat.le_refl _) (Nat.le_refl _)
  generalize hT1 : (T.setVm vm₁).pushCell { cls := cX, slots := kX.instanceTypes.map defaultValue, vm := .none } = T1 at X₁ st1
  have hcat : (Value.ref T.heap.size).category = 1 := rfl
  have hcellA : T1.heap[T.heap.size]? = some (freshCell cX kX) := by rw [← hT1]; exact State.heap_pushCell_size _ _
  have d3' : decode c.code (pc + 3) = .ok (.dup, 1) := by rw [hb]; exact d3
  have d4' : decode c.code (pc + 4) = .ok (.ldc is, 2) := by rw [hb]; exact d4
  have hstr' : vk_R own is text sa s' := vk_R.warm hW0 hstr
  obtain ⟨U, hsteps, hrun, hend, hW, hsame, ce, hce, hO⟩ := X₁.ctorThrowS hexec htr (own := own) (cls := cls) (names := names) (ic := ic) hown' hcls hnames h (fun x hx => nomatch hx) hfX hkX hcellA (by rw [hhp, hT]; exact Nat.le_refl _) (msg := .ref sa) rfl
    (g := { method := m, pc := pc + 6, locals := ls, stack := .ref sa :: .ref T.heap.size :: .ref T.heap.size :: rest, locked := none }) rfl hsize rfl rfl (rest := rest) rfl
    (by rw [hb]; exact d6) (by rw [hb]; exact d9) hout hRframes (by simp only [List.map_cons, List.sum_cons, hcat]; omega) hlocks
  obtain ⟨f1, f2⟩ := vx_frame hsame
  rw [hhp] at f1 f2
  have hWs : s.WarmedH U.vm := State.WarmedH.trans hW0 hW
  have hcl : s.vm.findClass cls = some ce.cls := by
    have h9 := hO.cls
    rw [hvm] at h9
    exact h9
  have hall : s.sameButNew ({ U with vm := s.vm } : State) locs mc ms := by
    subst hA
    obtain ⟨e1, e2⟩ := hsame
    rw [State.setFrames_setFrames] at e1
    have h2 : (T.setVm s.vm).sameButNew ({ U with vm := s.vm } : State) [] (0 + 1) (0 + 6) := ⟨e1, e2⟩
    have h3 := X.same.trans h2
    rw [List.append_nil] at h3
    exact h3.mono hc hs
  refine ⟨U, ?_, .threw T.heap.size, hrun, hend, Or.inr ⟨T.heap.size, rfl, cls, ce, locs, hx U hWs.alike f1 (fun q hq => f2 q hq (fun z hz => nomatch hz)), hce, hO.vm, hcl, hWs, hall, hf⟩⟩
  refine st1 _ ?_
  show Steps p.tables e below (T1.setTop { method := m, pc := pc + 3, locals := ls, stack := .ref T.heap.size :: rest, locked := none }) _
  jvm_step X₁.here [X₁.here.top, hexec, d3', Value.category]
  exact X₁.ldcString hexec (own := own) (text := text) (index := is) (a := sa) hown' hstr'.1 hstr'.2
    (g := { method := m, pc := pc + 4, locals := ls, stack := .ref T.heap.size :: .ref T.heap.size :: rest, locked := none }) rfl d4' _ hsteps
/-- 'throw new E("text")', the text by a wide index -/
theorem vx_throwSW {cc : ByteArray} {pc : Nat} (hexec : p.tables.exec = Jvm.exec) (hb : c.code = cc) (hl : l.stackTraces = false) {own cls text : String} {names : List String} {ik is ic mc ms sa : Nat} {A : Nat → Prop}
    (hown : s.vm.findClass own = some m.cls) (hcls : Bundle.fit cls = true) (hnames : ∀ n ∈ names, Bundle.fit n = true)
    (hk : (Cond.classLink own ik cls).before args s = true) (hini : (Cond.initialized cls).before args s = true) (hstr : vk_R own is text sa s) (hat : ∀ w ∈ vx_atS own ic cls names, w.before args s = true)
    (hgood : ∀ w ∈ Cond.classLink own ik cls :: Cond.initialized cls :: vx_atS own ic cls names, vx_ot w = true)
    (hU : vx_Zq Bundle.tN "UNASSIGNED_STACK" Bundle.steD A s s.heap) (hN : vx_Zq Bundle.tN "SUPPRESSED_SENTINEL" Bundle.listD A s s.heap) (hS : va_S A s.heap H locs) (hsize : ls.size = c.maxLocals)
    (d0 : decode cc pc = .ok (.new ik, 3)) (d3 : decode cc (pc + 3) = .ok (.dup, 1)) (d4 : decode cc (pc + 4) = .ok (.ldc_w is, 3)) (d7 : decode cc (pc + 7) = .ok (.invokespecial ic, 3)) (d10 : decode cc (pc + 10) = .ok (.athrow, 1))
    (hout : ∀ x ∈ c.exceptionTable.toList, covers x (pc + 10) = false)
    (hRframes : names.length + 3 < R.frames) (hRlocals : (rest.map fun v => v.category).sum + (13 * (names.length + 1) + 43) ≤ R.locals) (hRcells : cells + 1 ≤ R.cells) (hRslots : slots + 6 ≤ R.slots) (hlocks : meth.locks = false)
    (hx : ∀ t : State, s.vm.Alike t.vm → H.size ≤ t.heap.size → (∀ q : Nat, q < H.size → t.heap[q]? = H[q]?) → XC cls s t)
    (hf : ∀ z ∈ locs, free z.base) (hc : cells + 1 ≤ mc) (hs : slots + 6 ≤ ms) :
    W p l e R s m args below meth c H locs cells slots (vx_MQ below Qc XC args s mc ms free) (F0 m pc ls rest) := by
  intro T hT X
  have htr : e.platform.stackTraces = false := (show e.platform.stackTraces = l.stackTraces by rw [X.admits.platform]).trans hl
  have Y := vx_rebase X (R' := { frames := R.frames, locals := R.locals, cells := 1, slots := 6 }) (Nat.le_refl _) (Nat.le_refl _) hRcells hRslots
  obtain ⟨s', hA⟩ : ∃ z, z = (T.setVm s.vm).setFrames (.invoking m args :: below) := ⟨_, rfl⟩
  rw [← hA] at Y
  have hvm : s'.vm = s.vm := by rw [hA]; rfl
  have hhp : s'.heap = H := by rw [hA]; exact hT
  have hW0 : s.WarmedH s'.vm := by rw [hvm]; exact State.WarmedH.refl s
  have hat' : ∀ w ∈ vx_atS own ic cls names, w.before args s' = true := fun w hw => vx_ot_at hW0 hvm.symm (hgood w (List.mem_cons_of_mem _ (List.mem_cons_of_mem _ hw))) (hat w hw)
  have hk' : (Cond.classLink own ik cls).before args s' = true := vx_ot_at hW0 hvm.symm (hgood _ List.mem_cons_self) hk
  have hini' : (Cond.initialized cls).before args s' = true := vx_ot_at hW0 hvm.symm (hgood _ (List.mem_cons_of_mem _ List.mem_cons_self)) hini
  have hU' : vx_Zq Bundle.tN "UNASSIGNED_STACK" Bundle.steD A s' s'.heap := by rw [hhp]; exact vx_Zq.moved hW0.alike (hU.kept hS.2.1)
  have hN' : vx_Zq Bundle.tN "SUPPRESSED_SENTINEL" Bundle.listD A s' s'.heap := by rw [hhp]; exact vx_Zq.moved hW0.alike (hN.kept hS.2.1)
  have h : ∀ w ∈ Bundle.ownAtoms own ic cls names, w.before args s' = true := vx_own hat' (vx_isRefq hU'.1) (vx_isRefq hN'.1) hU'.2.word hN'.2.word
  have hown' : s'.vm.findClass own = some m.cls := by rw [hvm]; exact hown
  have hins : (Cond.instantiable cls 6).before args s' = true := h _ (by simp [Bundle.ownAtoms])
  obtain ⟨vm₁, cX, kX, hfX, hkX, -, -, X₁, st1⟩ := Y.newCold hexec (own := own) (C := cls) (index := ik) (n := 6) hown' hk' hins hini'
    (g := F0 m pc ls rest) rfl (by rw [hb]; exact d0) (Nat.le_refl _) (Nat.le_refl _)
  generalize hT1 : (T.setVm vm₁).pushCell { cls := cX, slots := kX.instanceTypes.map defaultValue, vm := .none } = T1 at X₁ st1
  have hcat : (Value.ref T.heap.size).category = 1 := rfl
  have hcellA : T1.heap[T.heap.size]? = some (freshCell cX kX) := by rw [← hT1]; exact State.heap_pushCell_size _ _
  have d3' : decode c.code (pc + 3) = .ok (.dup, 1) := by rw [hb]; exact d3
  have d4' : decode c.code (pc + 4) = .ok (.ldc_w is, 3) := by rw [hb]; exact d4
  have hstr' : vk_R own is text sa s' := vk_R.warm hW0 hstr
  obtain ⟨U, hsteps, hrun, hend, hW, hsame, ce, hce, hO⟩ := X₁.ctorThrowS hexec htr (own := own) (cls := cls) (names := names) (ic := ic) hown' hcls hnames h (fun x hx => nomatch hx) hfX hkX hcellA (by rw [hhp, hT]; exact Nat.le_refl _) (msg := .ref sa) rfl
    (g := { method := m, pc := pc + 7, locals := ls, stack := .ref sa :: .ref T.heap.size :: .ref T.heap.size :: rest, locked := none }) rfl hsize rfl rfl (rest := rest) rfl
    (by rw [hb]; exact d7) (by rw [hb]; exact d10) hout hRframes (by simp only [List.map_cons, List.sum_cons, hcat]; omega) hlocks
  obtain ⟨f1, f2⟩ := vx_frame hsame
  rw [hhp] at f1 f2
  have hWs : s.WarmedH U.vm := State.WarmedH.trans hW0 hW
  have hcl : s.vm.findClass cls = some ce.cls := by
    have h9 := hO.cls
    rw [hvm] at h9
    exact h9
  have hall : s.sameButNew ({ U with vm := s.vm } : State) locs mc ms := by
    subst hA
    obtain ⟨e1, e2⟩ := hsame
    rw [State.setFrames_setFrames] at e1
    have h2 : (T.setVm s.vm).sameButNew ({ U with vm := s.vm } : State) [] (0 + 1) (0 + 6) := ⟨e1, e2⟩
    have h3 := X.same.trans h2
    rw [List.append_nil] at h3
    exact h3.mono hc hs
  refine ⟨U, ?_, .threw T.heap.size, hrun, hend, Or.inr ⟨T.heap.size, rfl, cls, ce, locs, hx U hWs.alike f1 (fun q hq => f2 q hq (fun z hz => nomatch hz)), hce, hO.vm, hcl, hWs, hall, hf⟩⟩
  refine st1 _ ?_
  show Steps p.tables e below (T1.setTop { method := m, pc := pc + 3, locals := ls, stack := .ref T.heap.size :: rest, locked := none }) _
  jvm_step X₁.here [X₁.here.top, hexec, d3', Value.category]
  exact X₁.ldcStringW hexec (own := own) (text := text) (index := is) (a := sa) hown' hstr'.1 hstr'.2
    (g := { method := m, pc := pc + 4, locals := ls, stack := .ref T.heap.size :: .ref T.heap.size :: rest, locked := none }) rfl d4' _ hsteps
end Ends
section Bodies
variable {l : Launch}
theorem vx_ofW {y : MethodName} {ws ws' : List Cond} {rm : Room} {Pc : Array Value → State → Prop} {Qc : Array Value → State → Outcome → State → Prop} {XC : String → State → State → Prop} {mc ms : Nat} {free : Addr → Prop} {cc : ByteArray} {maxL : Nat} {ret : Option FieldType}
    (hy : plainName y.cls = true) (hw : ws = Cond.code y cc maxL ret :: ws')
    (body : ∀ p e s m args below meth c s₁, BodyLoose p l y (headSpec ws rm) cc maxL ret e s m args below meth c s₁ → c.maxLocals = maxL → (∀ x ∈ c.exceptionTable.toList, False) → Pc args s →
      W p l e (headSpec ws rm).room s m args below meth c s.heap [] 0 0 (vx_MQ below Qc XC args s mc ms free) (entryFrame m args maxL)) : vx_Met l y ws rm Pc Qc XC mc ms free := by
  refine MetFree.of_bodyS (code := cc) (maxLocals := maxL) (ret := ret) hy ?_ ?_
  · intro args s m h hn
    obtain ⟨meth, c, h1, h2, h3, h4, h5, h6, -, -⟩ := Cond.code_spec hn (atoms_spec (ws := ws) h _ (by rw [hw]; exact List.mem_cons_self))
    exact ⟨meth, c, h1, h2, h3, h4, h5, h6⟩
  · intro p e s m args below meth c s₁ B hml hP _
    have hh0 : s₁.heap = s.heap := by rw [B.state]; rfl
    have ht : ∀ x ∈ c.exceptionTable.toList, False := by
      obtain ⟨meth9, c9, h1, h2, -, -, -, -, h7, -⟩ := Cond.code_spec B.named (atoms_spec (ws := ws) B.pre _ (by rw [hw]; exact List.mem_cons_self))
      cases Option.some.inj (h1.symm.trans B.method)
      cases Option.some.inj (h2.symm.trans (Stand.of_body B).code)
      intro x hx
      rw [Array.isEmpty_iff.mp h7] at hx
      cases hx
    obtain ⟨t, a1, o, b1, b2, b3⟩ := body p e s m args below meth c s₁ B hml ht hP s₁ hh0 (Stand.of_body B)
    exact ⟨t, o, a1, b1, b2, b3⟩
/-- the table of a body with handlers -/
theorem vx_table {p : Program} {x y : MethodName} {S : Spec} {cc bytes : ByteArray} {maxL maxL' : Nat} {ret ret' : Option FieldType} {e : Env} {s s₁ : State} {m : MethodId} {args : Array Value} {below : List Frame} {meth : Method} {c : Code} {hh : List (Nat × Nat × Nat × Nat)}
    (B : BodyLoose p l y S cc maxL ret e s m args below meth c s₁) (h : (Cond.codeWith y bytes maxL' ret' hh).before args s = true) : c.exceptionTable.toList = tableOf hh := by
  obtain ⟨m9, meth9, c9, hn9, h1, h2, -, -, h6, -⟩ := Cond.codeWith_spec h
  cases Option.some.inj (hn9.symm.trans B.named)
  cases Option.some.inj (h1.symm.trans B.method)
  cases Option.some.inj (h2.symm.trans (Stand.of_body B).code)
  rw [← h6, table_eq]
end Bodies
end VXA
/-! ===== END ===== -/
/-! ===== BEGIN a static call of a method with an exception table ===== -/
section VXS
variable {p : Program} {l : Launch} {e : Env} {R : Room} {s : State} {m : MethodId} {args : Array Value} {below : List Frame} {meth : Method} {c : Code} {T : State} {H : Heap} {locs : List Loc} {cells slots : Nat}
abbrev vx_CSW (R : Room) (s : State) (args : Array Value) (own : String) (index : Nat) (y : MethodName) (bytes : ByteArray) (maxL : Nat) (ret : Option FieldType) (hh : List (Nat × Nat × Nat × Nat)) (ws : List Cond) (rm : Room) (mc ms n : Nat) : Prop :=
  (rm.cells = mc ∧ rm.slots = ms ∧ rm.frames + 1 ≤ R.frames ∧ 8 + (maxL + 11) + rm.locals ≤ R.locals ∧ (∀ w ∈ ws, ∀ (a' : Array Value) (U : State), s.WarmedH U.vm → w.before a' U = true) ∧ Cond.codeWith y bytes maxL ret hh ∈ ws) ∧
  (Cond.codeWith y bytes maxL ret hh).before args s = true ∧ (Cond.initialized y.cls).before args s = true ∧ (y.cls ≠ "java/lang/invoke/MethodHandle" ∧ y.cls ≠ "java/lang/invoke/VarHandle") ∧
  (∀ sig, parseMethodDescriptor y.desc = some sig → n = sig.parameters.length) ∧ (Cond.methodLink own index y).before args s = true ∧ (Cond.static y).before args s = true
theorem vx_cwSW {own : String} {index maxL mc ms : Nat} {y : MethodName} {bytes : ByteArray} {ret : Option FieldType} {hh : List (Nat × Nat × Nat × Nat)} {Ts ws ws' : List Cond} {rm : Room} (n : Nat) (ht : ∀ w ∈ Ts, w.before args s = true) (hT : GoodIn Ts (va_wsS own index y ws)) (hw : ws = Cond.codeWith y bytes maxL ret hh :: ws') (hrc : rm.cells = mc) (hrs : rm.slots = ms)
    (hd : y.cls ≠ "java/lang/invoke/MethodHandle" ∧ y.cls ≠ "java/lang/invoke/VarHandle" ∧ (parseMethodDescriptor y.desc).map (fun d => d.parameters.length) = some n) (hR : rm.frames + 1 ≤ R.frames ∧ 8 + (maxL + 11) + rm.locals ≤ R.locals) :
    vx_CSW R s args own index y bytes maxL ret hh ws rm mc ms n := by
  have ok : ∀ w ∈ va_wsS own index y ws, w.before args s = true := fun w h => ht w (hT w h).1
  have hG : GoodIn Ts ws := fun w h => hT w (by unfold va_wsS; exact List.mem_append_right _ h)
  have hc : Cond.codeWith y bytes maxL ret hh ∈ ws := by rw [hw]; exact List.mem_cons_self
  refine ⟨⟨hrc, hrs, hR.1, hR.2, pay_in ht hG, hc⟩, ht _ (hG _ hc).1, ok _ (by simp [va_wsS]), ⟨hd.1, hd.2.1⟩, fun sig h => ?_, ok _ (by simp [va_wsS]), ok _ (by simp [va_wsS])⟩
  have h2 := hd.2.2
  rw [h] at h2
  exact (Option.some.inj h2).symm
theorem vx_callSW (X : Stand p l e R s m args below meth c T locs cells slots) (hexec : p.tables.exec = Jvm.exec) {own : String} {index : Nat} {y : MethodName} {bytes : ByteArray} {maxL : Nat} {ret : Option FieldType} {hh : List (Nat × Nat × Nat × Nat)}
    (hown : s.vm.findClass own = some m.cls) (hlink : (Cond.methodLink own index y).before args s = true) (hstat : (Cond.static y).before args s = true) (hinit : (Cond.initialized y.cls).before args s = true)
    (hcode : (Cond.codeWith y bytes maxL ret hh).before args s = true) (hy : y.cls ≠ "java/lang/invoke/MethodHandle" ∧ y.cls ≠ "java/lang/invoke/VarHandle")
    {W9 : Nat} {Pre : Pt → Array Value → Prop} {Post : Pt → Array Value → Option Value → Pt → Prop} (hK : Back l R p e below s args y 3 W9 Pre Post)
    {g : JFrame} (hg : g.method = m) (hsize : g.locals.size = c.maxLocals) {argsL rest : List Value} (hlen : ∀ sig, parseMethodDescriptor y.desc = some sig → argsL.length = sig.parameters.length)
    (hstack : g.stack = argsL.reverse ++ rest) (hW : 2 * g.monitorRoom + (rest.map fun v => v.category).sum ≤ W9) (hdg : decode c.code g.pc = .ok (.invokestatic index, 3))
    (hpre : ∀ vm₁, s.WarmedH vm₁ → Pre ⟨T.setVm vm₁, locs, cells, slots⟩ argsL.toArray) :
    ∃ (v : Option Value) (vm₁ : Vm) (B : Pt), s.WarmedH vm₁ ∧ Stand p l e R s m args below meth c B.U B.locs B.cells B.slots ∧ Post ⟨T.setVm vm₁, locs, cells, slots⟩ argsL.toArray v B ∧
      ∀ target, Steps p.tables e below (B.U.setTop { g with pc := g.pc + 3, stack := v.toList ++ rest }) target → Steps p.tables e below (T.setTop g) target := by
  obtain ⟨mk, methM, cM, hnamed, hmethM, -, -, -, -, -, -, hsigM⟩ := Cond.codeWith_spec hcode
  have hstatic : methM.isStatic = true := Cond.static_spec hnamed hmethM hstat
  obtain ⟨kP, hkP, -⟩ := className_of_methodNamed hnamed
  have hinitP : kP.init = .initialized := Cond.initialized_spec (findClass_of_methodNamed hnamed) hkP hinit
  obtain ⟨vm₁, X₁, hstep₁⟩ := X.invokestatic hexec hown hlink hnamed hmethM hstatic hkP hinitP hy (g := g) hg (argsL := argsL) (rest := rest) (hlen _ hsigM) hstack hdg
  obtain ⟨v, B, X', hpost, hsteps⟩ := hK m meth c ⟨T.setVm vm₁, locs, cells, slots⟩ { g with stack := rest } (.invokestatic index) mk argsL.toArray X₁ hg hsize hdg hW (X₁.named hnamed) (hpre vm₁ X₁.warmed)
  exact ⟨v, vm₁, B, X₁.warmed, X', hpost, fun target h => hstep₁ _ fun acts => by rw [doInvoke_state]; exact hsteps.trans h⟩
theorem vx_runSW {y : MethodName} {bytes cc : ByteArray} {maxL nL mc ms n index : Nat} {ret : Option FieldType} {hh : List (Nat × Nat × Nat × Nat)} {ws : List Cond} {rm : Room} {Pc : Array Value → State → Prop} {Qc : Array Value → State → Outcome → State → Prop} {free : Addr → Prop} {Ts : List Cond} {own : String} {As rest : List Value} {g : JFrame}
    (S : CallFix p m c cc nL s args Ts own) (hM : Met l y ws rm Pc Qc mc ms free) (cw : vx_CSW R s args own index y bytes maxL ret hh ws rm mc ms n) (hp : PreS s H Pc As)
    (hg : g.method = m) (hn : As.length = n) (hsize : g.locals.size = nL) (hstack : g.stack = As.reverse ++ rest) (hW : 2 * g.monitorRoom + (rest.map fun v => v.category).sum ≤ 8) (hdg : decode cc g.pc = .ok (.invokestatic index, 3)) (hf : cells + mc ≤ R.cells ∧ slots + ms ≤ R.slots) :
    va_Run p l e R s m args below meth c H locs cells slots mc ms g rest (Qc As.toArray) (free) := by
  obtain ⟨⟨hrc, hrs, hfr, hlo, hws, hcw⟩, hcode, hini, hy, hlen, hl, hstt⟩ := cw
  have hK : Back l R p e below s args y 3 8 (PreOf R mc ms Pc) (PostOf Qc mc ms free) := va_backW (hh := hh) (bytes := bytes) (maxL := maxL) (ret := ret) hM hp.1 hrc hrs hfr hlo hws hcw (fun a' U hW => word_at hW (Or.inl (by first | rfl | simp [Cond.onTables, Cond.keeps, Cond.steady])) hini)
  obtain ⟨hx, hb, hml, ho, -⟩ := S
  intro T hT X
  obtain ⟨v, vm₁, ⟨U', l2, c2, s2⟩, hW₁, X', ⟨g', mk, t, L, e1, e2, hq, h1, hL, h2, h3⟩, st⟩ := vx_callSW X hx (hh := hh) (bytes := bytes) (maxL := maxL) (ret := ret) ho hl hstt hini hcode hy hK hg (hsize.trans hml.symm) (argsL := As) (rest := rest) (fun sig h => hn.trans (hlen sig h)) hstack hW (by rw [hb]; exact hdg)
    (fun vm₁ hW₁ => ⟨hf.1, hf.2, hp.2 (T.setVm vm₁) hT hW₁⟩)
  dsimp only [Pt.U, Pt.locs, Pt.cells, Pt.slots] at X' e1 e2 h1 h2 h3 st
  subst h1; subst h2; subst h3
  exact ⟨v, (T.setVm vm₁).calling g' mk As.toArray, t, U', L, hT, X', hL, e1, e2, hq, st⟩
/-- not caught here, past rows that name other classes: it goes on to the caller -/
theorem vx_outP {p : Program} {l : Launch} {e : Env} {R : Room} {s : State} {m : MethodId} {args : Array Value} {below : List Frame} {meth : Method} {c : Code} {H : Heap} {locs : List Loc} {cells slots : Nat} {free : Addr → Prop} {ls : Array Slot} {rest : List Value} {Qc : Array Value → State → Outcome → State → Prop} {XC : String → State → State → Prop}
    {pc : Nat} {own E : String} {ce : Cell} {q : Addr} {mc ms : Nat} (hown : s.vm.findClass own = some m.cls) (hlocks : meth.locks = false)
    (hpass : ∀ z ∈ c.exceptionTable.toList, covers z pc = false ∨ (z.catchType ≠ 0 ∧ ∃ nm : String, (Cond.classLink own z.catchType nm).before args s = true ∧ va_Nc E nm s)) (hcell : H[q]? = some ce) (hv : ce.vm = .none) (hcl : s.vm.findClass E = some ce.cls)
    (hx : ∀ t : State, t.heap = H → s.vm.Alike t.vm → XC E s t) (hf : ∀ z ∈ locs, free z.base) (hc : cells ≤ mc) (hs : slots ≤ ms) :
    vx_W p l e R s m args below meth c H locs cells slots (vx_MQ below Qc XC args s mc ms free) (F0 m pc ls rest) q := by
  intro T hT X
  have hpl : e.platform.magicAccessors = ({} : Platform).magicAccessors := by rw [X.admits.platform]
  obtain ⟨vm', hW', X', st⟩ := X.outThrough hlocks q (g := F0 m pc ls rest) rfl rfl rfl (cell := ce) (by rw [hT]; exact hcell) (by rw [hv]; rfl)
    (by obtain ⟨k9, h9, -⟩ := Vm.findClass_spec hcl; exact ⟨k9, h9⟩) (fun z hz => by
      rcases hpass z hz with h | ⟨hz0, nm, hl1, hn1⟩
      · exact Or.inl h
      · obtain ⟨c6, hc6, hcl6⟩ := Cond.classLink_spec hown hl1 e.platform hpl
        obtain ⟨a8, b8, h1, h2, h3⟩ := hn1
        cases Option.some.inj (h1.symm.trans hcl)
        cases Option.some.inj (h2.symm.trans hc6)
        exact Or.inr ⟨hz0, _, hcl6, h3⟩)
  obtain ⟨g₀, hfr⟩ := X'.frames_eq
  have hcell9 : ((T.setVm vm').setFrames (.throwing q :: below)).heap[q]? = some ce := by
    show T.heap[q]? = some ce
    rw [hT]; exact hcell
  have hend : Ended ((T.setVm vm').setFrames (.throwing q :: below)) below (.threw q) := State.frames_setFrames _ (State.cur_lt_of_frames hfr)
  refine ⟨(T.setVm vm').setFrames (.throwing q :: below), ?_, .threw q, X'.here.running, hend, Or.inr ⟨q, rfl, E, ce, locs, hx _ hT (X'.ends _).1.alike, hcell9, hv, hcl, (X'.ends _).1, (X'.ends _).2.mono hc hs, hf⟩⟩
  rw [X.pushThrowing_eq]
  exact st
/-- a thing of a world lies in the heap -/
theorem vx_lt {D : va_G} {cl : List vw_C} {ws : va_W} {H1 : Heap} (h : va_P D cl ws H1) {k : Nat} {q : Nat × va_E} (hk : ws[k]? = some q) : q.1 < H1.size := (h k q hk).lt
end VXS
/-! ===== END ===== -/
/-! ===== BEGIN methods with a table of their own: called by a name, returning or throwing ===== -/
section VXH
/-! vx_backW, vx_callVX, vx_callSX, vx_callVW, vx_runVW, vx_runVX, vx_runSX, vx_ofWH follow the same proofs as their sisters above (Free/Laws.lean, Shelf42/LK1.lean); vx_outP calls Shelf42/NT130.lean (outThrough). -/
section
variable {l : Launch} {R : Room} {p : Program} {e : Env} {below : List Frame} {s : State} {sargs : Array Value} {y : MethodName} {len W9 : Nat}
theorem vx_backW {ws : List Cond} {rm : Room} {Pc : Array Value → State → Prop} {Qc : Array Value → State → Outcome → State → Prop} {XC : String → State → State → Prop} {mc ms : Nat} {free : Addr → Prop} {bytes : ByteArray} {maxL : Nat} {ret : Option FieldType} {hh : List (Nat × Nat × Nat × Nat)}
    (hM : vx_Met l y ws rm Pc Qc XC mc ms free) (hblind : FrameBlind Pc) (hrc : rm.cells = mc) (hrs : rm.slots = ms)
    (hframes : rm.frames + 1 ≤ R.frames) (hlocals : W9 + (maxL + 11) + rm.locals ≤ R.locals)
    (hws : ∀ w ∈ ws, ∀ a' U, s.WarmedH U.vm → w.before a' U = true) (hcode : Cond.codeWith y bytes maxL ret hh ∈ ws) (hinit : ∀ a' U, s.WarmedH U.vm → (Cond.initialized y.cls).before a' U = true) :
    vx_Back l R p e below s sargs y len W9 (PreOf R mc ms Pc) (PostOf Qc mc ms free) (vx_Post XC mc ms free) := by
  intro m meth c A g ig mk a X hg hsize hdg hW hn hp
  have h1 : (headSpec ws rm).pre.before a A.U = true := atoms_intro fun w hw => hws w hw _ _ X.warmed
  have h2 : (Cond.codeWith y bytes maxL ret hh).before a A.U = true := hws _ hcode _ _ X.warmed
  have h3 : (Cond.initialized y.cls).before a A.U = true := hinit _ _ X.warmed
  have h4 : A.cells + (headSpec ws rm).room.cells ≤ R.cells := by rw [show (headSpec ws rm).room.cells = mc from hrc]; exact hp.1
  have h5 : A.slots + (headSpec ws rm).room.slots ≤ R.slots := by rw [show (headSpec ws rm).room.slots = ms from hrs]; exact hp.2.1
  have hPc : Pc a (A.U.calling g mk a) := hblind _ _ _ _ hp.2.2
  obtain ⟨U, Ls, c0, s0⟩ := A
  dsimp only [Pt.U, Pt.locs, Pt.cells, Pt.slots] at h1 h2 h3 h4 h5 X hn hPc ⊢
  obtain ⟨m9, methY, cY, hn9, hmY, hcY, -, hlY, -⟩ := Cond.codeWith_spec h2
  cases Option.some.inj (hn9.symm.trans hn)
  obtain ⟨kY, hkY, -⟩ := className_of_methodNamed hn
  have hinitY : kY.init = .initialized := Cond.initialized_spec (findClass_of_methodNamed hn) hkY h3
  have h : At U g.method c below := by rw [hg]; exact X.here
  have hlocals9 : W9 + (maxL + 11) + (headSpec ws rm).room.locals ≤ R.locals := hlocals
  have happ : (headSpec ws rm).appliesLoose y e.platform (U.calling g mk a) = true :=
    Spec.appliesLoose_calling (g := g) h hdg hn hkY hinitY
      (X.room_calling (g := g) (R' := (headSpec ws rm).room) hsize hmY hcY hframes (by rw [hlY]; omega) h4 h5) h1
  obtain ⟨mid, hmid⟩ := h.above
  have hfr : (U.setTop g).frames = (.java g :: mid) ++ below := by rw [State.frames_setTop' g h.top, hmid]; rfl
  obtain ⟨o, s₂, hsteps, -, hend, hq⟩ := Steps.callFree hM p X.admits X.cas X.clock (acts := []) hfr happ hPc trivial
  have hq' : vx_Q Qc XC mc ms free a (U.calling g mk a) o s₂ := hq
  rw [State.frames_setTop' g h.top] at hend
  obtain ⟨g₀, hg0⟩ := Option.isSome_iff_exists.mp h.top
  obtain ⟨r, hr⟩ := State.topJava?_eq_some.mp hg0
  have hr' : (({ U with heap := s₂.heap, slotsUsed := s₂.slotsUsed } : State).setVm s₂.vm).frames = .java g₀ :: r := hr
  rcases hq' with ⟨hqc, L, hfe, hL⟩ | ⟨q, rfl, E, ce, L, hx, hce, hcv, hcl, hW₂, hsm, hL⟩
  · obtain ⟨⟨v, rfl⟩, hW₂, e2, q2, q3, q4, q5, q6⟩ := id hfe
    have e3 : s₂ = ({ (U.calling g mk a).setFrames s₂.frames with heap := s₂.heap, slotsUsed := s₂.slotsUsed } : State).setVm s₂.vm := by
      have : s₂ = ({ s₂ with vm := (U.calling g mk a).vm } : State).setVm s₂.vm := rfl
      rw [e2] at this
      exact this
    obtain ⟨c₂, i₂, len₂, hc₂, hd₂, hf₂⟩ := hend
    have hW' : U.WarmedH s₂.vm := hW₂
    have hcc : c₂ = c := by
      have h1 : s₂.code? g.method = U.code? g.method := by
        rw [State.code?_eq, State.code?_eq, hW'.alike.method?]
      exact Option.some.inj (hc₂.symm.trans (h1.trans h.code))
    subst hcc
    have hlen : len₂ = len := by rw [hdg] at hd₂; cases hd₂; rfl
    subst hlen
    have hs₂ : s₂ = (({ U with heap := s₂.heap, slotsUsed := s₂.slotsUsed } : State).setVm s₂.vm).setTop { g with pc := g.pc + len₂, stack := v.toList ++ g.stack } := by
      refine e3.trans ?_
      rw [hf₂, State.calling_eq h.top, State.setFrames_setFrames, State.setTop_of_frames _ hr', hr]
      rfl
    have hsame : U.sameButNew ({ U with heap := s₂.heap, slotsUsed := s₂.slotsUsed } : State) L mc ms := by
      refine ⟨?_, q2, q3, q4, q5, q6⟩
      obtain ⟨t, ht, -⟩ := State.frames_cons hr
      show ({ U with heap := s₂.heap, slotsUsed := s₂.slotsUsed } : State) = { U.setFrames U.frames with heap := s₂.heap, slotsUsed := s₂.slotsUsed }
      rw [State.setFrames_self ht]
    subst hg
    refine Or.inl ⟨v, ⟨(({ U with heap := s₂.heap, slotsUsed := s₂.slotsUsed } : State).setVm s₂.vm), Ls ++ L, c0 + mc, s0 + ms⟩,
      ⟨X.admits, X.cas, X.clock, X.frames, X.room, X.hears, X.method, X.code, (X.here.setHeapUsed s₂.heap s₂.slotsUsed).setVm hW'.alike, X.tail, State.WarmedH.trans X.warmed hW', X.limits, X.bytes, X.same.trans (hsame.setVm s.vm)⟩,
      ⟨g, mk, s₂, L, rfl, rfl, hqc, rfl, hL, rfl, rfl⟩, ?_⟩
    show Steps p.tables e below _ ((({ U with heap := s₂.heap, slotsUsed := s₂.slotsUsed } : State).setVm s₂.vm).setTop { g with pc := g.pc + len₂, stack := v.toList ++ g.stack })
    rw [← hs₂]
    exact hsteps
  · obtain ⟨e2, q2, q3, q4, q5, q6⟩ := id hsm
    have e3 : s₂ = ({ (U.calling g mk a).setFrames s₂.frames with heap := s₂.heap, slotsUsed := s₂.slotsUsed } : State).setVm s₂.vm := by
      have : s₂ = ({ s₂ with vm := (U.calling g mk a).vm } : State).setVm s₂.vm := rfl
      rw [e2] at this
      exact this
    have hf₂ : s₂.frames = .throwing q :: .java g :: U.frames.tail := hend
    have hW' : U.WarmedH s₂.vm := hW₂
    have hs₂ : s₂ = ((({ U with heap := s₂.heap, slotsUsed := s₂.slotsUsed } : State).setVm s₂.vm).setTop g).pushFrame (.throwing q) := by
      refine e3.trans ?_
      rw [hf₂, State.calling_eq h.top, State.setFrames_setFrames, State.pushFrame, State.frames_setTop _ hr', State.setTop_of_frames _ hr', State.setFrames_setFrames, hr]
      rfl
    have hsame : U.sameButNew ({ U with heap := s₂.heap, slotsUsed := s₂.slotsUsed } : State) L mc ms := by
      refine ⟨?_, q2, q3, q4, q5, q6⟩
      obtain ⟨t, ht, -⟩ := State.frames_cons hr
      show ({ U with heap := s₂.heap, slotsUsed := s₂.slotsUsed } : State) = { U.setFrames U.frames with heap := s₂.heap, slotsUsed := s₂.slotsUsed }
      rw [State.setFrames_self ht]
    subst hg
    refine Or.inr ⟨q, ⟨(({ U with heap := s₂.heap, slotsUsed := s₂.slotsUsed } : State).setVm s₂.vm), Ls ++ L, c0 + mc, s0 + ms⟩,
      ⟨X.admits, X.cas, X.clock, X.frames, X.room, X.hears, X.method, X.code, (X.here.setHeapUsed s₂.heap s₂.slotsUsed).setVm hW'.alike, X.tail, State.WarmedH.trans X.warmed hW', X.limits, X.bytes, X.same.trans (hsame.setVm s.vm)⟩,
      ⟨g, mk, s₂, L, E, ce, rfl, rfl, hx, hce, hcv, hcl, rfl, hL, rfl, rfl⟩, ?_⟩
    show Steps p.tables e below _ (((({ U with heap := s₂.heap, slotsUsed := s₂.slotsUsed } : State).setVm s₂.vm).setTop g).pushFrame (.throwing q))
    rw [← hs₂]
    exact hsteps
end
variable {p : Program} {l : Launch} {e : Env} {R : Room} {s : State} {m : MethodId} {args : Array Value} {below : List Frame} {meth : Method} {c : Code} {T : State} {H : Heap} {locs : List Loc} {cells slots : Nat}
theorem vx_callVX (X : Stand p l e R s m args below meth c T locs cells slots) (hexec : p.tables.exec = Jvm.exec) {own C : String} {index : Nat} {y : MethodName} {bytes : ByteArray} {maxL : Nat} {ret : Option FieldType} {hh : List (Nat × Nat × Nat × Nat)}
    (hown : s.vm.findClass own = some m.cls) (hlink : (Cond.methodLink own index y).before args s = true) (hinst : (Cond.instanceMethod y).before args s = true) (hsel : (Cond.selects C y y).before args s = true)
    (hcode : (Cond.codeWith y bytes maxL ret hh).before args s = true) (hy : y.cls ≠ "java/lang/invoke/MethodHandle" ∧ y.cls ≠ "java/lang/invoke/VarHandle")
    {W9 : Nat} {Pre : Pt → Array Value → Prop} {Post : Pt → Array Value → Option Value → Pt → Prop} {PostX : Pt → Array Value → Addr → Pt → Prop} (hK : vx_Back l R p e below s args y 3 W9 Pre Post PostX)
    {b : Addr} {cellB : Cell} (hcell : T.heap[b]? = some cellB) (hobj : cellB.vm.isStatics = false) (hcls : s.vm.findClass C = some cellB.cls)
    {g : JFrame} (hg : g.method = m) (hsize : g.locals.size = c.maxLocals) {argsL rest : List Value} (hlen : ∀ sig, parseMethodDescriptor y.desc = some sig → argsL.length = sig.parameters.length)
    (hstack : g.stack = argsL.reverse ++ .ref b :: rest) (hW : 2 * g.monitorRoom + (rest.map fun v => v.category).sum ≤ W9) (hdg : decode c.code g.pc = .ok (.invokevirtual index, 3))
    (hpre : ∀ vm₁, s.WarmedH vm₁ → Pre ⟨T.setVm vm₁, locs, cells, slots⟩ (Value.ref b :: argsL).toArray) :
    (∃ (v : Option Value) (vm₁ : Vm) (B : Pt), s.WarmedH vm₁ ∧ Stand p l e R s m args below meth c B.U B.locs B.cells B.slots ∧ Post ⟨T.setVm vm₁, locs, cells, slots⟩ (Value.ref b :: argsL).toArray v B ∧
      ∀ target, Steps p.tables e below (B.U.setTop { g with pc := g.pc + 3, stack := v.toList ++ rest }) target → Steps p.tables e below (T.setTop g) target) ∨
    (∃ (q : Addr) (vm₁ : Vm) (B : Pt), s.WarmedH vm₁ ∧ Stand p l e R s m args below meth c B.U B.locs B.cells B.slots ∧ PostX ⟨T.setVm vm₁, locs, cells, slots⟩ (Value.ref b :: argsL).toArray q B ∧
      Steps p.tables e below (T.setTop g) ((B.U.setTop { g with stack := rest }).pushFrame (.throwing q))) := by
  obtain ⟨mk, methM, hnamed, hmethM, hstM, habM⟩ := Cond.instanceMethod_spec hinst
  obtain ⟨m8, methM', cM, hn8, hmethM', -, -, -, -, -, -, hsigM⟩ := Cond.codeWith_spec hcode
  cases Option.some.inj (hn8.symm.trans hnamed)
  cases hmethM.symm.trans hmethM'
  obtain ⟨c2, r2, m2, q1, q2, q3, q4, kP, hkP, hkPi⟩ := Cond.selects_spec hsel
  cases hcls.symm.trans q1
  cases (State.methodFound?_of_named hnamed hy).symm.trans q2
  cases hnamed.symm.trans q3
  have hselP : selectMethod e.platform s.vm cellB.cls mk = .method mk := by rw [Launch.admits_selectMethod X.admits]; exact q4
  obtain ⟨vm₁, X₁, hstep₁⟩ := X.invokevirtual hexec hown hlink hnamed hmethM hstM hkP hkPi hy (a := b) (cell := cellB) hcell
    (fun z h => by rw [h] at hobj; cases hobj) hselP hmethM habM hkP hkPi (g := g) hg (argsL := argsL) (rest := rest) (hlen _ hsigM) hstack hdg
  rcases hK m meth c ⟨T.setVm vm₁, locs, cells, slots⟩ { g with stack := rest } (.invokevirtual index) mk (Value.ref b :: argsL).toArray X₁ hg hsize hdg hW (X₁.named hnamed) (hpre vm₁ X₁.warmed) with ⟨v, B, X', hpost, hsteps⟩ | ⟨q, B, X', hpost, hsteps⟩
  · exact Or.inl ⟨v, vm₁, B, X₁.warmed, X', hpost, fun target h => hstep₁ _ fun acts => by rw [doInvoke_state]; exact hsteps.trans h⟩
  · exact Or.inr ⟨q, vm₁, B, X₁.warmed, X', hpost, hstep₁ _ fun acts => by rw [doInvoke_state]; exact hsteps⟩
theorem vx_callSX (X : Stand p l e R s m args below meth c T locs cells slots) (hexec : p.tables.exec = Jvm.exec) {own : String} {index : Nat} {y : MethodName} {bytes : ByteArray} {maxL : Nat} {ret : Option FieldType} {hh : List (Nat × Nat × Nat × Nat)}
    (hown : s.vm.findClass own = some m.cls) (hlink : (Cond.methodLink own index y).before args s = true) (hstat : (Cond.static y).before args s = true) (hinit : (Cond.initialized y.cls).before args s = true)
    (hcode : (Cond.codeWith y bytes maxL ret hh).before args s = true) (hy : y.cls ≠ "java/lang/invoke/MethodHandle" ∧ y.cls ≠ "java/lang/invoke/VarHandle")
    {W9 : Nat} {Pre : Pt → Array Value → Prop} {Post : Pt → Array Value → Option Value → Pt → Prop} {PostX : Pt → Array Value → Addr → Pt → Prop} (hK : vx_Back l R p e below s args y 3 W9 Pre Post PostX)
    {g : JFrame} (hg : g.method = m) (hsize : g.locals.size = c.maxLocals) {argsL rest : List Value} (hlen : ∀ sig, parseMethodDescriptor y.desc = some sig → argsL.length = sig.parameters.length)
    (hstack : g.stack = argsL.reverse ++ rest) (hW : 2 * g.monitorRoom + (rest.map fun v => v.category).sum ≤ W9) (hdg : decode c.code g.pc = .ok (.invokestatic index, 3))
    (hpre : ∀ vm₁, s.WarmedH vm₁ → Pre ⟨T.setVm vm₁, locs, cells, slots⟩ argsL.toArray) :
    (∃ (v : Option Value) (vm₁ : Vm) (B : Pt), s.WarmedH vm₁ ∧ Stand p l e R s m args below meth c B.U B.locs B.cells B.slots ∧ Post ⟨T.setVm vm₁, locs, cells, slots⟩ argsL.toArray v B ∧
      ∀ target, Steps p.tables e below (B.U.setTop { g with pc := g.pc + 3, stack := v.toList ++ rest }) target → Steps p.tables e below (T.setTop g) target) ∨
    (∃ (q : Addr) (vm₁ : Vm) (B : Pt), s.WarmedH vm₁ ∧ Stand p l e R s m args below meth c B.U B.locs B.cells B.slots ∧ PostX ⟨T.setVm vm₁, locs, cells, slots⟩ argsL.toArray q B ∧
      Steps p.tables e below (T.setTop g) ((B.U.setTop { g with stack := rest }).pushFrame (.throwing q))) := by
  obtain ⟨mk, methM, cM, hnamed, hmethM, -, -, -, -, -, -, hsigM⟩ := Cond.codeWith_spec hcode
  have hstatic : methM.isStatic = true := Cond.static_spec hnamed hmethM hstat
  obtain ⟨kP, hkP, -⟩ := className_of_methodNamed hnamed
  have hinitP : kP.init = .initialized := Cond.initialized_spec (findClass_of_methodNamed hnamed) hkP hinit
  obtain ⟨vm₁, X₁, hstep₁⟩ := X.invokestatic hexec hown hlink hnamed hmethM hstatic hkP hinitP hy (g := g) hg (argsL := argsL) (rest := rest) (hlen _ hsigM) hstack hdg
  rcases hK m meth c ⟨T.setVm vm₁, locs, cells, slots⟩ { g with stack := rest } (.invokestatic index) mk argsL.toArray X₁ hg hsize hdg hW (X₁.named hnamed) (hpre vm₁ X₁.warmed) with ⟨v, B, X', hpost, hsteps⟩ | ⟨q, B, X', hpost, hsteps⟩
  · exact Or.inl ⟨v, vm₁, B, X₁.warmed, X', hpost, fun target h => hstep₁ _ fun acts => by rw [doInvoke_state]; exact hsteps.trans h⟩
  · exact Or.inr ⟨q, vm₁, B, X₁.warmed, X', hpost, hstep₁ _ fun acts => by rw [doInvoke_state]; exact hsteps⟩
theorem vx_callVW (X : Stand p l e R s m args below meth c T locs cells slots) (hexec : p.tables.exec = Jvm.exec) {own C : String} {index : Nat} {y : MethodName} {bytes : ByteArray} {maxL : Nat} {ret : Option FieldType} {hh : List (Nat × Nat × Nat × Nat)}
    (hown : s.vm.findClass own = some m.cls) (hlink : (Cond.methodLink own index y).before args s = true) (hinst : (Cond.instanceMethod y).before args s = true) (hsel : (Cond.selects C y y).before args s = true)
    (hcode : (Cond.codeWith y bytes maxL ret hh).before args s = true) (hy : y.cls ≠ "java/lang/invoke/MethodHandle" ∧ y.cls ≠ "java/lang/invoke/VarHandle")
    {W9 : Nat} {Pre : Pt → Array Value → Prop} {Post : Pt → Array Value → Option Value → Pt → Prop} (hK : Back l R p e below s args y 3 W9 Pre Post)
    {b : Addr} {cellB : Cell} (hcell : T.heap[b]? = some cellB) (hobj : cellB.vm.isStatics = false) (hcls : s.vm.findClass C = some cellB.cls)
    {g : JFrame} (hg : g.method = m) (hsize : g.locals.size = c.maxLocals) {argsL rest : List Value} (hlen : ∀ sig, parseMethodDescriptor y.desc = some sig → argsL.length = sig.parameters.length)
    (hstack : g.stack = argsL.reverse ++ .ref b :: rest) (hW : 2 * g.monitorRoom + (rest.map fun v => v.category).sum ≤ W9) (hdg : decode c.code g.pc = .ok (.invokevirtual index, 3))
    (hpre : ∀ vm₁, s.WarmedH vm₁ → Pre ⟨T.setVm vm₁, locs, cells, slots⟩ (Value.ref b :: argsL).toArray) :
    ∃ (v : Option Value) (vm₁ : Vm) (B : Pt), s.WarmedH vm₁ ∧ Stand p l e R s m args below meth c B.U B.locs B.cells B.slots ∧ Post ⟨T.setVm vm₁, locs, cells, slots⟩ (Value.ref b :: argsL).toArray v B ∧
      ∀ target, Steps p.tables e below (B.U.setTop { g with pc := g.pc + 3, stack := v.toList ++ rest }) target → Steps p.tables e below (T.setTop g) target := by
  obtain ⟨mk, methM, hnamed, hmethM, hstM, habM⟩ := Cond.instanceMethod_spec hinst
  obtain ⟨m8, methM', cM, hn8, hmethM', -, -, -, -, -, -, hsigM⟩ := Cond.codeWith_spec hcode
  cases Option.some.inj (hn8.symm.trans hnamed)
  cases hmethM.symm.trans hmethM'
  obtain ⟨c2, r2, m2, q1, q2, q3, q4, kP, hkP, hkPi⟩ := Cond.selects_spec hsel
  cases hcls.symm.trans q1
  cases (State.methodFound?_of_named hnamed hy).symm.trans q2
  cases hnamed.symm.trans q3
  have hselP : selectMethod e.platform s.vm cellB.cls mk = .method mk := by rw [Launch.admits_selectMethod X.admits]; exact q4
  obtain ⟨vm₁, X₁, hstep₁⟩ := X.invokevirtual hexec hown hlink hnamed hmethM hstM hkP hkPi hy (a := b) (cell := cellB) hcell
    (fun z h => by rw [h] at hobj; cases hobj) hselP hmethM habM hkP hkPi (g := g) hg (argsL := argsL) (rest := rest) (hlen _ hsigM) hstack hdg
  obtain ⟨v, B, X', hpost, hsteps⟩ := hK m meth c ⟨T.setVm vm₁, locs, cells, slots⟩ { g with stack := rest } (.invokevirtual index) mk (Value.ref b :: argsL).toArray X₁ hg hsize hdg hW (X₁.named hnamed) (hpre vm₁ X₁.warmed)
  exact ⟨v, vm₁, B, X₁.warmed, X', hpost, fun target h => hstep₁ _ fun acts => by rw [doInvoke_state]; exact hsteps.trans h⟩
abbrev vx_CVW (R : Room) (s : State) (args : Array Value) (own C : String) (index : Nat) (y : MethodName) (bytes : ByteArray) (maxL : Nat) (ret : Option FieldType) (hh : List (Nat × Nat × Nat × Nat)) (ws : List Cond) (rm : Room) (mc ms n : Nat) : Prop :=
  (rm.cells = mc ∧ rm.slots = ms ∧ rm.frames + 1 ≤ R.frames ∧ 8 + (maxL + 11) + rm.locals ≤ R.locals ∧ (∀ w ∈ ws, ∀ (a' : Array Value) (U : State), s.WarmedH U.vm → w.before a' U = true) ∧ Cond.codeWith y bytes maxL ret hh ∈ ws) ∧
  (Cond.codeWith y bytes maxL ret hh).before args s = true ∧ (Cond.initialized y.cls).before args s = true ∧ (y.cls ≠ "java/lang/invoke/MethodHandle" ∧ y.cls ≠ "java/lang/invoke/VarHandle") ∧
  (∀ sig, parseMethodDescriptor y.desc = some sig → n = sig.parameters.length) ∧ (Cond.methodLink own index y).before args s = true ∧ (Cond.instanceMethod y).before args s = true ∧ (Cond.selects C y y).before args s = true
theorem vx_cwVW {own C : String} {index maxL mc ms : Nat} {y : MethodName} {bytes : ByteArray} {ret : Option FieldType} {hh : List (Nat × Nat × Nat × Nat)} {Ts ws ws' : List Cond} {rm : Room} (n : Nat) (ht : ∀ w ∈ Ts, w.before args s = true) (hT : GoodIn Ts (wsV own index C y ws)) (hw : ws = Cond.codeWith y bytes maxL ret hh :: ws') (hrc : rm.cells = mc) (hrs : rm.slots = ms)
    (hd : y.cls = C ∧ y.cls ≠ "java/lang/invoke/MethodHandle" ∧ y.cls ≠ "java/lang/invoke/VarHandle" ∧ (parseMethodDescriptor y.desc).map (fun d => d.parameters.length) = some n) (hR : rm.frames + 1 ≤ R.frames ∧ 8 + (maxL + 11) + rm.locals ≤ R.locals) :
    vx_CVW R s args own C index y bytes maxL ret hh ws rm mc ms n := by
  obtain ⟨hC, hd⟩ := hd
  subst hC
  have ok : ∀ w ∈ wsV own index y.cls y ws, w.before args s = true := fun w h => ht w (hT w h).1
  have hG : GoodIn Ts ws := fun w h => hT w (by unfold wsV; exact List.mem_append_right _ h)
  have hc : Cond.codeWith y bytes maxL ret hh ∈ ws := by rw [hw]; exact List.mem_cons_self
  refine ⟨⟨hrc, hrs, hR.1, hR.2, pay_in ht hG, hc⟩, ht _ (hG _ hc).1, ok _ (by simp [wsV]), ⟨hd.1, hd.2.1⟩, fun sig h => ?_, ok _ (by simp [wsV]), ok _ (by simp [wsV]), ok _ (by simp [wsV])⟩
  have h2 := hd.2.2
  rw [h] at h2
  exact (Option.some.inj h2).symm
theorem vx_runVW {y : MethodName} {bytes cc : ByteArray} {maxL nL mc ms n index : Nat} {ret : Option FieldType} {hh : List (Nat × Nat × Nat × Nat)} {ws : List Cond} {rm : Room} {Pc : Array Value → State → Prop} {Qc : Array Value → State → Outcome → State → Prop} {free : Addr → Prop} {Ts : List Cond} {own C : String} {b : Addr} {As rest : List Value} {g : JFrame}
    (S : CallFix p m c cc nL s args Ts own) (hM : Met l y ws rm Pc Qc mc ms free) (cw : vx_CVW R s args own C index y bytes maxL ret hh ws rm mc ms n) (hp : PreV s H C b Pc As)
    (hg : g.method = m) (hn : As.length = n) (hsize : g.locals.size = nL) (hstack : g.stack = As.reverse ++ .ref b :: rest) (hW : 2 * g.monitorRoom + (rest.map fun v => v.category).sum ≤ 8) (hdg : decode cc g.pc = .ok (.invokevirtual index, 3)) (hf : cells + mc ≤ R.cells ∧ slots + ms ≤ R.slots) :
    va_Run p l e R s m args below meth c H locs cells slots mc ms g rest (Qc (Value.ref b :: As).toArray) free := by
  obtain ⟨⟨hrc, hrs, hfr, hlo, hws, hcw⟩, hcode, hini, hy, hlen, hl, hin, hse⟩ := cw
  have hK : Back l R p e below s args y 3 8 (PreOf R mc ms Pc) (PostOf Qc mc ms free) := va_backW (hh := hh) (bytes := bytes) (maxL := maxL) (ret := ret) hM hp.1 hrc hrs hfr hlo hws hcw (fun a' U hW => word_at hW (Or.inl (by first | rfl | simp [Cond.onTables, Cond.keeps, Cond.steady])) hini)
  obtain ⟨hx, hb, hml, ho, -⟩ := S
  obtain ⟨-, ⟨cellB, hcB, hoB, hclB⟩, hPc⟩ := hp
  intro T hT X
  obtain ⟨v, vm₁, ⟨U', l2, c2, s2⟩, hW₁, X', ⟨g', mk, t, L, e1, e2, hq, h1, hL, h2, h3⟩, st⟩ := vx_callVW X hx (C := C) (hh := hh) (bytes := bytes) (maxL := maxL) (ret := ret) ho hl hin hse hcode hy hK (by rw [hT]; exact hcB) hoB hclB hg (hsize.trans hml.symm) (argsL := As) (rest := rest) (fun sig h => hn.trans (hlen sig h)) hstack hW (by rw [hb]; exact hdg)
    (fun vm₁ hW₁ => ⟨hf.1, hf.2, hPc (T.setVm vm₁) hT hW₁⟩)
  dsimp only [Pt.U, Pt.locs, Pt.cells, Pt.slots] at X' e1 e2 h1 h2 h3 st
  subst h1; subst h2; subst h3
  exact ⟨v, (T.setVm vm₁).calling g' mk (Value.ref b :: As).toArray, t, U', L, hT, X', hL, e1, e2, hq, st⟩
section
variable {y : MethodName} {bytes cc : ByteArray} {maxL nL mc ms n index : Nat} {ret : Option FieldType} {ws : List Cond} {rm : Room} {Pc : Array Value → State → Prop} {Qc : Array Value → State → Outcome → State → Prop} {XC : String → State → State → Prop} {free : Addr → Prop} {Ts : List Cond} {own C : String} {b : Addr} {As rest : List Value} {g : JFrame}
theorem vx_runVX {hh : List (Nat × Nat × Nat × Nat)} (S : CallFix p m c cc nL s args Ts own) (hM : vx_Met l y ws rm Pc Qc XC mc ms free) (cw : vx_CVW R s args own C index y bytes maxL ret hh ws rm mc ms n) (hp : PreV s H C b Pc As)
    (hg : g.method = m) (hn : As.length = n) (hsize : g.locals.size = nL) (hstack : g.stack = As.reverse ++ .ref b :: rest) (hW : 2 * g.monitorRoom + (rest.map fun v => v.category).sum ≤ 8) (hdg : decode cc g.pc = .ok (.invokevirtual index, 3)) (hf : cells + mc ≤ R.cells ∧ slots + ms ≤ R.slots) :
    vx_Run p l e R s m args below meth c H locs cells slots mc ms g rest (Qc (Value.ref b :: As).toArray) XC free := by
  obtain ⟨⟨hrc, hrs, hfr, hlo, hws, hcw⟩, hcode, hini, hy, hlen, hl, hin, hse⟩ := cw
  have hK : vx_Back l R p e below s args y 3 8 (PreOf R mc ms Pc) (PostOf Qc mc ms free) (vx_Post XC mc ms free) := vx_backW (hh := hh) (bytes := bytes) (maxL := maxL) (ret := ret) hM hp.1 hrc hrs hfr hlo hws hcw (fun a' U hW => word_at hW (Or.inl (by first | rfl | simp [Cond.onTables, Cond.keeps, Cond.steady])) hini)
  obtain ⟨hx, hb, hml, ho, -⟩ := S
  obtain ⟨-, ⟨cellB, hcB, hoB, hclB⟩, hPc⟩ := hp
  intro T hT X
  rcases vx_callVX X hx (C := C) (hh := hh) (bytes := bytes) (maxL := maxL) (ret := ret) ho hl hin hse hcode hy hK (by rw [hT]; exact hcB) hoB hclB hg (hsize.trans hml.symm) (argsL := As) (rest := rest) (fun sig h => hn.trans (hlen sig h)) hstack hW (by rw [hb]; exact hdg)
    (fun vm₁ hW₁ => ⟨hf.1, hf.2, hPc (T.setVm vm₁) hT hW₁⟩) with ⟨v, vm₁, ⟨U', l2, c2, s2⟩, hW₁, X', ⟨g', mk, t, L, e1, e2, hq, h1, hL, h2, h3⟩, st⟩ | ⟨q, vm₁, ⟨U', l2, c2, s2⟩, hW₁, X', ⟨g', mk, t, L, E, ce, e1, e2, hq, hce, hcv, hcl, h1, hL, h2, h3⟩, st⟩
  · dsimp only [Pt.U, Pt.locs, Pt.cells, Pt.slots] at X' e1 e2 h1 h2 h3 st
    subst h1; subst h2; subst h3
    exact Or.inl ⟨v, (T.setVm vm₁).calling g' mk (Value.ref b :: As).toArray, t, U', L, hT, X', hL, e1, e2, hq, st⟩
  · dsimp only [Pt.U, Pt.locs, Pt.cells, Pt.slots] at X' e1 e2 h1 h2 h3 st hcl
    subst h1; subst h2; subst h3
    exact Or.inr ⟨q, (T.setVm vm₁).calling g' mk (Value.ref b :: As).toArray, t, U', L, E, ce, hT, X', hL, e1, e2, hq, hce, hcv, vx_cls hW₁ hcl, st⟩
theorem vx_runSX {hh : List (Nat × Nat × Nat × Nat)} (S : CallFix p m c cc nL s args Ts own) (hM : vx_Met l y ws rm Pc Qc XC mc ms free) (cw : vx_CSW R s args own index y bytes maxL ret hh ws rm mc ms n) (hp : PreS s H Pc As)
    (hg : g.method = m) (hn : As.length = n) (hsize : g.locals.size = nL) (hstack : g.stack = As.reverse ++ rest) (hW : 2 * g.monitorRoom + (rest.map fun v => v.category).sum ≤ 8) (hdg : decode cc g.pc = .ok (.invokestatic index, 3)) (hf : cells + mc ≤ R.cells ∧ slots + ms ≤ R.slots) :
    vx_Run p l e R s m args below meth c H locs cells slots mc ms g rest (Qc As.toArray) XC free := by
  obtain ⟨⟨hrc, hrs, hfr, hlo, hws, hcw⟩, hcode, hini, hy, hlen, hl, hstt⟩ := cw
  have hK : vx_Back l R p e below s args y 3 8 (PreOf R mc ms Pc) (PostOf Qc mc ms free) (vx_Post XC mc ms free) := vx_backW (hh := hh) (bytes := bytes) (maxL := maxL) (ret := ret) hM hp.1 hrc hrs hfr hlo hws hcw (fun a' U hW => word_at hW (Or.inl (by first | rfl | simp [Cond.onTables, Cond.keeps, Cond.steady])) hini)
  obtain ⟨hx, hb, hml, ho, -⟩ := S
  intro T hT X
  rcases vx_callSX X hx (hh := hh) (bytes := bytes) (maxL := maxL) (ret := ret) ho hl hstt hini hcode hy hK hg (hsize.trans hml.symm) (argsL := As) (rest := rest) (fun sig h => hn.trans (hlen sig h)) hstack hW (by rw [hb]; exact hdg)
    (fun vm₁ hW₁ => ⟨hf.1, hf.2, hp.2 (T.setVm vm₁) hT hW₁⟩) with ⟨v, vm₁, ⟨U', l2, c2, s2⟩, hW₁, X', ⟨g', mk, t, L, e1, e2, hq, h1, hL, h2, h3⟩, st⟩ | ⟨q, vm₁, ⟨U', l2, c2, s2⟩, hW₁, X', ⟨g', mk, t, L, E, ce, e1, e2, hq, hce, hcv, hcl, h1, hL, h2, h3⟩, st⟩
  · dsimp only [Pt.U, Pt.locs, Pt.cells, Pt.slots] at X' e1 e2 h1 h2 h3 st
    subst h1; subst h2; subst h3
    exact Or.inl ⟨v, (T.setVm vm₁).calling g' mk As.toArray, t, U', L, hT, X', hL, e1, e2, hq, st⟩
  · dsimp only [Pt.U, Pt.locs, Pt.cells, Pt.slots] at X' e1 e2 h1 h2 h3 st hcl
    subst h1; subst h2; subst h3
    exact Or.inr ⟨q, (T.setVm vm₁).calling g' mk As.toArray, t, U', L, E, ce, hT, X', hL, e1, e2, hq, hce, hcv, vx_cls hW₁ hcl, st⟩
end
end VXH
theorem vx_ofWH {l : Launch} {y : MethodName} {ws ws' : List Cond} {rm : Room} {Pc : Array Value → State → Prop} {Qc : Array Value → State → Outcome → State → Prop} {XC : String → State → State → Prop} {mc ms : Nat} {free : Addr → Prop} {cc : ByteArray} {maxL : Nat} {ret : Option FieldType} {hh : List (Nat × Nat × Nat × Nat)}
    (hy : plainName y.cls = true) (hw : ws = Cond.codeWith y cc maxL ret hh :: ws')
    (body : ∀ p e s m args below meth c s₁, BodyLoose p l y (headSpec ws rm) cc maxL ret e s m args below meth c s₁ → c.maxLocals = maxL → Pc args s →
      W p l e (headSpec ws rm).room s m args below meth c s.heap [] 0 0 (vx_MQ below Qc XC args s mc ms free) (entryFrame m args maxL)) : vx_Met l y ws rm Pc Qc XC mc ms free := by
  refine MetFree.of_bodyS (code := cc) (maxLocals := maxL) (ret := ret) hy ?_ ?_
  · intro args s m h hn
    obtain ⟨m9, meth, c, hn9, h1, h2, h3, h4, -, h5, h6, -⟩ := Cond.codeWith_spec (atoms_spec (ws := ws) h _ (by rw [hw]; exact List.mem_cons_self))
    cases hn.symm.trans hn9
    exact ⟨meth, c, h1, h2, h3, h4, h5, h6⟩
  · intro p e s m args below meth c s₁ B hml hP _
    have hh0 : s₁.heap = s.heap := by rw [B.state]; rfl
    obtain ⟨t, a1, o, b1, b2, b3⟩ := body p e s m args below meth c s₁ B hml hP s₁ hh0 (Stand.of_body B)
    exact ⟨t, o, a1, b1, b2, b3⟩
/-! ===== END ===== -/
/-! ===== BEGIN what the machine throws by itself, no traces kept ===== -/
section VXM
set_option maxHeartbeats 1000000 in
/-- the machine throws cls with the message text, no traces kept: from its note over the frame g to 'throwing' over the same frame (follows the proofs of Stand.vmThrowsMessage, Shelf/KitTracedVmS.lean, and Stand.throwsMessageColdBareV, StandMessageColdV.lean, without the step out of the frame) -/
theorem vx_vmAt {p : Program} {l : Launch} {e : Env} {R : Room} {s : State} {m₀ : MethodId} {args : Array Value} {below : List Frame} {meth : Method} {c : Code} {W : State} {locs : List Loc} {cells slots : Nat}
    (X : Stand p l e R s m₀ args below meth c W locs cells slots) (hexec : p.tables.exec = Jvm.exec) (htr : e.platform.stackTraces = false) {cls : String} {names : List String} {text : String}
    (hcls : Bundle.fit cls = true) (hnames : ∀ n ∈ names, Bundle.fit n = true) (hsoe : (cls == "java/lang/StackOverflowError") = false) (hoom : (cls == "java/lang/OutOfMemoryError") = false)
    (h : ∀ a ∈ Bundle.messageArmAtoms cls names, a.before args s = true)
    (hlocs : ∀ x ∈ locs, ∀ cell, s.heap[x.base]? = some cell → cell.vm.isStatics = false)
    (htext : (text == notModelled) = false) (hlimit : ¬ (stringBytes (stringToUtf16 text)).size > e.platform.arrayLengthLimit) (hheap : ¬ (stringBytes (stringToUtf16 text)).size * componentBytes .byte > e.platform.maxHeapBytes)
    {g : JFrame} (hg : g.method = m₀) (hsize : g.locals.size = c.maxLocals)
    (hRframes : names.length + 4 < R.frames) (hRlocals : 2 * g.monitorRoom + (g.stack.map fun v => v.category).sum + 10240 ≤ R.locals) (hshort : 13 * names.length + 55 ≤ 10240)
    (hRcells : cells + 3 ≤ R.cells) (hRslots : slots + ((stringBytes (stringToUtf16 text)).size + 4 + 6) ≤ R.slots) (hlocks : meth.locks = false) :
    ∃ (S : State) (q : Addr) (ce : Cell), (∀ target, Steps p.tables e below ((S.setTop g).pushFrame (.throwing q)) target → Steps p.tables e below ((W.setTop g).pushFrame (.throwNew cls (some text) none)) target) ∧
      Stand p l e R s m₀ args below meth c S locs (cells + 3) (slots + ((stringBytes (stringToUtf16 text)).size + 4 + 6)) ∧ S.heap[q]? = some ce ∧ s.vm.findClass cls = some ce.cls ∧ ce.vm = .none := by
  have howns : e.platform.frameOwnsMonitors = true := by rw [X.admits.platform]
  have hfin : e.platform.finalization = false := by rw [X.admits.platform]
  have hpl : e.platform.magicAccessors = ({} : Platform).magicAccessors := by rw [X.admits.platform]
  have a : ∀ x, x ∈ Bundle.messageArmAtoms cls names → x.holds args s none s [] = true := fun x hx => h x hx
  obtain ⟨T, Z0, L, -, Y⟩ := ThrowableC.of_atoms (args := args) howns hfin hpl (fun x hx => h x (by simp [Bundle.messageArmAtoms, hx]))
  obtain ⟨Z, M, LZ, LM, hnZ⟩ := Init0T.ofS_atoms (args := args) hpl L Y (fun x hx => h x (by simp [Bundle.messageArmAtoms, hx]))
  obtain ⟨P1, Ps, hlen, L1, hL, hP1m, hlink1, hlink⟩ := Bundle.chainS (args := args) hpl hnZ names cls hcls hnames (fun x hx => h x (by simp [Bundle.messageArmAtoms, hx]))
  obtain ⟨Zs, LZs, hn4, hfitv, hfitc⟩ := StringT.of_atoms (args := args) (fun x hx => h x (by simp [Bundle.messageArmAtoms, hx]))
  have hfound : s.vm.findClass cls = some P1.m.cls := findClass_of_methodNamed hP1m
  obtain ⟨c1, kX, hc1, hk, hord, -, -, hn6⟩ := Cond.instantiable_spec (a (.instantiable cls 6) (by simp [Bundle.messageArmAtoms]))
  cases Option.some.inj (hc1.symm.trans hfound)
  have hinit := Cond.initialized_spec hfound hk (a (.initialized cls) (by simp [Bundle.messageArmAtoms]))
  have hctor : kX.findMethod "<init>" "(Ljava/lang/String;)V" = some P1.m.idx := findMethod_of_methodNamed hP1m hk
  have hsel0 : selectMethod e.platform s.vm P1.m.cls T.fill0 = .method T.fill0 := by
    obtain ⟨c2, r2, m2, q1, q2, q3, q4, -⟩ := Cond.selects_spec (a (.selects cls Bundle.tFill0 Bundle.tFill0) (by simp [Bundle.messageArmAtoms]))
    cases Option.some.inj (q1.symm.trans hfound)
    cases Option.some.inj (q2.symm.trans (State.methodFound?_of_named Y.fill0 (by decide)))
    cases Option.some.inj (q3.symm.trans Y.fill0)
    rw [Launch.admits_selectMethod X.admits]; exact q4
  have hselF : selectMethod e.platform s.vm P1.m.cls T.fill = .method T.fill := by
    obtain ⟨c2, r2, m2, q1, q2, q3, q4, -⟩ := Cond.selects_spec (a (.selects cls Bundle.tFill Bundle.tFill) (by simp [Bundle.messageArmAtoms]))
    cases Option.some.inj (q1.symm.trans hfound)
    cases Option.some.inj (q2.symm.trans (State.methodFound?_of_named Y.fill (by decide)))
    cases Option.some.inj (q3.symm.trans Y.fill)
    rw [Launch.admits_selectMethod X.admits]; exact q4
  obtain ⟨cellS0, hcS0, hiss⟩ := Y.statics
  obtain ⟨u0, hu0⟩ := Cond.staticRefV Y.unassigned L.unassignedStatic L.statics hcS0 hiss (a (.isRef (.static Bundle.tN "UNASSIGNED_STACK" Bundle.steD)) (by simp [Bundle.messageArmAtoms]))
  obtain ⟨sen, hsen⟩ := Cond.staticRefV Y.sentinel L.sentinelStatic L.statics hcS0 hiss (a (.isRef (.static Bundle.tN "SUPPRESSED_SENTINEL" Bundle.listD)) (by simp [Bundle.messageArmAtoms]))
  obtain ⟨ci198, i198, fB, hk198, hg198, ha198, hsB, -, hnB, htB, hffB⟩ := Cond.ownField (t := .object "java/lang/Object") Y.found L.cls (by decide +kernel) (a (.fieldLink Bundle.tN 198 Bundle.tN "backtrace" "Ljava/lang/Object;") (by simp [Bundle.messageArmAtoms])) (a (.lays Bundle.tN Bundle.tN "backtrace" "Ljava/lang/Object;") (by simp [Bundle.messageArmAtoms])) e.platform hpl
  obtain ⟨cellS, hcS', heS, -, hkeep⟩ := X.same.2.2.2.2.2 T.aS cellS0 hcS0
  have hcellS : W.heap[T.aS]? = some cellS := hcS'
  have hout' : ∀ i, (⟨T.aS, i⟩ : Loc) ∉ locs := fun i hmem => by
    have := hlocs _ hmem cellS0 hcS0
    rw [hiss] at this; cases this
  have hknownS : cellS.vm ≠ .unknown := by
    rw [heS]; intro hu
    rw [show cellS0.vm = .unknown from hu] at hiss
    cases hiss
  have hvU : cellS.slots[T.fUnassigned.slot]? = some u0.v := by rw [hkeep _ (hout' _)]; exact hu0
  have hvSen : cellS.slots[T.fSentinel.slot]? = some sen.v := by rw [hkeep _ (hout' _)]; exact hsen
  obtain ⟨iM, hffM⟩ := Y.msg
  obtain ⟨tyC, dC, hdC, hdnC⟩ := Cond.laysAt hfound hk Y.cause (a (.lays cls Bundle.tN "cause" "Ljava/lang/Throwable;") (by simp [Bundle.messageArmAtoms]))
  obtain ⟨tyS, dS, hdS, hdnS⟩ := Cond.laysAt hfound hk Y.stack (a (.lays cls Bundle.tN "stackTrace" Bundle.steD) (by simp [Bundle.messageArmAtoms]))
  obtain ⟨tyP, dP, hdP, hdnP⟩ := Cond.laysAt hfound hk Y.supp (a (.lays cls Bundle.tN "suppressedExceptions" Bundle.listD) (by simp [Bundle.messageArmAtoms]))
  obtain ⟨tyM, dM, hdM, hdnM⟩ := Cond.laysAt hfound hk hffM (a (.lays cls Bundle.tN "detailMessage" "Ljava/lang/String;") (by simp [Bundle.messageArmAtoms]))
  obtain ⟨tyB, dB, hdB, hdnB⟩ := Cond.laysAt hfound hk hffB (a (.lays cls Bundle.tN "backtrace" "Ljava/lang/Object;") (by simp [Bundle.messageArmAtoms]))
  have bC := Cond.laysApart hdB hdC hdnB hdnC (by rw [hnB, Y.causeName]; decide)
  have bS := Cond.laysApart hdB hdS hdnB hdnS (by rw [hnB, Y.stackName]; decide)
  have bP := Cond.laysApart hdB hdP hdnB hdnP (by rw [hnB, Y.suppName]; decide)
  have hbk : ((preparedCellV T.toThrowableT (freshCell P1.m.cls kX) (W.heap.size + 2) u0 sen).withEntry W.cur).slots[fB.slot]? = some .null := by
    have := fresh_default (c := P1.m.cls) tyB
    rw [htB] at this
    simpa [preparedCellV, Cell.setSlot, Cell.withEntry, Array.getElem?_setIfInBounds, bC, bS, bP, bC.symm, bS.symm, bP.symm, defaultValue] using this
  have tkC := Takes.of_laid (v := .ref (W.heap.size + 2)) hk hord tyC (by rw [Y.causeType]; rfl)
  have tkS := Takes.of_laid (v := u0.v) hk hord tyS (by rw [Y.stackType]; exact fits_refV_array _ u0)
  have tkP := Takes.of_laid (v := sen.v) hk hord tyP (by rw [Y.suppType]; exact fits_refV_object _ sen)
  have tkM := Takes.of_laid (v := .ref (W.heap.size + 1)) hk hord tyM (by rw [Y.msgType]; rfl)
  have hskip : SkipFacts T e.platform s (fun u => u) u0 ((preparedCellV T.toThrowableT (freshCell P1.m.cls kX) (W.heap.size + 2) u0 sen).withEntry W.cur) := ⟨{ ci198 := ci198, i198 := i198, fBack := fB }, ⟨hk198, hg198, ha198, hsB⟩, hbk, fun _ _ => rfl⟩
  have h0 : At W g.method c below := by rw [hg]; exact X.here
  obtain ⟨hbeyond, hfreeW⟩ := X.vmMayThrow hsize (.throwNew cls (some text) none) (fun f hf => by cases hf) rfl hRlocals
  have hfr' : W.frames.length + Ps.length + 4 < (e.platform.stackLimits W.me).1 := by have := X.framesAbove hRframes; omega
  have hwd' : (stackUse (.java g :: W.frames.tail)).2 + 13 * Ps.length + 55 ≤ (e.platform.stackLimits W.me).2 := by have := X.stackAbove hsize (K := 13 * Ps.length + 55) (by omega); omega
  have hslots : W.slotsUsed + (stringBytes (stringToUtf16 text)).size + Zs.kS.instanceTypes.size + kX.instanceTypes.size ≤ e.platform.maxSlots := by
    have := X.slotsAbove hRslots
    rw [hn4, hn6]
    omega
  obtain ⟨vm', hW', st⟩ := Steps.vmThrowsMessageColdByV p (s₀ := s) (S := W) (g := g) h0 hexec T L Z LZ M LM X.warmed (t := W.cur) rfl Zs LZs P1 L1 Ps hL hlink1 hlink hsoe hoom hfound hk hinit hord hctor
    (Launch.admits_hotImplicitExceptions X.admits) hbeyond hfreeW htext hlimit hheap (X.cellsAbove hRcells) hslots (hfitv _) (hfitc _)
    (Nn := fun u => u) heapOnly_id (fun _ _ => rfl) (fun _ => rfl) (fun u x y => setCell_twice _ _ _ _) (fun _ => Nat.le_refl _) (cN := ((preparedCellV T.toThrowableT (freshCell P1.m.cls kX) (W.heap.size + 2) u0 sen).withEntry W.cur))
    hsel0 hcellS hknownS hvU tkS (fun _ hu => hu) (fun _ hu => hu) rfl rfl rfl (by simp [preparedCellV, Cell.setSlot, Cell.withEntry]) hskip (fun _ _ hA hW _ hroom _ hrest => L.nativeOff p htr hA hW hroom hrest) hselF hvSen tkC tkP tkM Y.objLocals rfl hfr' hwd'
  rw [plainBareV_eq T.toThrowableT (W.heap.size + 2) u0 sen (.ref (W.heap.size + 1)) W.cur rfl rfl] at st
  obtain ⟨-, -, w3, w4, -, -, -⟩ := withThrown_facts e.platform W Zs text P1.m.cls kX
  have X3 := ((X.pushed (bytesOf Zs.cB (stringToUtf16 text))).pushed (stringAt Zs.cS Zs.kS Zs.fv Zs.fc (stringToUtf16 text) W.heap.size)).pushed (freshCell P1.m.cls kX)
  rw [← withString_eq] at X3
  have X4 := X3.noted hW'
  have ha : (W.heap.size + 2) < ((withThrown W Zs text P1.m.cls kX).setVm vm').heap.size := by show _ < (withThrown W Zs text P1.m.cls kX).heap.size; rw [w3]; omega
  have hcell : ((withThrown W Zs text P1.m.cls kX).setVm vm').heap[(W.heap.size + 2)]? = some (freshCell P1.m.cls kX) := w4
  have X5 := ((((X4.stored hcell T.fCause.slot (.ref (W.heap.size + 2))).storedAgain ha T.fStack.slot u0.v).storedAgain ha T.fSupp.slot sen.v).storedAgain ha T.fStack.slot u0.v).storedAgain ha T.fMsg.slot (.ref (W.heap.size + 1))
  obtain ⟨g₁, hfrM⟩ := X5.frames_eq
  have hU : ((((withThrown W Zs text P1.m.cls kX).setVm vm').setCell (W.heap.size + 2) (plainBareV T.toThrowableT (freshCell P1.m.cls kX) (W.heap.size + 2) u0 sen (.ref (W.heap.size + 1)))).setTop g).pushFrame (.throwing (W.heap.size + 2)) = (((withThrown W Zs text P1.m.cls kX).setVm vm').setCell (W.heap.size + 2) (plainBareV T.toThrowableT (freshCell P1.m.cls kX) (W.heap.size + 2) u0 sen (.ref (W.heap.size + 1)))).setFrames (.throwing (W.heap.size + 2) :: .java g :: below) := by
    rw [State.pushFrame, State.frames_setTop _ hfrM, State.setTop_of_frames _ hfrM, State.setFrames_setFrames]
  have b1 : (bytesOf Zs.cB (stringToUtf16 text)).slots.size = (stringBytes (stringToUtf16 text)).size := by
    rw [(Cell.writeAll_facts _ _).2.2]; simp [bytes0]
  have b2 : (stringAt Zs.cS Zs.kS Zs.fv Zs.fc (stringToUtf16 text) W.heap.size).slots.size = 4 := by simp [string0, Cell.setSlot, hn4]
  have b3 : (freshCell P1.m.cls kX).slots.size = 6 := by simp [hn6]
  rw [b1, b2, b3] at X5
  have e9 : slots + (stringBytes (stringToUtf16 text)).size + 4 + 6 = slots + ((stringBytes (stringToUtf16 text)).size + 4 + 6) := by omega
  rw [e9] at X5
  simp only [List.append_assoc, List.cons_append, List.nil_append] at X5
  refine ⟨((withThrown W Zs text P1.m.cls kX).setVm vm').setCell (W.heap.size + 2) (plainBareV T.toThrowableT (freshCell P1.m.cls kX) (W.heap.size + 2) u0 sen (.ref (W.heap.size + 1))), W.heap.size + 2, _, fun target ht => st _ (by rw [X.tail, ← hU]; exact ht),
    X5.forget (fun y hy => ?_), heapAt_setCell_self _ ha, hfound, rfl⟩
  simp only [List.mem_cons, List.not_mem_nil, or_false] at hy
  have hge : s.heap.size ≤ W.heap.size := X.same.2.1
  rcases hy with rfl | rfl | rfl | rfl | rfl <;> exact Nat.le_trans hge (Nat.le_add_right _ 2)
set_option maxHeartbeats 1000000 in
/-- the machine throws NullPointerException, no traces kept: from its note over the frame g to 'throwing' over the same frame (follows the proof of Stand.vmThrowsNpe, Shelf42/KT2.lean; throwsNpeColdBareVAt, Shelf42/NT91.lean, called) -/
theorem vx_npeAt {p : Program} {l : Launch} {e : Env} {R : Room} {s : State} {m₀ : MethodId} {args : Array Value} {below : List Frame} {meth : Method} {c : Code} {W : State} {locs : List Loc} {cells slots : Nat}
    (X : Stand p l e R s m₀ args below meth c W locs cells slots) (hexec : p.tables.exec = Jvm.exec) (htr : e.platform.stackTraces = false) {n : Nat}
    (h : ∀ a ∈ Bundle.npeArmAtoms n, a.before args s = true)
    (hlocs : ∀ x ∈ locs, ∀ cell, s.heap[x.base]? = some cell → cell.vm.isStatics = false)
    {g : JFrame} (hg : g.method = m₀) (hsize : g.locals.size = c.maxLocals)
    (hRframes : 7 < R.frames) (hRlocals : 2 * g.monitorRoom + (g.stack.map fun v => v.category).sum + 10240 ≤ R.locals)
    (hRcells : cells + 1 ≤ R.cells) (hRslots : slots + n ≤ R.slots) (hlocks : meth.locks = false) :
    ∃ (S : State) (q : Addr) (ce : Cell), (∀ target, Steps p.tables e below ((S.setTop g).pushFrame (.throwing q)) target → Steps p.tables e below ((W.setTop g).pushFrame (.throwNew "java/lang/NullPointerException" none none)) target) ∧
      Stand p l e R s m₀ args below meth c S locs (cells + 1) (slots + n) ∧ S.heap[q]? = some ce ∧ s.vm.findClass "java/lang/NullPointerException" = some ce.cls ∧ ce.vm = .none := by
  have howns : e.platform.frameOwnsMonitors = true := by rw [X.admits.platform]
  have hfin : e.platform.finalization = false := by rw [X.admits.platform]
  have hpl : e.platform.magicAccessors = ({} : Platform).magicAccessors := by rw [X.admits.platform]
  have hpl2 : e.platform.arrayCloneIsPublic = true := by rw [X.admits.platform]
  have a' : ∀ x, x ∈ Bundle.npeArmAtoms n → x.holds args s none s [] = true := fun x hx => h x hx
  obtain ⟨T, Z, L, LZ, Y⟩ := ThrowableC.of_atoms (args := args) howns hfin hpl (fun x hx => h x (by simp [Bundle.npeArmAtoms, hx]))
  obtain ⟨N, LN, hcN, hnNF, hordN, hffS⟩ := NpeC.of_atoms (args := args) hpl hpl2 L Y (fun x hx => h x (by simp [Bundle.npeArmAtoms, hx]))
  obtain ⟨P1, L1, hP1m, hP1s⟩ := PassC.of_atoms (args := args) (s := s) hpl (X := Bundle.nN) (Y := Bundle.rN) (by decide) (by decide) LibCode.NullPointerException.Init0.at_0 LibCode.NullPointerException.Init0.at_1 LibCode.NullPointerException.Init0.at_4 (fun x hx => h x (by simp [Bundle.npeArmAtoms, hx]))
  obtain ⟨PR, LR, hPRm, hPRs⟩ := PassC.of_atoms (args := args) (s := s) hpl (X := Bundle.rN) (Y := Bundle.eN) (by decide) (by decide) LibCode.RuntimeException.Init0.at_0 LibCode.RuntimeException.Init0.at_1 LibCode.RuntimeException.Init0.at_4 (fun x hx => h x (by simp [Bundle.npeArmAtoms, hx]))
  obtain ⟨PE, LEx, hPEm, hPEs⟩ := PassC.of_atoms (args := args) (s := s) hpl (X := Bundle.eN) (Y := Bundle.tN) (by decide) (by decide) LibCode.Exception.Init0.at_0 LibCode.Exception.Init0.at_1 LibCode.Exception.Init0.at_4 (fun x hx => h x (by simp [Bundle.npeArmAtoms, hx]))
  have hfound : s.vm.findClass Bundle.nN = some P1.m.cls := findClass_of_methodNamed hP1m
  have ecls : N.cN = P1.m.cls := Option.some.inj (hcN.symm.trans hfound)
  have hk : s.vm.classes[P1.m.cls]? = some N.kN := by rw [← ecls]; exact LN.cls
  have hinit := Cond.initialized_spec hfound hk (a' (.initialized Bundle.nN) (by simp [Bundle.npeArmAtoms]))
  have hctor : N.kN.findMethod "<init>" "()V" = some P1.m.idx := findMethod_of_methodNamed hP1m hk
  obtain ⟨c1, k1, hc1, hk1, -, -, -, hn⟩ := Cond.instantiable_spec (a' (.instantiable Bundle.nN n) (by simp [Bundle.npeArmAtoms]))
  cases Option.some.inj (hc1.symm.trans hfound)
  cases Option.some.inj (hk1.symm.trans hk)
  have hfsz : (freshCell P1.m.cls N.kN).slots.size = n := by simp [hn]
  have hlink1 : P1.sup = PR.m := Option.some.inj (hP1s.symm.trans hPRm)
  have hlinkR : PR.sup = PE.m := Option.some.inj (hPRs.symm.trans hPEm)
  have hlinkE : PE.sup = Z.m T.toThrowableT := Option.some.inj (hPEs.symm.trans Y.init0)
  have hLs : ∀ P, P ∈ [PR, PE] → P.Links0 e.platform s := fun P hP => by
    simp only [List.mem_cons, List.not_mem_nil, or_false] at hP
    rcases hP with rfl | rfl
    · exact LR
    · exact LEx
  have hsel0 : selectMethod e.platform s.vm P1.m.cls T.fill0 = .method T.fill0 := by
    obtain ⟨c2, r2, m2, q1, q2, q3, q4, -⟩ := Cond.selects_spec (a' (.selects Bundle.nN Bundle.tFill0 Bundle.tFill0) (by simp [Bundle.npeArmAtoms]))
    cases Option.some.inj (q1.symm.trans hfound)
    cases Option.some.inj (q2.symm.trans (State.methodFound?_of_named Y.fill0 (by decide)))
    cases Option.some.inj (q3.symm.trans Y.fill0)
    rw [Launch.admits_selectMethod X.admits]; exact q4
  have hselF : selectMethod e.platform s.vm P1.m.cls T.fill = .method N.fill := by
    obtain ⟨c2, r2, m2, q1, q2, q3, q4, -⟩ := Cond.selects_spec (a' (.selects Bundle.nN Bundle.tFill Bundle.nFill) (by simp [Bundle.npeArmAtoms]))
    cases Option.some.inj (q1.symm.trans hfound)
    cases Option.some.inj (q2.symm.trans (State.methodFound?_of_named Y.fill (by decide)))
    cases Option.some.inj (q3.symm.trans hnNF)
    rw [Launch.admits_selectMethod X.admits]; exact q4
  obtain ⟨cellS0, hcS0, hiss⟩ := Y.statics
  obtain ⟨u0, hu0⟩ := Cond.staticRefV Y.unassigned L.unassignedStatic L.statics hcS0 hiss (a' (.isRef (.static Bundle.tN "UNASSIGNED_STACK" Bundle.steD)) (by simp [Bundle.npeArmAtoms]))
  obtain ⟨sen, hsen⟩ := Cond.staticRefV Y.sentinel L.sentinelStatic L.statics hcS0 hiss (a' (.isRef (.static Bundle.tN "SUPPRESSED_SENTINEL" Bundle.listD)) (by simp [Bundle.npeArmAtoms]))
  obtain ⟨ci198, i198, fB, hk198, hg198, ha198, hsB, -, hnB, htB, hffB⟩ := Cond.ownField (t := .object "java/lang/Object") Y.found L.cls (by decide +kernel) (a' (.fieldLink Bundle.tN 198 Bundle.tN "backtrace" Bundle.objD) (by simp [Bundle.npeArmAtoms])) (a' (.lays Bundle.tN Bundle.tN "backtrace" Bundle.objD) (by simp [Bundle.npeArmAtoms])) e.platform hpl
  obtain ⟨cellS, hcS', heS, -, hkeep⟩ := X.same.2.2.2.2.2 T.aS cellS0 hcS0
  have hcellS : W.heap[T.aS]? = some cellS := hcS'
  have hout' : ∀ i, (⟨T.aS, i⟩ : Loc) ∉ locs := fun i hmem => by
    have := hlocs _ hmem cellS0 hcS0
    rw [hiss] at this; cases this
  have hknownS : cellS.vm ≠ .unknown := by
    rw [heS]; intro hu
    rw [show cellS0.vm = .unknown from hu] at hiss
    cases hiss
  have hvU : cellS.slots[T.fUnassigned.slot]? = some u0.v := by rw [hkeep _ (hout' _)]; exact hu0
  have hvSen : cellS.slots[T.fSentinel.slot]? = some sen.v := by rw [hkeep _ (hout' _)]; exact hsen
  obtain ⟨tyC, dC, hdC, hdnC⟩ := Cond.laysAt hfound hk Y.cause (a' (.lays Bundle.nN Bundle.tN "cause" "Ljava/lang/Throwable;") (by simp [Bundle.npeArmAtoms]))
  obtain ⟨tyS, dS, hdS, hdnS⟩ := Cond.laysAt hfound hk Y.stack (a' (.lays Bundle.nN Bundle.tN "stackTrace" Bundle.steD) (by simp [Bundle.npeArmAtoms]))
  obtain ⟨tyP, dP, hdP, hdnP⟩ := Cond.laysAt hfound hk Y.supp (a' (.lays Bundle.nN Bundle.tN "suppressedExceptions" Bundle.listD) (by simp [Bundle.npeArmAtoms]))
  obtain ⟨tyX, dX, hdX, hdnX⟩ := Cond.laysAt hfound hk hffS (a' (.lays Bundle.nN Bundle.nN "extendedMessageState" "I") (by simp [Bundle.npeArmAtoms, Bundle.npeAtoms]))
  obtain ⟨hnX, htX⟩ := State.fieldFound?_type hffS (t := .int) (by decide +kernel)
  have xC := Cond.laysApart hdC hdX hdnC hdnX (by rw [hnX, Y.causeName]; decide)
  have xS := Cond.laysApart hdS hdX hdnS hdnX (by rw [hnX, Y.stackName]; decide)
  have xP := Cond.laysApart hdP hdX hdnP hdnX (by rw [hnX, Y.suppName]; decide)
  have hv0 : (freshCell P1.m.cls N.kN).slots[N.fState.slot]? = some (.int 0) := by
    have := fresh_default (c := P1.m.cls) tyX
    rw [htX] at this; exact this
  obtain ⟨tyB, dB, hdB, hdnB⟩ := Cond.laysAt hfound hk hffB (a' (.lays Bundle.nN Bundle.tN "backtrace" Bundle.objD) (by simp [Bundle.npeArmAtoms]))
  have bC := Cond.laysApart hdB hdC hdnB hdnC (by rw [hnB, Y.causeName]; decide)
  have bS := Cond.laysApart hdB hdS hdnB hdnS (by rw [hnB, Y.stackName]; decide)
  have bP := Cond.laysApart hdB hdP hdnB hdnP (by rw [hnB, Y.suppName]; decide)
  have bX := Cond.laysApart hdB hdX hdnB hdnX (by rw [hnB, hnX]; decide)
  have hbk : ((npeCell N.toNpeT (preparedCellV T.toThrowableT (freshCell P1.m.cls N.kN) W.heap.size u0 sen) W.cur).withEntry W.cur).slots[fB.slot]? = some .null := by
    have := fresh_default (c := P1.m.cls) tyB
    rw [htB] at this
    simpa [npeCell, preparedCellV, Cell.setSlot, Cell.withEntry, Array.getElem?_setIfInBounds, bC, bS, bP, bX, bC.symm, bS.symm, bP.symm, bX.symm, defaultValue] using this
  have tkC := Takes.of_laid (v := .ref W.heap.size) hk hordN tyC (by rw [Y.causeType]; rfl)
  have tkS := Takes.of_laid (v := u0.v) hk hordN tyS (by rw [Y.stackType]; exact fits_refV_array _ u0)
  have tkP := Takes.of_laid (v := sen.v) hk hordN tyP (by rw [Y.suppType]; exact fits_refV_object _ sen)
  have tkX := Takes.of_laid (v := .int 1) hk hordN tyX (by rw [htX]; rfl)
  have hskip : SkipFacts T e.platform s (fun u => u) u0 ((npeCell N.toNpeT (preparedCellV T.toThrowableT (freshCell P1.m.cls N.kN) W.heap.size u0 sen) W.cur).withEntry W.cur) := ⟨{ ci198 := ci198, i198 := i198, fBack := fB }, ⟨hk198, hg198, ha198, hsB⟩, hbk, fun _ _ => rfl⟩
  obtain ⟨vm', X3, st, -⟩ := X.throwsNpeColdBareVAt hexec hg hsize T L Z LZ N LN P1 L1 [PR, PE] hLs hlink1 ⟨hlinkR, hlinkE, trivial⟩ hfound hk hinit hordN hctor hsel0 hselF hcellS hknownS hvU hvSen
    hv0 xC xS xP tkC tkS tkP tkX Y.objLocals hskip (fun _ _ hA hW _ hroom _ hrest => L.nativeOff p htr hA hW hroom hrest) (by simpa using hRframes) hRlocals (by simp) hRcells (by rw [hn]; exact hRslots)
  have hlt : W.heap.size < ((W.pushCell (freshCell P1.m.cls N.kN)).setVm vm').heap.size := by
    show W.heap.size < (W.pushCell (freshCell P1.m.cls N.kN)).heap.size
    rw [State.heap_size_pushCell]; omega
  rw [hfsz] at X3
  obtain ⟨g₁, hfrM⟩ := X3.frames_eq
  have hU : ((((W.pushCell (freshCell P1.m.cls N.kN)).setVm vm').setCell W.heap.size (npeBareV T.toThrowableT N.toNpeT (freshCell P1.m.cls N.kN) W.heap.size u0 sen)).setTop g).pushFrame (.throwing W.heap.size) = (((W.pushCell (freshCell P1.m.cls N.kN)).setVm vm').setCell W.heap.size (npeBareV T.toThrowableT N.toNpeT (freshCell P1.m.cls N.kN) W.heap.size u0 sen)).setFrames (.throwing W.heap.size :: .java g :: below) := by
    rw [State.pushFrame, State.frames_setTop _ hfrM, State.setTop_of_frames _ hfrM, State.setFrames_setFrames]
  refine ⟨_, W.heap.size, _, fun target ht => st.trans (by rw [← hU]; exact ht), X3.forget (fun y hy => ?_), heapAt_setCell_self _ hlt, hfound, rfl⟩
  simp only [List.mem_cons, List.not_mem_nil, or_false] at hy
  have hge : s.heap.size ≤ W.heap.size := X.same.2.1
  rcases hy with rfl | rfl | rfl | rfl | rfl <;> exact hge
/-- the words of a machine's NullPointerException, but the four that speak of the heap -/
def vx_atN (n : Nat) : List Cond := (Bundle.npeArmAtoms n).filter vx_no
/-- the words of a machine's throw with a message, but the four that speak of the heap -/
def vx_atM (X : String) (names : List String) : List Cond := (Bundle.messageArmAtoms X names).filter vx_no
section
variable {p : Program} {l : Launch} {e : Env} {R : Room} {s : State} {m : MethodId} {args : Array Value} {below : List Frame} {meth : Method} {c : Code} {H : Heap} {locs : List Loc} {cells slots : Nat}
/-- a frame seen from a rebased start, seen from the first start again -/
theorem vx_back9 {T S : State} {R' : Room} {k n : Nat} (X : Stand p l e R s m args below meth c T locs cells slots) (Y : Stand p l e R' ((T.setVm s.vm).setFrames (.invoking m args :: below)) m args below meth c T [] 0 0) (Z : Stand p l e R' ((T.setVm s.vm).setFrames (.invoking m args :: below)) m args below meth c S [] k n) :
    Stand p l e R s m args below meth c S locs (cells + k) (slots + n) := by
  have hW0 : s.WarmedH ((T.setVm s.vm).setFrames (.invoking m args :: below)).vm := State.WarmedH.refl s
  refine { admits := X.admits, cas := X.cas, clock := X.clock, frames := X.frames, room := X.room, hears := X.hears, method := X.method, code := X.code, here := Z.here, tail := Z.tail, warmed := State.WarmedH.trans hW0 Z.warmed, limits := Z.limits.trans (Y.limits.symm.trans X.limits), bytes := Z.bytes.trans (Y.bytes.symm.trans X.bytes), same := ?_ }
  obtain ⟨e1, e2⟩ := Z.same
  rw [State.setFrames_setFrames] at e1
  have h2 : (T.setVm s.vm).sameButNew (S.setVm s.vm) [] k n := ⟨e1, e2⟩
  have h3 := X.same.trans h2
  rw [List.append_nil] at h3
  exact h3
/-- from the machine's note that E is thrown here with this text -/
def vx_Note (p : Program) (l : Launch) (e : Env) (R : Room) (s : State) (m : MethodId) (args : Array Value) (below : List Frame) (meth : Method) (c : Code) (H : Heap) (locs : List Loc) (cells slots : Nat) (Q : State → Prop) (g : JFrame) (E text : String) : Prop :=
  ∀ T : State, T.heap = H → Stand p l e R s m args below meth c T locs cells slots → ∃ t, Steps p.tables e below ((T.setTop g).pushFrame (.throwNew E (some text) none)) t ∧ Q t
theorem vx_vm {pc : Nat} {ls : Array Slot} {rest : List Value} {Q : State → Prop} (hexec : p.tables.exec = Jvm.exec) (hl : l.stackTraces = false) {cls text : String} {names : List String} {nb : Nat} {A : Nat → Prop}
    (hcls : Bundle.fit cls = true) (hnames : ∀ n ∈ names, Bundle.fit n = true) (hsoe : (cls == "java/lang/StackOverflowError") = false) (hoom : (cls == "java/lang/OutOfMemoryError") = false)
    (hat : ∀ w ∈ vx_atM cls names, w.before args s = true) (hgood : ∀ w ∈ vx_atM cls names, vx_ot w = true)
    (hU : vx_Zq Bundle.tN "UNASSIGNED_STACK" Bundle.steD A s s.heap) (hN : vx_Zq Bundle.tN "SUPPRESSED_SENTINEL" Bundle.listD A s s.heap) (hS : va_S A s.heap H locs) (hsize : ls.size = c.maxLocals)
    (htext : (text == notModelled) = false) (hnb : (stringBytes (stringToUtf16 text)).size ≤ nb) (hnb1 : nb ≤ 1000)
    (hRframes : names.length + 4 < R.frames) (hRlocals : (rest.map fun v => v.category).sum + 10240 ≤ R.locals) (hshort : 13 * names.length + 55 ≤ 10240) (hRcells : cells + 3 ≤ R.cells) (hRslots : slots + (nb + 10) ≤ R.slots) (hlocks : meth.locks = false)
    (k : ∀ (H1 : Heap) (q9 : Addr) (ce : Cell), H.size ≤ H1.size → (∀ q : Nat, q < H.size → H1[q]? = H[q]?) → va_S A s.heap H1 locs → H1[q9]? = some ce → ce.vm = .none → s.vm.findClass cls = some ce.cls → vx_W p l e R s m args below meth c H1 locs (cells + 3) (slots + (nb + 10)) Q (F0 m pc ls rest) q9) :
    vx_Note p l e R s m args below meth c H locs cells slots Q (F0 m pc ls rest) cls text := by
  intro T hT X
  have htr : e.platform.stackTraces = false := (show e.platform.stackTraces = l.stackTraces by rw [X.admits.platform]).trans hl
  have Y := vx_rebase X (R' := { frames := R.frames, locals := R.locals, cells := 3, slots := nb + 10 }) (Nat.le_refl _) (Nat.le_refl _) hRcells hRslots
  have hhp : ((T.setVm s.vm).setFrames (.invoking m args :: below)).heap = H := hT
  have hW0 : s.WarmedH ((T.setVm s.vm).setFrames (.invoking m args :: below)).vm := State.WarmedH.refl s
  have hat' : ∀ w ∈ vx_atM cls names, w.before args ((T.setVm s.vm).setFrames (.invoking m args :: below)) = true := fun w hw => vx_ot_at hW0 rfl (hgood w hw) (hat w hw)
  have hU' : vx_Zq Bundle.tN "UNASSIGNED_STACK" Bundle.steD A ((T.setVm s.vm).setFrames (.invoking m args :: below)) ((T.setVm s.vm).setFrames (.invoking m args :: below)).heap := by rw [hhp]; exact vx_Zq.moved hW0.alike (hU.kept hS.2.1)
  have hN' : vx_Zq Bundle.tN "SUPPRESSED_SENTINEL" Bundle.listD A ((T.setVm s.vm).setFrames (.invoking m args :: below)) ((T.setVm s.vm).setFrames (.invoking m args :: below)).heap := by rw [hhp]; exact vx_Zq.moved hW0.alike (hN.kept hS.2.1)
  obtain ⟨S, q, ce, st, Z, hce, hcl', hv⟩ := vx_vmAt Y hexec htr (cls := cls) (names := names) (text := text) hcls hnames hsoe hoom (vx_own hat' (vx_isRefq hU'.1) (vx_isRefq hN'.1) hU'.2.word hN'.2.word) (fun x hx => nomatch hx) htext
    (by rw [Launch.admits_arrayLengthLimit X.admits]; omega) (by rw [Launch.admits_maxHeapBytes X.admits]; simp only [componentBytes]; omega)
    (g := F0 m pc ls rest) rfl hsize hRframes (by show 2 * 0 + (rest.map fun v => v.category).sum + 10240 ≤ R.locals; omega) hshort (by show 0 + 3 ≤ 3; omega) (by show 0 + (_ + 4 + 6) ≤ nb + 10; omega) hlocks
  obtain ⟨f1, f2⟩ := vx_frame Z.same
  have f1' : H.size ≤ S.heap.size := by rw [← hT]; exact f1
  have f2' : ∀ q : Nat, q < H.size → S.heap[q]? = H[q]? := fun q hq => by
    rw [← hT]
    exact f2 q (by rw [← hT] at hq; exact hq) (fun z hz => nomatch hz)
  have X5 := vx_back9 X Y Z
  have X6 : Stand p l e R s m args below meth c S locs (cells + 3) (slots + (nb + 10)) := { X5 with same := X5.same.mono (by omega) (by omega) }
  obtain ⟨t, a1, b1⟩ := k S.heap q ce f1' f2' ⟨Nat.le_trans hS.1 f1', fun q h1 h2 => (f2' q (Nat.lt_of_lt_of_le h1 hS.1)).trans (hS.2.1 q h1 h2), hS.2.2⟩ hce hv hcl' S rfl X6
  exact ⟨t, st t a1, b1⟩
/-- from the machine's note that NullPointerException is thrown here -/
def vx_NoteN (p : Program) (l : Launch) (e : Env) (R : Room) (s : State) (m : MethodId) (args : Array Value) (below : List Frame) (meth : Method) (c : Code) (H : Heap) (locs : List Loc) (cells slots : Nat) (Q : State → Prop) (g : JFrame) : Prop :=
  ∀ T : State, T.heap = H → Stand p l e R s m args below meth c T locs cells slots → ∃ t, Steps p.tables e below ((T.setTop g).pushFrame (.throwNew "java/lang/NullPointerException" none none)) t ∧ Q t
theorem vx_npe {pc : Nat} {ls : Array Slot} {rest : List Value} {Q : State → Prop} (hexec : p.tables.exec = Jvm.exec) (hl : l.stackTraces = false) {nb : Nat} {A : Nat → Prop}
    (hat : ∀ w ∈ vx_atN nb, w.before args s = true) (hgood : ∀ w ∈ vx_atN nb, vx_ot w = true)
    (hU : vx_Zq Bundle.tN "UNASSIGNED_STACK" Bundle.steD A s s.heap) (hN : vx_Zq Bundle.tN "SUPPRESSED_SENTINEL" Bundle.listD A s s.heap) (hS : va_S A s.heap H locs) (hsize : ls.size = c.maxLocals)
    (hRframes : 7 < R.frames) (hRlocals : (rest.map fun v => v.category).sum + 10240 ≤ R.locals) (hRcells : cells + 1 ≤ R.cells) (hRslots : slots + nb ≤ R.slots) (hlocks : meth.locks = false)
    (k : ∀ (H1 : Heap) (q9 : Addr) (ce : Cell), H.size ≤ H1.size → (∀ q : Nat, q < H.size → H1[q]? = H[q]?) → va_S A s.heap H1 locs → H1[q9]? = some ce → ce.vm = .none → s.vm.findClass "java/lang/NullPointerException" = some ce.cls → vx_W p l e R s m args below meth c H1 locs (cells + 1) (slots + nb) Q (F0 m pc ls rest) q9) :
    vx_NoteN p l e R s m args below meth c H locs cells slots Q (F0 m pc ls rest) := by
  intro T hT X
  have htr : e.platform.stackTraces = false := (show e.platform.stackTraces = l.stackTraces by rw [X.admits.platform]).trans hl
  have Y := vx_rebase X (R' := { frames := R.frames, locals := R.locals, cells := 1, slots := nb }) (Nat.le_refl _) (Nat.le_refl _) hRcells hRslots
  have hhp : ((T.setVm s.vm).setFrames (.invoking m args :: below)).heap = H := hT
  have hW0 : s.WarmedH ((T.setVm s.vm).setFrames (.invoking m args :: below)).vm := State.WarmedH.refl s
  have hat' : ∀ w ∈ vx_atN nb, w.before args ((T.setVm s.vm).setFrames (.invoking m args :: below)) = true := fun w hw => vx_ot_at hW0 rfl (hgood w hw) (hat w hw)
  have hU' : vx_Zq Bundle.tN "UNASSIGNED_STACK" Bundle.steD A ((T.setVm s.vm).setFrames (.invoking m args :: below)) ((T.setVm s.vm).setFrames (.invoking m args :: below)).heap := by rw [hhp]; exact vx_Zq.moved hW0.alike (hU.kept hS.2.1)
  have hN' : vx_Zq Bundle.tN "SUPPRESSED_SENTINEL" Bundle.listD A ((T.setVm s.vm).setFrames (.invoking m args :: below)) ((T.setVm s.vm).setFrames (.invoking m args :: below)).heap := by rw [hhp]; exact vx_Zq.moved hW0.alike (hN.kept hS.2.1)
  obtain ⟨S, q, ce, st, Z, hce, hcl', hv⟩ := vx_npeAt Y hexec htr (n := nb) (vx_own hat' (vx_isRefq hU'.1) (vx_isRefq hN'.1) hU'.2.word hN'.2.word) (fun x hx => nomatch hx)
    (g := F0 m pc ls rest) rfl hsize hRframes (by show 2 * 0 + (rest.map fun v => v.category).sum + 10240 ≤ R.locals; omega) (by show 0 + 1 ≤ 1; omega) (by show 0 + nb ≤ nb; omega) hlocks
  obtain ⟨f1, f2⟩ := vx_frame Z.same
  have f1' : H.size ≤ S.heap.size := by rw [← hT]; exact f1
  have f2' : ∀ q : Nat, q < H.size → S.heap[q]? = H[q]? := fun q hq => by
    rw [← hT]
    exact f2 q (by rw [← hT] at hq; exact hq) (fun z hz => nomatch hz)
  have X5 := vx_back9 X Y Z
  have X6 : Stand p l e R s m args below meth c S locs (cells + 1) (slots + nb) := { X5 with same := X5.same.mono (by omega) (by omega) }
  obtain ⟨t, a1, b1⟩ := k S.heap q ce f1' f2' ⟨Nat.le_trans hS.1 f1', fun q h1 h2 => (f2' q (Nat.lt_of_lt_of_le h1 hS.1)).trans (hS.2.1 q h1 h2), hS.2.2⟩ hce hv hcl' S rfl X6
  exact ⟨t, st t a1, b1⟩
variable {Q : State → Prop} {cc : ByteArray} {pc : Nat} {ls : Array Slot} {rest : List Value}
theorem vx_idivZ (hexec : p.tables.exec = Jvm.exec) (hb : c.code = cc) {a b : Int32} (h0 : b = 0) (d : decode cc pc = .ok (.idiv, 1)) (k : vx_Note p l e R s m args below meth c H locs cells slots Q (F0 m pc ls rest) "java/lang/ArithmeticException" "/ by zero") :
    W p l e R s m args below meth c H locs cells slots Q (F0 m pc ls (.int b :: .int a :: rest)) := by
  intro T hT X
  obtain ⟨t, st, q⟩ := k T hT X
  exact ⟨t, X.idivZero hexec (g := F0 m pc ls (.int b :: .int a :: rest)) rfl (a := a) (rest := rest) (by rw [h0]) (by rw [hb]; exact d) t st, q⟩
theorem vx_iremZ (hexec : p.tables.exec = Jvm.exec) (hb : c.code = cc) {a b : Int32} (h0 : b = 0) (d : decode cc pc = .ok (.irem, 1)) (k : vx_Note p l e R s m args below meth c H locs cells slots Q (F0 m pc ls rest) "java/lang/ArithmeticException" "/ by zero") :
    W p l e R s m args below meth c H locs cells slots Q (F0 m pc ls (.int b :: .int a :: rest)) := by
  intro T hT X
  obtain ⟨t, st, q⟩ := k T hT X
  exact ⟨t, X.iremZero hexec (g := F0 m pc ls (.int b :: .int a :: rest)) rfl (a := a) (rest := rest) (by rw [h0]) (by rw [hb]; exact d) t st, q⟩
theorem vx_ldivZ (hexec : p.tables.exec = Jvm.exec) (hb : c.code = cc) {a b : Int64} (h0 : b = 0) (d : decode cc pc = .ok (.ldiv, 1)) (k : vx_Note p l e R s m args below meth c H locs cells slots Q (F0 m pc ls rest) "java/lang/ArithmeticException" "/ by zero") :
    W p l e R s m args below meth c H locs cells slots Q (F0 m pc ls (.long b :: .long a :: rest)) := by
  intro T hT X
  obtain ⟨t, st, q⟩ := k T hT X
  exact ⟨t, X.ldivZero hexec (g := F0 m pc ls (.long b :: .long a :: rest)) rfl (a := a) (rest := rest) (by rw [h0]) (by rw [hb]; exact d) t st, q⟩
theorem vx_lremZ (hexec : p.tables.exec = Jvm.exec) (hb : c.code = cc) {a b : Int64} (h0 : b = 0) (d : decode cc pc = .ok (.lrem, 1)) (k : vx_Note p l e R s m args below meth c H locs cells slots Q (F0 m pc ls rest) "java/lang/ArithmeticException" "/ by zero") :
    W p l e R s m args below meth c H locs cells slots Q (F0 m pc ls (.long b :: .long a :: rest)) := by
  intro T hT X
  obtain ⟨t, st, q⟩ := k T hT X
  exact ⟨t, X.lremZero hexec (g := F0 m pc ls (.long b :: .long a :: rest)) rfl (a := a) (rest := rest) (by rw [h0]) (by rw [hb]; exact d) t st, q⟩
theorem vx_ialdZ {D : va_G} {cl : List vw_C} {ws : va_W} {tys : List (ClassId × FieldType)} {a : Nat} (hexec : p.tables.exec = Jvm.exec) (hb : c.code = cc) (hK : va_K D cl tys s) (hP : va_P D cl ws H) (q0 t0 : Nat) {cA : ClassId} {n : Nat} {f : Nat → Int32} (ha : ws[q0]? = some (a, .inl (cA, n, .inl f))) (ht : tys[t0]? = some (cA, .int)) {i : Int32} (hout : ¬ vp_in i n) (hdg : decode cc pc = .ok (.iaload, 1))
    (k : ∀ tx : String, tx = (toString "Index " ++ toString i ++ toString " out of bounds for length " ++ toString n : String) → vx_Note p l e R s m args below meth c H locs cells slots Q (F0 m pc ls rest) "java/lang/ArrayIndexOutOfBoundsException" tx) : W p l e R s m args below meth c H locs cells slots Q (F0 m pc ls (.int i :: .ref a :: rest)) := by
  intro T hT X
  obtain ⟨t, st, q⟩ := k _ rfl T hT X
  refine ⟨t, ?_, q⟩
  have h1 := X.ialoadOut hexec (by rw [hT]; exact hP q0 _ ha) ((hK.2 t0 _ ht).1 n (fun j => .int (f j))) (j := i) (by show (i < 0 ∨ (arrV _ _ _).slots.size ≤ _); rw [arrV_size]; exact Classical.byContradiction hout) (g := F0 m pc ls (.int i :: .ref a :: rest)) rfl (rest := rest) rfl (by rw [hb]; exact hdg) t
  simp only [arrV_size] at h1
  exact h1 st
theorem vx_iastZ {D : va_G} {cl : List vw_C} {ws : va_W} {tys : List (ClassId × FieldType)} {a : Nat} (hexec : p.tables.exec = Jvm.exec) (hb : c.code = cc) (hK : va_K D cl tys s) (hP : va_P D cl ws H) (q0 t0 : Nat) {cA : ClassId} {n : Nat} {f : Nat → Int32} (ha : ws[q0]? = some (a, .inl (cA, n, .inl f))) (ht : tys[t0]? = some (cA, .int)) {i : Int32} {x : Int32} (hout : ¬ vp_in i n) (hdg : decode cc pc = .ok (.iastore, 1))
    (k : ∀ tx : String, tx = (toString "Index " ++ toString i ++ toString " out of bounds for length " ++ toString n : String) → vx_Note p l e R s m args below meth c H locs cells slots Q (F0 m pc ls rest) "java/lang/ArrayIndexOutOfBoundsException" tx) : W p l e R s m args below meth c H locs cells slots Q (F0 m pc ls (.int x :: .int i :: .ref a :: rest)) := by
  intro T hT X
  obtain ⟨t, st, q⟩ := k _ rfl T hT X
  refine ⟨t, ?_, q⟩
  have h1 := X.iastoreOut hexec (by rw [hT]; exact hP q0 _ ha) ((hK.2 t0 _ ht).1 n (fun j => .int (f j))) (j := i) (by show (i < 0 ∨ (arrV _ _ _).slots.size ≤ _); rw [arrV_size]; exact Classical.byContradiction hout) (g := F0 m pc ls (.int x :: .int i :: .ref a :: rest)) rfl (rest := rest) rfl (by rw [hb]; exact hdg) t
  simp only [arrV_size] at h1
  exact h1 st
theorem vx_baldZ {D : va_G} {cl : List vw_C} {ws : va_W} {tys : List (ClassId × FieldType)} {a : Nat} (hexec : p.tables.exec = Jvm.exec) (hb : c.code = cc) (hK : va_K D cl tys s) (hP : va_P D cl ws H) (q0 t0 : Nat) {cA : ClassId} {n : Nat} {f : Nat → Int32} (ha : ws[q0]? = some (a, .inl (cA, n, .inl f))) (ht : tys[t0]? = some (cA, .byte)) {i : Int32} (hout : ¬ vp_in i n) (hdg : decode cc pc = .ok (.baload, 1))
    (k : ∀ tx : String, tx = (toString "Index " ++ toString i ++ toString " out of bounds for length " ++ toString n : String) → vx_Note p l e R s m args below meth c H locs cells slots Q (F0 m pc ls rest) "java/lang/ArrayIndexOutOfBoundsException" tx) : W p l e R s m args below meth c H locs cells slots Q (F0 m pc ls (.int i :: .ref a :: rest)) := by
  intro T hT X
  obtain ⟨t, st, q⟩ := k _ rfl T hT X
  refine ⟨t, ?_, q⟩
  have h1 := X.baloadOut hexec (by rw [hT]; exact hP q0 _ ha) ((hK.2 t0 _ ht).1 n (fun j => .int (f j))) (j := i) (by show (i < 0 ∨ (arrV _ _ _).slots.size ≤ _); rw [arrV_size]; exact Classical.byContradiction hout) (g := F0 m pc ls (.int i :: .ref a :: rest)) rfl (rest := rest) rfl (by rw [hb]; exact hdg) t
  simp only [arrV_size] at h1
  exact h1 st
theorem vx_bastZ {D : va_G} {cl : List vw_C} {ws : va_W} {tys : List (ClassId × FieldType)} {a : Nat} (hexec : p.tables.exec = Jvm.exec) (hb : c.code = cc) (hK : va_K D cl tys s) (hP : va_P D cl ws H) (q0 t0 : Nat) {cA : ClassId} {n : Nat} {f : Nat → Int32} (ha : ws[q0]? = some (a, .inl (cA, n, .inl f))) (ht : tys[t0]? = some (cA, .byte)) {i : Int32} {x : Int32} (hout : ¬ vp_in i n) (hdg : decode cc pc = .ok (.bastore, 1))
    (k : ∀ tx : String, tx = (toString "Index " ++ toString i ++ toString " out of bounds for length " ++ toString n : String) → vx_Note p l e R s m args below meth c H locs cells slots Q (F0 m pc ls rest) "java/lang/ArrayIndexOutOfBoundsException" tx) : W p l e R s m args below meth c H locs cells slots Q (F0 m pc ls (.int x :: .int i :: .ref a :: rest)) := by
  intro T hT X
  obtain ⟨t, st, q⟩ := k _ rfl T hT X
  refine ⟨t, ?_, q⟩
  have h1 := X.bastoreOut hexec (by rw [hT]; exact hP q0 _ ha) ((hK.2 t0 _ ht).1 n (fun j => .int (f j))) (j := i) (by show (i < 0 ∨ (arrV _ _ _).slots.size ≤ _); rw [arrV_size]; exact Classical.byContradiction hout) (g := F0 m pc ls (.int x :: .int i :: .ref a :: rest)) rfl (rest := rest) rfl (by rw [hb]; exact hdg) t
  simp only [arrV_size] at h1
  exact h1 st
theorem vx_zaldZ {D : va_G} {cl : List vw_C} {ws : va_W} {tys : List (ClassId × FieldType)} {a : Nat} (hexec : p.tables.exec = Jvm.exec) (hb : c.code = cc) (hK : va_K D cl tys s) (hP : va_P D cl ws H) (q0 t0 : Nat) {cA : ClassId} {n : Nat} {f : Nat → Int32} (ha : ws[q0]? = some (a, .inl (cA, n, .inl f))) (ht : tys[t0]? = some (cA, .boolean)) {i : Int32} (hout : ¬ vp_in i n) (hdg : decode cc pc = .ok (.baload, 1))
    (k : ∀ tx : String, tx = (toString "Index " ++ toString i ++ toString " out of bounds for length " ++ toString n : String) → vx_Note p l e R s m args below meth c H locs cells slots Q (F0 m pc ls rest) "java/lang/ArrayIndexOutOfBoundsException" tx) : W p l e R s m args below meth c H locs cells slots Q (F0 m pc ls (.int i :: .ref a :: rest)) := by
  intro T hT X
  obtain ⟨t, st, q⟩ := k _ rfl T hT X
  refine ⟨t, ?_, q⟩
  have h1 := X.baloadOut hexec (by rw [hT]; exact hP q0 _ ha) ((hK.2 t0 _ ht).1 n (fun j => .int (f j))) (j := i) (by show (i < 0 ∨ (arrV _ _ _).slots.size ≤ _); rw [arrV_size]; exact Classical.byContradiction hout) (g := F0 m pc ls (.int i :: .ref a :: rest)) rfl (rest := rest) rfl (by rw [hb]; exact hdg) t
  simp only [arrV_size] at h1
  exact h1 st
theorem vx_zastZ {D : va_G} {cl : List vw_C} {ws : va_W} {tys : List (ClassId × FieldType)} {a : Nat} (hexec : p.tables.exec = Jvm.exec) (hb : c.code = cc) (hK : va_K D cl tys s) (hP : va_P D cl ws H) (q0 t0 : Nat) {cA : ClassId} {n : Nat} {f : Nat → Int32} (ha : ws[q0]? = some (a, .inl (cA, n, .inl f))) (ht : tys[t0]? = some (cA, .boolean)) {i : Int32} {x : Int32} (hout : ¬ vp_in i n) (hdg : decode cc pc = .ok (.bastore, 1))
    (k : ∀ tx : String, tx = (toString "Index " ++ toString i ++ toString " out of bounds for length " ++ toString n : String) → vx_Note p l e R s m args below meth c H locs cells slots Q (F0 m pc ls rest) "java/lang/ArrayIndexOutOfBoundsException" tx) : W p l e R s m args below meth c H locs cells slots Q (F0 m pc ls (.int x :: .int i :: .ref a :: rest)) := by
  intro T hT X
  obtain ⟨t, st, q⟩ := k _ rfl T hT X
  refine ⟨t, ?_, q⟩
  have h1 := X.bastoreOut hexec (by rw [hT]; exact hP q0 _ ha) ((hK.2 t0 _ ht).1 n (fun j => .int (f j))) (j := i) (by show (i < 0 ∨ (arrV _ _ _).slots.size ≤ _); rw [arrV_size]; exact Classical.byContradiction hout) (g := F0 m pc ls (.int x :: .int i :: .ref a :: rest)) rfl (rest := rest) rfl (by rw [hb]; exact hdg) t
  simp only [arrV_size] at h1
  exact h1 st
theorem vx_caldZ {D : va_G} {cl : List vw_C} {ws : va_W} {tys : List (ClassId × FieldType)} {a : Nat} (hexec : p.tables.exec = Jvm.exec) (hb : c.code = cc) (hK : va_K D cl tys s) (hP : va_P D cl ws H) (q0 t0 : Nat) {cA : ClassId} {n : Nat} {f : Nat → Int32} (ha : ws[q0]? = some (a, .inl (cA, n, .inl f))) (ht : tys[t0]? = some (cA, .char)) {i : Int32} (hout : ¬ vp_in i n) (hdg : decode cc pc = .ok (.caload, 1))
    (k : ∀ tx : String, tx = (toString "Index " ++ toString i ++ toString " out of bounds for length " ++ toString n : String) → vx_Note p l e R s m args below meth c H locs cells slots Q (F0 m pc ls rest) "java/lang/ArrayIndexOutOfBoundsException" tx) : W p l e R s m args below meth c H locs cells slots Q (F0 m pc ls (.int i :: .ref a :: rest)) := by
  intro T hT X
  obtain ⟨t, st, q⟩ := k _ rfl T hT X
  refine ⟨t, ?_, q⟩
  have h1 := X.caloadOut hexec (by rw [hT]; exact hP q0 _ ha) ((hK.2 t0 _ ht).1 n (fun j => .int (f j))) (j := i) (by show (i < 0 ∨ (arrV _ _ _).slots.size ≤ _); rw [arrV_size]; exact Classical.byContradiction hout) (g := F0 m pc ls (.int i :: .ref a :: rest)) rfl (rest := rest) rfl (by rw [hb]; exact hdg) t
  simp only [arrV_size] at h1
  exact h1 st
theorem vx_castZ {D : va_G} {cl : List vw_C} {ws : va_W} {tys : List (ClassId × FieldType)} {a : Nat} (hexec : p.tables.exec = Jvm.exec) (hb : c.code = cc) (hK : va_K D cl tys s) (hP : va_P D cl ws H) (q0 t0 : Nat) {cA : ClassId} {n : Nat} {f : Nat → Int32} (ha : ws[q0]? = some (a, .inl (cA, n, .inl f))) (ht : tys[t0]? = some (cA, .char)) {i : Int32} {x : Int32} (hout : ¬ vp_in i n) (hdg : decode cc pc = .ok (.castore, 1))
    (k : ∀ tx : String, tx = (toString "Index " ++ toString i ++ toString " out of bounds for length " ++ toString n : String) → vx_Note p l e R s m args below meth c H locs cells slots Q (F0 m pc ls rest) "java/lang/ArrayIndexOutOfBoundsException" tx) : W p l e R s m args below meth c H locs cells slots Q (F0 m pc ls (.int x :: .int i :: .ref a :: rest)) := by
  intro T hT X
  obtain ⟨t, st, q⟩ := k _ rfl T hT X
  refine ⟨t, ?_, q⟩
  have h1 := X.castoreOut hexec (by rw [hT]; exact hP q0 _ ha) ((hK.2 t0 _ ht).1 n (fun j => .int (f j))) (j := i) (by show (i < 0 ∨ (arrV _ _ _).slots.size ≤ _); rw [arrV_size]; exact Classical.byContradiction hout) (g := F0 m pc ls (.int x :: .int i :: .ref a :: rest)) rfl (rest := rest) rfl (by rw [hb]; exact hdg) t
  simp only [arrV_size] at h1
  exact h1 st
theorem vx_saldZ {D : va_G} {cl : List vw_C} {ws : va_W} {tys : List (ClassId × FieldType)} {a : Nat} (hexec : p.tables.exec = Jvm.exec) (hb : c.code = cc) (hK : va_K D cl tys s) (hP : va_P D cl ws H) (q0 t0 : Nat) {cA : ClassId} {n : Nat} {f : Nat → Int32} (ha : ws[q0]? = some (a, .inl (cA, n, .inl f))) (ht : tys[t0]? = some (cA, .short)) {i : Int32} (hout : ¬ vp_in i n) (hdg : decode cc pc = .ok (.saload, 1))
    (k : ∀ tx : String, tx = (toString "Index " ++ toString i ++ toString " out of bounds for length " ++ toString n : String) → vx_Note p l e R s m args below meth c H locs cells slots Q (F0 m pc ls rest) "java/lang/ArrayIndexOutOfBoundsException" tx) : W p l e R s m args below meth c H locs cells slots Q (F0 m pc ls (.int i :: .ref a :: rest)) := by
  intro T hT X
  obtain ⟨t, st, q⟩ := k _ rfl T hT X
  refine ⟨t, ?_, q⟩
  have h1 := X.saloadOut hexec (by rw [hT]; exact hP q0 _ ha) ((hK.2 t0 _ ht).1 n (fun j => .int (f j))) (j := i) (by show (i < 0 ∨ (arrV _ _ _).slots.size ≤ _); rw [arrV_size]; exact Classical.byContradiction hout) (g := F0 m pc ls (.int i :: .ref a :: rest)) rfl (rest := rest) rfl (by rw [hb]; exact hdg) t
  simp only [arrV_size] at h1
  exact h1 st
theorem vx_sastZ {D : va_G} {cl : List vw_C} {ws : va_W} {tys : List (ClassId × FieldType)} {a : Nat} (hexec : p.tables.exec = Jvm.exec) (hb : c.code = cc) (hK : va_K D cl tys s) (hP : va_P D cl ws H) (q0 t0 : Nat) {cA : ClassId} {n : Nat} {f : Nat → Int32} (ha : ws[q0]? = some (a, .inl (cA, n, .inl f))) (ht : tys[t0]? = some (cA, .short)) {i : Int32} {x : Int32} (hout : ¬ vp_in i n) (hdg : decode cc pc = .ok (.sastore, 1))
    (k : ∀ tx : String, tx = (toString "Index " ++ toString i ++ toString " out of bounds for length " ++ toString n : String) → vx_Note p l e R s m args below meth c H locs cells slots Q (F0 m pc ls rest) "java/lang/ArrayIndexOutOfBoundsException" tx) : W p l e R s m args below meth c H locs cells slots Q (F0 m pc ls (.int x :: .int i :: .ref a :: rest)) := by
  intro T hT X
  obtain ⟨t, st, q⟩ := k _ rfl T hT X
  refine ⟨t, ?_, q⟩
  have h1 := X.sastoreOut hexec (by rw [hT]; exact hP q0 _ ha) ((hK.2 t0 _ ht).1 n (fun j => .int (f j))) (j := i) (by show (i < 0 ∨ (arrV _ _ _).slots.size ≤ _); rw [arrV_size]; exact Classical.byContradiction hout) (g := F0 m pc ls (.int x :: .int i :: .ref a :: rest)) rfl (rest := rest) rfl (by rw [hb]; exact hdg) t
  simp only [arrV_size] at h1
  exact h1 st
theorem vx_laldZ {D : va_G} {cl : List vw_C} {ws : va_W} {tys : List (ClassId × FieldType)} {a : Nat} (hexec : p.tables.exec = Jvm.exec) (hb : c.code = cc) (hK : va_K D cl tys s) (hP : va_P D cl ws H) (q0 t0 : Nat) {cA : ClassId} {n : Nat} {f : Nat → Int64} (ha : ws[q0]? = some (a, .inl (cA, n, .inr (.inl f)))) (ht : tys[t0]? = some (cA, .long)) {i : Int32} (hout : ¬ vp_in i n) (hdg : decode cc pc = .ok (.laload, 1))
    (k : ∀ tx : String, tx = (toString "Index " ++ toString i ++ toString " out of bounds for length " ++ toString n : String) → vx_Note p l e R s m args below meth c H locs cells slots Q (F0 m pc ls rest) "java/lang/ArrayIndexOutOfBoundsException" tx) : W p l e R s m args below meth c H locs cells slots Q (F0 m pc ls (.int i :: .ref a :: rest)) := by
  intro T hT X
  obtain ⟨t, st, q⟩ := k _ rfl T hT X
  refine ⟨t, ?_, q⟩
  have h1 := X.laloadOut hexec (by rw [hT]; exact hP q0 _ ha) ((hK.2 t0 _ ht).1 n (fun j => .long (f j))) (j := i) (by show (i < 0 ∨ (arrV _ _ _).slots.size ≤ _); rw [arrV_size]; exact Classical.byContradiction hout) (g := F0 m pc ls (.int i :: .ref a :: rest)) rfl (rest := rest) rfl (by rw [hb]; exact hdg) t
  simp only [arrV_size] at h1
  exact h1 st
theorem vx_lastZ {D : va_G} {cl : List vw_C} {ws : va_W} {tys : List (ClassId × FieldType)} {a : Nat} (hexec : p.tables.exec = Jvm.exec) (hb : c.code = cc) (hK : va_K D cl tys s) (hP : va_P D cl ws H) (q0 t0 : Nat) {cA : ClassId} {n : Nat} {f : Nat → Int64} (ha : ws[q0]? = some (a, .inl (cA, n, .inr (.inl f)))) (ht : tys[t0]? = some (cA, .long)) {i : Int32} {x : Int64} (hout : ¬ vp_in i n) (hdg : decode cc pc = .ok (.lastore, 1))
    (k : ∀ tx : String, tx = (toString "Index " ++ toString i ++ toString " out of bounds for length " ++ toString n : String) → vx_Note p l e R s m args below meth c H locs cells slots Q (F0 m pc ls rest) "java/lang/ArrayIndexOutOfBoundsException" tx) : W p l e R s m args below meth c H locs cells slots Q (F0 m pc ls (.long x :: .int i :: .ref a :: rest)) := by
  intro T hT X
  obtain ⟨t, st, q⟩ := k _ rfl T hT X
  refine ⟨t, ?_, q⟩
  have h1 := X.lastoreOut hexec (by rw [hT]; exact hP q0 _ ha) ((hK.2 t0 _ ht).1 n (fun j => .long (f j))) (j := i) (by show (i < 0 ∨ (arrV _ _ _).slots.size ≤ _); rw [arrV_size]; exact Classical.byContradiction hout) (g := F0 m pc ls (.long x :: .int i :: .ref a :: rest)) rfl (rest := rest) rfl (by rw [hb]; exact hdg) t
  simp only [arrV_size] at h1
  exact h1 st
theorem vx_faldZ {D : va_G} {cl : List vw_C} {ws : va_W} {tys : List (ClassId × FieldType)} {a : Nat} (hexec : p.tables.exec = Jvm.exec) (hb : c.code = cc) (hK : va_K D cl tys s) (hP : va_P D cl ws H) (q0 t0 : Nat) {cA : ClassId} {n : Nat} {f : Nat → UInt32} (ha : ws[q0]? = some (a, .inl (cA, n, .inr (.inr (.inl f))))) (ht : tys[t0]? = some (cA, .float)) {i : Int32} (hout : ¬ vp_in i n) (hdg : decode cc pc = .ok (.faload, 1))
    (k : ∀ tx : String, tx = (toString "Index " ++ toString i ++ toString " out of bounds for length " ++ toString n : String) → vx_Note p l e R s m args below meth c H locs cells slots Q (F0 m pc ls rest) "java/lang/ArrayIndexOutOfBoundsException" tx) : W p l e R s m args below meth c H locs cells slots Q (F0 m pc ls (.int i :: .ref a :: rest)) := by
  intro T hT X
  obtain ⟨t, st, q⟩ := k _ rfl T hT X
  refine ⟨t, ?_, q⟩
  have h1 := X.faloadOut hexec (by rw [hT]; exact hP q0 _ ha) ((hK.2 t0 _ ht).1 n (fun j => .float (f j))) (j := i) (by show (i < 0 ∨ (arrV _ _ _).slots.size ≤ _); rw [arrV_size]; exact Classical.byContradiction hout) (g := F0 m pc ls (.int i :: .ref a :: rest)) rfl (rest := rest) rfl (by rw [hb]; exact hdg) t
  simp only [arrV_size] at h1
  exact h1 st
theorem vx_fastZ {D : va_G} {cl : List vw_C} {ws : va_W} {tys : List (ClassId × FieldType)} {a : Nat} (hexec : p.tables.exec = Jvm.exec) (hb : c.code = cc) (hK : va_K D cl tys s) (hP : va_P D cl ws H) (q0 t0 : Nat) {cA : ClassId} {n : Nat} {f : Nat → UInt32} (ha : ws[q0]? = some (a, .inl (cA, n, .inr (.inr (.inl f))))) (ht : tys[t0]? = some (cA, .float)) {i : Int32} {x : UInt32} (hout : ¬ vp_in i n) (hdg : decode cc pc = .ok (.fastore, 1))
    (k : ∀ tx : String, tx = (toString "Index " ++ toString i ++ toString " out of bounds for length " ++ toString n : String) → vx_Note p l e R s m args below meth c H locs cells slots Q (F0 m pc ls rest) "java/lang/ArrayIndexOutOfBoundsException" tx) : W p l e R s m args below meth c H locs cells slots Q (F0 m pc ls (.float x :: .int i :: .ref a :: rest)) := by
  intro T hT X
  obtain ⟨t, st, q⟩ := k _ rfl T hT X
  refine ⟨t, ?_, q⟩
  have h1 := X.fastoreOut hexec (by rw [hT]; exact hP q0 _ ha) ((hK.2 t0 _ ht).1 n (fun j => .float (f j))) (j := i) (by show (i < 0 ∨ (arrV _ _ _).slots.size ≤ _); rw [arrV_size]; exact Classical.byContradiction hout) (g := F0 m pc ls (.float x :: .int i :: .ref a :: rest)) rfl (rest := rest) rfl (by rw [hb]; exact hdg) t
  simp only [arrV_size] at h1
  exact h1 st
theorem vx_daldZ {D : va_G} {cl : List vw_C} {ws : va_W} {tys : List (ClassId × FieldType)} {a : Nat} (hexec : p.tables.exec = Jvm.exec) (hb : c.code = cc) (hK : va_K D cl tys s) (hP : va_P D cl ws H) (q0 t0 : Nat) {cA : ClassId} {n : Nat} {f : Nat → UInt64} (ha : ws[q0]? = some (a, .inl (cA, n, .inr (.inr (.inr (.inl f)))))) (ht : tys[t0]? = some (cA, .double)) {i : Int32} (hout : ¬ vp_in i n) (hdg : decode cc pc = .ok (.daload, 1))
    (k : ∀ tx : String, tx = (toString "Index " ++ toString i ++ toString " out of bounds for length " ++ toString n : String) → vx_Note p l e R s m args below meth c H locs cells slots Q (F0 m pc ls rest) "java/lang/ArrayIndexOutOfBoundsException" tx) : W p l e R s m args below meth c H locs cells slots Q (F0 m pc ls (.int i :: .ref a :: rest)) := by
  intro T hT X
  obtain ⟨t, st, q⟩ := k _ rfl T hT X
  refine ⟨t, ?_, q⟩
  have h1 := X.daloadOut hexec (by rw [hT]; exact hP q0 _ ha) ((hK.2 t0 _ ht).1 n (fun j => .double (f j))) (j := i) (by show (i < 0 ∨ (arrV _ _ _).slots.size ≤ _); rw [arrV_size]; exact Classical.byContradiction hout) (g := F0 m pc ls (.int i :: .ref a :: rest)) rfl (rest := rest) rfl (by rw [hb]; exact hdg) t
  simp only [arrV_size] at h1
  exact h1 st
theorem vx_dastZ {D : va_G} {cl : List vw_C} {ws : va_W} {tys : List (ClassId × FieldType)} {a : Nat} (hexec : p.tables.exec = Jvm.exec) (hb : c.code = cc) (hK : va_K D cl tys s) (hP : va_P D cl ws H) (q0 t0 : Nat) {cA : ClassId} {n : Nat} {f : Nat → UInt64} (ha : ws[q0]? = some (a, .inl (cA, n, .inr (.inr (.inr (.inl f)))))) (ht : tys[t0]? = some (cA, .double)) {i : Int32} {x : UInt64} (hout : ¬ vp_in i n) (hdg : decode cc pc = .ok (.dastore, 1))
    (k : ∀ tx : String, tx = (toString "Index " ++ toString i ++ toString " out of bounds for length " ++ toString n : String) → vx_Note p l e R s m args below meth c H locs cells slots Q (F0 m pc ls rest) "java/lang/ArrayIndexOutOfBoundsException" tx) : W p l e R s m args below meth c H locs cells slots Q (F0 m pc ls (.double x :: .int i :: .ref a :: rest)) := by
  intro T hT X
  obtain ⟨t, st, q⟩ := k _ rfl T hT X
  refine ⟨t, ?_, q⟩
  have h1 := X.dastoreOut hexec (by rw [hT]; exact hP q0 _ ha) ((hK.2 t0 _ ht).1 n (fun j => .double (f j))) (j := i) (by show (i < 0 ∨ (arrV _ _ _).slots.size ≤ _); rw [arrV_size]; exact Classical.byContradiction hout) (g := F0 m pc ls (.double x :: .int i :: .ref a :: rest)) rfl (rest := rest) rfl (by rw [hb]; exact hdg) t
  simp only [arrV_size] at h1
  exact h1 st
theorem vx_arraylengthN (hexec : p.tables.exec = Jvm.exec) (hb : c.code = cc) (hdg : decode cc pc = .ok (.arraylength, 1)) (k : vx_NoteN p l e R s m args below meth c H locs cells slots Q (F0 m pc ls rest)) : W p l e R s m args below meth c H locs cells slots Q (F0 m pc ls (.null :: rest)) := by
  intro T hT X
  obtain ⟨t, st, q⟩ := k T hT X
  exact ⟨t, X.arraylengthNull hexec (g := F0 m pc ls (.null :: rest)) rfl (rest := rest) rfl (by rw [hb]; exact hdg) t st, q⟩
theorem vx_ialoadN (hexec : p.tables.exec = Jvm.exec) (hb : c.code = cc) {i : Int32} (hdg : decode cc pc = .ok (.iaload, 1)) (k : vx_NoteN p l e R s m args below meth c H locs cells slots Q (F0 m pc ls rest)) : W p l e R s m args below meth c H locs cells slots Q (F0 m pc ls (.int i :: .null :: rest)) := by
  intro T hT X
  obtain ⟨t, st, q⟩ := k T hT X
  exact ⟨t, X.ialoadNull hexec (g := F0 m pc ls (.int i :: .null :: rest)) rfl (rest := rest) rfl (by rw [hb]; exact hdg) t st, q⟩
theorem vx_laloadN (hexec : p.tables.exec = Jvm.exec) (hb : c.code = cc) {i : Int32} (hdg : decode cc pc = .ok (.laload, 1)) (k : vx_NoteN p l e R s m args below meth c H locs cells slots Q (F0 m pc ls rest)) : W p l e R s m args below meth c H locs cells slots Q (F0 m pc ls (.int i :: .null :: rest)) := by
  intro T hT X
  obtain ⟨t, st, q⟩ := k T hT X
  exact ⟨t, X.laloadNull hexec (g := F0 m pc ls (.int i :: .null :: rest)) rfl (rest := rest) rfl (by rw [hb]; exact hdg) t st, q⟩
theorem vx_faloadN (hexec : p.tables.exec = Jvm.exec) (hb : c.code = cc) {i : Int32} (hdg : decode cc pc = .ok (.faload, 1)) (k : vx_NoteN p l e R s m args below meth c H locs cells slots Q (F0 m pc ls rest)) : W p l e R s m args below meth c H locs cells slots Q (F0 m pc ls (.int i :: .null :: rest)) := by
  intro T hT X
  obtain ⟨t, st, q⟩ := k T hT X
  exact ⟨t, X.faloadNull hexec (g := F0 m pc ls (.int i :: .null :: rest)) rfl (rest := rest) rfl (by rw [hb]; exact hdg) t st, q⟩
theorem vx_daloadN (hexec : p.tables.exec = Jvm.exec) (hb : c.code = cc) {i : Int32} (hdg : decode cc pc = .ok (.daload, 1)) (k : vx_NoteN p l e R s m args below meth c H locs cells slots Q (F0 m pc ls rest)) : W p l e R s m args below meth c H locs cells slots Q (F0 m pc ls (.int i :: .null :: rest)) := by
  intro T hT X
  obtain ⟨t, st, q⟩ := k T hT X
  exact ⟨t, X.daloadNull hexec (g := F0 m pc ls (.int i :: .null :: rest)) rfl (rest := rest) rfl (by rw [hb]; exact hdg) t st, q⟩
theorem vx_aaloadN (hexec : p.tables.exec = Jvm.exec) (hb : c.code = cc) {i : Int32} (hdg : decode cc pc = .ok (.aaload, 1)) (k : vx_NoteN p l e R s m args below meth c H locs cells slots Q (F0 m pc ls rest)) : W p l e R s m args below meth c H locs cells slots Q (F0 m pc ls (.int i :: .null :: rest)) := by
  intro T hT X
  obtain ⟨t, st, q⟩ := k T hT X
  exact ⟨t, X.aaloadNull hexec (g := F0 m pc ls (.int i :: .null :: rest)) rfl (rest := rest) rfl (by rw [hb]; exact hdg) t st, q⟩
theorem vx_baloadN (hexec : p.tables.exec = Jvm.exec) (hb : c.code = cc) {i : Int32} (hdg : decode cc pc = .ok (.baload, 1)) (k : vx_NoteN p l e R s m args below meth c H locs cells slots Q (F0 m pc ls rest)) : W p l e R s m args below meth c H locs cells slots Q (F0 m pc ls (.int i :: .null :: rest)) := by
  intro T hT X
  obtain ⟨t, st, q⟩ := k T hT X
  exact ⟨t, X.baloadNull hexec (g := F0 m pc ls (.int i :: .null :: rest)) rfl (rest := rest) rfl (by rw [hb]; exact hdg) t st, q⟩
theorem vx_caloadN (hexec : p.tables.exec = Jvm.exec) (hb : c.code = cc) {i : Int32} (hdg : decode cc pc = .ok (.caload, 1)) (k : vx_NoteN p l e R s m args below meth c H locs cells slots Q (F0 m pc ls rest)) : W p l e R s m args below meth c H locs cells slots Q (F0 m pc ls (.int i :: .null :: rest)) := by
  intro T hT X
  obtain ⟨t, st, q⟩ := k T hT X
  exact ⟨t, X.caloadNull hexec (g := F0 m pc ls (.int i :: .null :: rest)) rfl (rest := rest) rfl (by rw [hb]; exact hdg) t st, q⟩
theorem vx_saloadN (hexec : p.tables.exec = Jvm.exec) (hb : c.code = cc) {i : Int32} (hdg : decode cc pc = .ok (.saload, 1)) (k : vx_NoteN p l e R s m args below meth c H locs cells slots Q (F0 m pc ls rest)) : W p l e R s m args below meth c H locs cells slots Q (F0 m pc ls (.int i :: .null :: rest)) := by
  intro T hT X
  obtain ⟨t, st, q⟩ := k T hT X
  exact ⟨t, X.saloadNull hexec (g := F0 m pc ls (.int i :: .null :: rest)) rfl (rest := rest) rfl (by rw [hb]; exact hdg) t st, q⟩
theorem vx_iastoreN (hexec : p.tables.exec = Jvm.exec) (hb : c.code = cc) {x : Int32} {i : Int32} (hdg : decode cc pc = .ok (.iastore, 1)) (k : vx_NoteN p l e R s m args below meth c H locs cells slots Q (F0 m pc ls rest)) : W p l e R s m args below meth c H locs cells slots Q (F0 m pc ls (.int x :: .int i :: .null :: rest)) := by
  intro T hT X
  obtain ⟨t, st, q⟩ := k T hT X
  exact ⟨t, X.iastoreNull hexec (g := F0 m pc ls (.int x :: .int i :: .null :: rest)) rfl (rest := rest) rfl (by rw [hb]; exact hdg) t st, q⟩
theorem vx_lastoreN (hexec : p.tables.exec = Jvm.exec) (hb : c.code = cc) {x : Int64} {i : Int32} (hdg : decode cc pc = .ok (.lastore, 1)) (k : vx_NoteN p l e R s m args below meth c H locs cells slots Q (F0 m pc ls rest)) : W p l e R s m args below meth c H locs cells slots Q (F0 m pc ls (.long x :: .int i :: .null :: rest)) := by
  intro T hT X
  obtain ⟨t, st, q⟩ := k T hT X
  exact ⟨t, X.lastoreNull hexec (g := F0 m pc ls (.long x :: .int i :: .null :: rest)) rfl (rest := rest) rfl (by rw [hb]; exact hdg) t st, q⟩
theorem vx_fastoreN (hexec : p.tables.exec = Jvm.exec) (hb : c.code = cc) {x : UInt32} {i : Int32} (hdg : decode cc pc = .ok (.fastore, 1)) (k : vx_NoteN p l e R s m args below meth c H locs cells slots Q (F0 m pc ls rest)) : W p l e R s m args below meth c H locs cells slots Q (F0 m pc ls (.float x :: .int i :: .null :: rest)) := by
  intro T hT X
  obtain ⟨t, st, q⟩ := k T hT X
  exact ⟨t, X.fastoreNull hexec (g := F0 m pc ls (.float x :: .int i :: .null :: rest)) rfl (rest := rest) rfl (by rw [hb]; exact hdg) t st, q⟩
theorem vx_dastoreN (hexec : p.tables.exec = Jvm.exec) (hb : c.code = cc) {x : UInt64} {i : Int32} (hdg : decode cc pc = .ok (.dastore, 1)) (k : vx_NoteN p l e R s m args below meth c H locs cells slots Q (F0 m pc ls rest)) : W p l e R s m args below meth c H locs cells slots Q (F0 m pc ls (.double x :: .int i :: .null :: rest)) := by
  intro T hT X
  obtain ⟨t, st, q⟩ := k T hT X
  exact ⟨t, X.dastoreNull hexec (g := F0 m pc ls (.double x :: .int i :: .null :: rest)) rfl (rest := rest) rfl (by rw [hb]; exact hdg) t st, q⟩
theorem vx_bastoreN (hexec : p.tables.exec = Jvm.exec) (hb : c.code = cc) {x : Int32} {i : Int32} (hdg : decode cc pc = .ok (.bastore, 1)) (k : vx_NoteN p l e R s m args below meth c H locs cells slots Q (F0 m pc ls rest)) : W p l e R s m args below meth c H locs cells slots Q (F0 m pc ls (.int x :: .int i :: .null :: rest)) := by
  intro T hT X
  obtain ⟨t, st, q⟩ := k T hT X
  exact ⟨t, X.bastoreNull hexec (g := F0 m pc ls (.int x :: .int i :: .null :: rest)) rfl (rest := rest) rfl (by rw [hb]; exact hdg) t st, q⟩
theorem vx_castoreN (hexec : p.tables.exec = Jvm.exec) (hb : c.code = cc) {x : Int32} {i : Int32} (hdg : decode cc pc = .ok (.castore, 1)) (k : vx_NoteN p l e R s m args below meth c H locs cells slots Q (F0 m pc ls rest)) : W p l e R s m args below meth c H locs cells slots Q (F0 m pc ls (.int x :: .int i :: .null :: rest)) := by
  intro T hT X
  obtain ⟨t, st, q⟩ := k T hT X
  exact ⟨t, X.castoreNull hexec (g := F0 m pc ls (.int x :: .int i :: .null :: rest)) rfl (rest := rest) rfl (by rw [hb]; exact hdg) t st, q⟩
theorem vx_sastoreN (hexec : p.tables.exec = Jvm.exec) (hb : c.code = cc) {x : Int32} {i : Int32} (hdg : decode cc pc = .ok (.sastore, 1)) (k : vx_NoteN p l e R s m args below meth c H locs cells slots Q (F0 m pc ls rest)) : W p l e R s m args below meth c H locs cells slots Q (F0 m pc ls (.int x :: .int i :: .null :: rest)) := by
  intro T hT X
  obtain ⟨t, st, q⟩ := k T hT X
  exact ⟨t, X.sastoreNull hexec (g := F0 m pc ls (.int x :: .int i :: .null :: rest)) rfl (rest := rest) rfl (by rw [hb]; exact hdg) t st, q⟩
theorem vx_invokeN {own C : String} {index maxL : Nat} {y : MethodName} {bytes : ByteArray} {ret : Option FieldType} (hexec : p.tables.exec = Jvm.exec) (hb : c.code = cc) (hown : s.vm.findClass own = some m.cls) (hlink : (Cond.methodLink own index y).before args s = true) (hinst : (Cond.instanceMethod y).before args s = true) (hcode : (Cond.code y bytes maxL ret).before args s = true) (hsel : (Cond.selects C y y).before args s = true)
    (hx : y.cls ≠ "java/lang/invoke/MethodHandle" ∧ y.cls ≠ "java/lang/invoke/VarHandle") {As : List Value} (hlen : (parseMethodDescriptor y.desc).map (fun d => d.parameters.length) = some As.length) (hdg : decode cc pc = .ok (.invokevirtual index, 3))
    (k : vx_NoteN p l e R s m args below meth c H locs cells slots Q (F0 m pc ls rest)) {st0 : List Value} (hst : st0 = As.reverse ++ .null :: rest) : W p l e R s m args below meth c H locs cells slots Q (F0 m pc ls st0) := by
  intro T hT X
  obtain ⟨r0, r, hn, hrm, hstR, hsigR⟩ := va_Decl.of hinst hcode
  obtain ⟨c2, r2, m2, q1, q2, q3, q4, kP, hkP, hkPi⟩ := Cond.selects_spec hsel
  cases hn.symm.trans q3
  have hl9 : As.length = r.sig.parameters.length := by
    rw [hsigR] at hlen
    exact (Option.some.inj hlen).symm
  obtain ⟨vm', X1, st1⟩ := X.invokevirtualNull hexec hown hlink hn hrm hstR hkP hkPi hx (g := F0 m pc ls st0) rfl (argsL := As) (rest := rest) hl9 hst (by rw [hb]; exact hdg)
  obtain ⟨t, st, q⟩ := k (T.setVm vm') hT X1
  exact ⟨t, st1 t st, q⟩
theorem vx_newarrayZ {atype : ArrayType} (hexec : p.tables.exec = Jvm.exec) (hb : c.code = cc) {n : Int32} (h0 : n < 0) (hdg : decode cc pc = .ok (.newarray atype, 2)) (k : ∀ tx : String, tx = toString n → vx_Note p l e R s m args below meth c H locs cells slots Q (F0 m pc ls rest) "java/lang/NegativeArraySizeException" tx) : W p l e R s m args below meth c H locs cells slots Q (F0 m pc ls (.int n :: rest)) := by
  intro T hT X
  obtain ⟨t, st, q⟩ := k _ rfl T hT X
  exact ⟨t, X.newarrayNegative hexec (g := F0 m pc ls (.int n :: rest)) rfl h0 (rest := rest) rfl (by rw [hb]; exact hdg) t st, q⟩
end
end VXM
/-! ===== END ===== -/
/-! ===== BEGIN an exception as an object: made, kept, thrown later (no traces kept) ===== -/
section VXK
variable {p : Program} {l : Launch} {e : Env} {R : Room} {s : State} {m₀ : MethodId} {args : Array Value} {below : List Frame} {meth : Method} {c : Code} {W : State} {locs : List Loc} {cells slots : Nat}
set_option maxHeartbeats 1000000 in
theorem vx_ctorMadeS (X : Stand p l e R s m₀ args below meth c W locs cells slots) (hexec : p.tables.exec = Jvm.exec) (htr : e.platform.stackTraces = false) {own cls : String} {names : List String} {ic : Nat}
    (hown : s.vm.findClass own = some m₀.cls) (hcls : Bundle.fit cls = true) (hnames : ∀ n ∈ names, Bundle.fit n = true)
    (h : ∀ a ∈ Bundle.ownAtoms own ic cls names, a.before args s = true)
    (hlocs : ∀ x ∈ locs, ∀ cell, s.heap[x.base]? = some cell → cell.vm.isStatics = false)
    {a : Addr} {cX : ClassId} {kX : Class} (hfoundX : s.vm.findClass cls = some cX) (hkX : s.vm.classes[cX]? = some kX) (hcell : W.heap[a]? = some (freshCell cX kX)) (hnew : s.heap.size ≤ a)
    {msg : Value} (hmsg : msg.isRef = true)
    {g : JFrame} (hg : g.method = m₀) (hsize : g.locals.size = c.maxLocals) {rest : List Value} (hstack : g.stack = msg :: .ref a :: .ref a :: rest)
    (hd6 : decode c.code g.pc = .ok (.invokespecial ic, 3))
    (hRframes : names.length + 3 < R.frames) (hRlocals : 2 * g.monitorRoom + ((Value.ref a :: rest).map fun v => v.category).sum + (13 * (names.length + 1) + 42) ≤ R.locals) :
    ∃ (V : State) (ce : Cell) (L : List Loc), Stand p l e R s m₀ args below meth c (V.setCell a ce) (locs ++ L) cells slots ∧ (∀ y ∈ L, y.base = a) ∧ a < V.heap.size ∧ ce.cls = cX ∧ ce.vm = .none ∧
      ∀ target, Steps p.tables e below ((V.setCell a ce).setTop { g with stack := .ref a :: rest, pc := g.pc + 3 }) target → Steps p.tables e below (W.setTop g) target := by
  have howns : e.platform.frameOwnsMonitors = true := by rw [X.admits.platform]
  have hfin : e.platform.finalization = false := by rw [X.admits.platform]
  have hpl : e.platform.magicAccessors = ({} : Platform).magicAccessors := by rw [X.admits.platform]
  have a' : ∀ x, x ∈ Bundle.ownAtoms own ic cls names → x.holds args s none s [] = true := fun x hx => h x hx
  obtain ⟨T, Z0, L, -, Y⟩ := ThrowableC.of_atoms (args := args) howns hfin hpl (fun x hx => h x (by simp [Bundle.ownAtoms, hx]))
  obtain ⟨Z, M, LZ, LM, hnZ⟩ := Init0T.ofS_atoms (args := args) hpl L Y (fun x hx => h x (by simp [Bundle.ownAtoms, hx]))
  obtain ⟨P1, Ps, hlen, L1, hL, hP1m, hlink1, hlink⟩ := Bundle.chainS (args := args) hpl hnZ names cls hcls hnames (fun x hx => h x (by simp [Bundle.ownAtoms, hx]))
  have hfound : s.vm.findClass cls = some P1.m.cls := findClass_of_methodNamed hP1m
  cases Option.some.inj (hfoundX.symm.trans hfound)
  obtain ⟨c1, kX', hc1, hk, hord, -, -, hn6⟩ := Cond.instantiable_spec (a' (.instantiable cls 6) (by simp [Bundle.ownAtoms]))
  cases Option.some.inj (hc1.symm.trans hfound)
  cases Option.some.inj (hkX.symm.trans hk)
  have hsel0 : selectMethod e.platform s.vm P1.m.cls T.fill0 = .method T.fill0 := by
    obtain ⟨c2, r2, m2, q1, q2, q3, q4, -⟩ := Cond.selects_spec (a' (.selects cls Bundle.tFill0 Bundle.tFill0) (by simp [Bundle.ownAtoms]))
    cases Option.some.inj (q1.symm.trans hfound)
    cases Option.some.inj (q2.symm.trans (State.methodFound?_of_named Y.fill0 (by decide)))
    cases Option.some.inj (q3.symm.trans Y.fill0)
    rw [Launch.admits_selectMethod X.admits]; exact q4
  have hselF : selectMethod e.platform s.vm P1.m.cls T.fill = .method T.fill := by
    obtain ⟨c2, r2, m2, q1, q2, q3, q4, -⟩ := Cond.selects_spec (a' (.selects cls Bundle.tFill Bundle.tFill) (by simp [Bundle.ownAtoms]))
    cases Option.some.inj (q1.symm.trans hfound)
    cases Option.some.inj (q2.symm.trans (State.methodFound?_of_named Y.fill (by decide)))
    cases Option.some.inj (q3.symm.trans Y.fill)
    rw [Launch.admits_selectMethod X.admits]; exact q4
  obtain ⟨cellS0, hcS0, hiss⟩ := Y.statics
  obtain ⟨u0, hu0⟩ := Cond.staticRefV Y.unassigned L.unassignedStatic L.statics hcS0 hiss (a' (.isRef (.static Bundle.tN "UNASSIGNED_STACK" Bundle.steD)) (by simp [Bundle.ownAtoms]))
  obtain ⟨sen, hsen⟩ := Cond.staticRefV Y.sentinel L.sentinelStatic L.statics hcS0 hiss (a' (.isRef (.static Bundle.tN "SUPPRESSED_SENTINEL" Bundle.listD)) (by simp [Bundle.ownAtoms]))
  obtain ⟨ci198, i198, fB, hk198, hg198, ha198, hsB, -, hnB, htB, hffB⟩ := Cond.ownField (t := .object "java/lang/Object") Y.found L.cls (by decide +kernel) (a' (.fieldLink Bundle.tN 198 Bundle.tN "backtrace" "Ljava/lang/Object;") (by simp [Bundle.ownAtoms])) (a' (.lays Bundle.tN Bundle.tN "backtrace" "Ljava/lang/Object;") (by simp [Bundle.ownAtoms])) e.platform hpl
  obtain ⟨cellS, hcS', heS, -, hkeep⟩ := X.same.2.2.2.2.2 T.aS cellS0 hcS0
  have hcellS : W.heap[T.aS]? = some cellS := hcS'
  have hout' : ∀ i, (⟨T.aS, i⟩ : Loc) ∉ locs := fun i hmem => by
    have := hlocs _ hmem cellS0 hcS0
    rw [hiss] at this; cases this
  have hknownS : cellS.vm ≠ .unknown := by
    rw [heS]; intro hu
    rw [show cellS0.vm = .unknown from hu] at hiss
    cases hiss
  have hneS : T.aS ≠ a := Nat.ne_of_lt (Nat.lt_of_lt_of_le (Array.getElem?_eq_some_iff.mp hcS0).1 hnew)
  obtain ⟨iM, hffM⟩ := Y.msg
  obtain ⟨tyC, dC, hdC, hdnC⟩ := Cond.laysAt hfound hk Y.cause (a' (.lays cls Bundle.tN "cause" "Ljava/lang/Throwable;") (by simp [Bundle.ownAtoms]))
  obtain ⟨tyS, dS, hdS, hdnS⟩ := Cond.laysAt hfound hk Y.stack (a' (.lays cls Bundle.tN "stackTrace" Bundle.steD) (by simp [Bundle.ownAtoms]))
  obtain ⟨tyP, dP, hdP, hdnP⟩ := Cond.laysAt hfound hk Y.supp (a' (.lays cls Bundle.tN "suppressedExceptions" Bundle.listD) (by simp [Bundle.ownAtoms]))
  obtain ⟨tyM, dM, hdM, hdnM⟩ := Cond.laysAt hfound hk hffM (a' (.lays cls Bundle.tN "detailMessage" "Ljava/lang/String;") (by simp [Bundle.ownAtoms]))
  obtain ⟨tyB, dB, hdB, hdnB⟩ := Cond.laysAt hfound hk hffB (a' (.lays cls Bundle.tN "backtrace" "Ljava/lang/Object;") (by simp [Bundle.ownAtoms]))
  have bC := Cond.laysApart hdB hdC hdnB hdnC (by rw [hnB, Y.causeName]; decide)
  have bS := Cond.laysApart hdB hdS hdnB hdnS (by rw [hnB, Y.stackName]; decide)
  have bP := Cond.laysApart hdB hdP hdnB hdnP (by rw [hnB, Y.suppName]; decide)
  have hskip : SkipFacts T e.platform s (fun u => u) u0 ((preparedCellV T.toThrowableT (freshCell P1.m.cls kX) a u0 sen).withEntry W.cur) :=
    ⟨{ ci198 := ci198, i198 := i198, fBack := fB }, ⟨hk198, hg198, ha198, hsB⟩, by
      have := fresh_default (c := P1.m.cls) tyB
      rw [htB] at this
      simpa [preparedCellV, Cell.setSlot, Cell.withEntry, Array.getElem?_setIfInBounds, bC, bS, bP, bC.symm, bS.symm, bP.symm, defaultValue] using this, fun _ _ => rfl⟩
  obtain ⟨tm, methC, cdC, kC, vm₁, hnC, -, -, -, -, -, -, -, hW₁, st1⟩ := Steps.initColdS (tb := p.tables) (e := e) (below := below) (s := s) (U := W) X.here hexec X.warmed hpl hown (t := Bundle.initS cls) rfl rfl (Bundle.fit_spec hcls).2
    (a' (.methodLink own ic (Bundle.initS cls)) (by simp [Bundle.ownAtoms])) (h (.instanceMethod (Bundle.initS cls)) (by cases names <;> simp [Bundle.ownAtoms, Bundle.chainSAtoms, Bundle.passSAtoms])) (bytes := Bundle.six) (maxL := 2) (h (.code (Bundle.initS cls) Bundle.six 2 none) (by cases names <;> simp [Bundle.ownAtoms, Bundle.chainSAtoms, Bundle.passSAtoms]))
    (f := g) hg (a := a) (msg := msg) (rest := .ref a :: rest) hstack hd6
  cases Option.some.inj (hnC.symm.trans hP1m)
  have X₁ := X.noted hW₁
  obtain ⟨vm₂, X₂, st2⟩ := X₁.ctorMessageOffV hexec (g := { g with stack := .ref a :: rest }) hg hsize T L Z LZ M LM (P1 :: Ps)
    (fun P hP => by rcases List.mem_cons.mp hP with rfl | hP; exact L1; exact hL P hP) ⟨hlink1, hlink⟩ (u0 := u0) (sen := sen) (self := a) hmsg (cell := freshCell P1.m.cls kX) (cellS := cellS)
    hcell (fun _ => by simp) (by simp) rfl rfl hsel0 hselF hcellS hneS hknownS (by rw [hkeep _ (hout' _)]; exact hu0) (by rw [hkeep _ (hout' _)]; exact hsen)
    (Takes.of_laid hk hord tyC (by rw [Y.causeType]; rfl)) (Takes.of_laid hk hord tyS (by rw [Y.stackType]; exact fits_refV_array _ u0)) (Takes.of_laid hk hord tyP (by rw [Y.suppType]; exact fits_refV_object _ sen))
    (Takes.of_laid hk hord tyM (by rw [Y.msgType]; exact fits_refV_object _ ⟨msg, hmsg⟩)) Y.objLocals hskip htr [] hd6
    (by simp only [List.length_cons, hlen]; omega) (by simp only [List.length_cons, hlen]; exact hRlocals)
  have hlt : a < ((W.setVm vm₁).setVm vm₂).heap.size := (Array.getElem?_eq_some_iff.mp hcell).1
  refine ⟨(W.setVm vm₁).setVm vm₂, _, _, X₂, fun y hy => ?_, hlt, rfl, rfl, fun target hwalk => st1 _ (fun acts => ?_)⟩
  · simp only [List.mem_cons, List.not_mem_nil, or_false] at hy
    rcases hy with rfl | rfl | rfl | rfl | rfl <;> rfl
  · rw [doInvoke_state]
    exact st2 _ hwalk
set_option maxHeartbeats 1000000 in
theorem vx_ctorMade0 (X : Stand p l e R s m₀ args below meth c W locs cells slots) (hexec : p.tables.exec = Jvm.exec) (htr : e.platform.stackTraces = false) {own cls : String} {names : List String} {ic : Nat}
    (hown : s.vm.findClass own = some m₀.cls) (hcls : Bundle.fit cls = true) (hnames : ∀ n ∈ names, Bundle.fit n = true)
    (h : ∀ a ∈ Bundle.ownAtoms0 own ic cls names, a.before args s = true)
    (hlocs : ∀ x ∈ locs, ∀ cell, s.heap[x.base]? = some cell → cell.vm.isStatics = false)
    {a : Addr} {cX : ClassId} {kX : Class} (hfoundX : s.vm.findClass cls = some cX) (hkX : s.vm.classes[cX]? = some kX) (hcell : W.heap[a]? = some (freshCell cX kX)) (hnew : s.heap.size ≤ a)
    {g : JFrame} (hg : g.method = m₀) (hsize : g.locals.size = c.maxLocals) {rest : List Value} (hstack : g.stack = .ref a :: .ref a :: rest)
    (hd6 : decode c.code g.pc = .ok (.invokespecial ic, 3))
    (hRframes : names.length + 3 < R.frames) (hRlocals : 2 * g.monitorRoom + ((Value.ref a :: rest).map fun v => v.category).sum + (13 * (names.length + 1) + 41) ≤ R.locals) :
    ∃ (V : State) (ce : Cell) (L : List Loc), Stand p l e R s m₀ args below meth c (V.setCell a ce) (locs ++ L) cells slots ∧ (∀ y ∈ L, y.base = a) ∧ a < V.heap.size ∧ ce.cls = cX ∧ ce.vm = .none ∧
      ∀ target, Steps p.tables e below ((V.setCell a ce).setTop { g with stack := .ref a :: rest, pc := g.pc + 3 }) target → Steps p.tables e below (W.setTop g) target := by
  have howns : e.platform.frameOwnsMonitors = true := by rw [X.admits.platform]
  have hfin : e.platform.finalization = false := by rw [X.admits.platform]
  have hpl : e.platform.magicAccessors = ({} : Platform).magicAccessors := by rw [X.admits.platform]
  have a' : ∀ x, x ∈ Bundle.ownAtoms0 own ic cls names → x.holds args s none s [] = true := fun x hx => h x hx
  obtain ⟨T, Z, L, LZ, Y⟩ := ThrowableC.of_atoms (args := args) howns hfin hpl (fun x hx => h x (by simp [Bundle.ownAtoms0, hx]))
  obtain ⟨P1, Ps, hlen, L1, hL, hP1m, hlink1, hlink⟩ := Bundle.chain0 (args := args) hpl Y.init0 names cls hcls hnames (fun x hx => h x (by simp [Bundle.ownAtoms0, hx]))
  have hfound : s.vm.findClass cls = some P1.m.cls := findClass_of_methodNamed hP1m
  cases Option.some.inj (hfoundX.symm.trans hfound)
  obtain ⟨c1, kX', hc1, hk, hord, -, -, hn6⟩ := Cond.instantiable_spec (a' (.instantiable cls 6) (by simp [Bundle.ownAtoms0]))
  cases Option.some.inj (hc1.symm.trans hfound)
  cases Option.some.inj (hkX.symm.trans hk)
  have hsel0 : selectMethod e.platform s.vm P1.m.cls T.fill0 = .method T.fill0 := by
    obtain ⟨c2, r2, m2, q1, q2, q3, q4, -⟩ := Cond.selects_spec (a' (.selects cls Bundle.tFill0 Bundle.tFill0) (by simp [Bundle.ownAtoms0]))
    cases Option.some.inj (q1.symm.trans hfound)
    cases Option.some.inj (q2.symm.trans (State.methodFound?_of_named Y.fill0 (by decide)))
    cases Option.some.inj (q3.symm.trans Y.fill0)
    rw [Launch.admits_selectMethod X.admits]; exact q4
  have hselF : selectMethod e.platform s.vm P1.m.cls T.fill = .method T.fill := by
    obtain ⟨c2, r2, m2, q1, q2, q3, q4, -⟩ := Cond.selects_spec (a' (.selects cls Bundle.tFill Bundle.tFill) (by simp [Bundle.ownAtoms0]))
    cases Option.some.inj (q1.symm.trans hfound)
    cases Option.some.inj (q2.symm.trans (State.methodFound?_of_named Y.fill (by decide)))
    cases Option.some.inj (q3.symm.trans Y.fill)
    rw [Launch.admits_selectMethod X.admits]; exact q4
  obtain ⟨cellS0, hcS0, hiss⟩ := Y.statics
  obtain ⟨u0, hu0⟩ := Cond.staticRefV Y.unassigned L.unassignedStatic L.statics hcS0 hiss (a' (.isRef (.static Bundle.tN "UNASSIGNED_STACK" Bundle.steD)) (by simp [Bundle.ownAtoms0]))
  obtain ⟨sen, hsen⟩ := Cond.staticRefV Y.sentinel L.sentinelStatic L.statics hcS0 hiss (a' (.isRef (.static Bundle.tN "SUPPRESSED_SENTINEL" Bundle.listD)) (by simp [Bundle.ownAtoms0]))
  obtain ⟨ci198, i198, fB, hk198, hg198, ha198, hsB, -, hnB, htB, hffB⟩ := Cond.ownField (t := .object "java/lang/Object") Y.found L.cls (by decide +kernel) (a' (.fieldLink Bundle.tN 198 Bundle.tN "backtrace" "Ljava/lang/Object;") (by simp [Bundle.ownAtoms0])) (a' (.lays Bundle.tN Bundle.tN "backtrace" "Ljava/lang/Object;") (by simp [Bundle.ownAtoms0])) e.platform hpl
  obtain ⟨cellS, hcS', heS, -, hkeep⟩ := X.same.2.2.2.2.2 T.aS cellS0 hcS0
  have hcellS : W.heap[T.aS]? = some cellS := hcS'
  have hout' : ∀ i, (⟨T.aS, i⟩ : Loc) ∉ locs := fun i hmem => by
    have := hlocs _ hmem cellS0 hcS0
    rw [hiss] at this; cases this
  have hknownS : cellS.vm ≠ .unknown := by
    rw [heS]; intro hu
    rw [show cellS0.vm = .unknown from hu] at hiss
    cases hiss
  have hneS : T.aS ≠ a := Nat.ne_of_lt (Nat.lt_of_lt_of_le (Array.getElem?_eq_some_iff.mp hcS0).1 hnew)
  obtain ⟨iM, hffM⟩ := Y.msg
  obtain ⟨tyC, dC, hdC, hdnC⟩ := Cond.laysAt hfound hk Y.cause (a' (.lays cls Bundle.tN "cause" "Ljava/lang/Throwable;") (by simp [Bundle.ownAtoms0]))
  obtain ⟨tyS, dS, hdS, hdnS⟩ := Cond.laysAt hfound hk Y.stack (a' (.lays cls Bundle.tN "stackTrace" Bundle.steD) (by simp [Bundle.ownAtoms0]))
  obtain ⟨tyP, dP, hdP, hdnP⟩ := Cond.laysAt hfound hk Y.supp (a' (.lays cls Bundle.tN "suppressedExceptions" Bundle.listD) (by simp [Bundle.ownAtoms0]))
  obtain ⟨tyM, dM, hdM, hdnM⟩ := Cond.laysAt hfound hk hffM (a' (.lays cls Bundle.tN "detailMessage" "Ljava/lang/String;") (by simp [Bundle.ownAtoms0]))
  obtain ⟨tyB, dB, hdB, hdnB⟩ := Cond.laysAt hfound hk hffB (a' (.lays cls Bundle.tN "backtrace" "Ljava/lang/Object;") (by simp [Bundle.ownAtoms0]))
  have bC := Cond.laysApart hdB hdC hdnB hdnC (by rw [hnB, Y.causeName]; decide)
  have bS := Cond.laysApart hdB hdS hdnB hdnS (by rw [hnB, Y.stackName]; decide)
  have bP := Cond.laysApart hdB hdP hdnB hdnP (by rw [hnB, Y.suppName]; decide)
  have hskip : SkipFacts T e.platform s (fun u => u) u0 ((preparedCellV T.toThrowableT (freshCell P1.m.cls kX) a u0 sen).withEntry W.cur) :=
    ⟨{ ci198 := ci198, i198 := i198, fBack := fB }, ⟨hk198, hg198, ha198, hsB⟩, by
      have := fresh_default (c := P1.m.cls) tyB
      rw [htB] at this
      simpa [preparedCellV, Cell.setSlot, Cell.withEntry, Array.getElem?_setIfInBounds, bC, bS, bP, bC.symm, bS.symm, bP.symm, defaultValue] using this, fun _ _ => rfl⟩
  obtain ⟨tm, methC, cdC, kC, vm₁, hnC, -, -, -, -, -, -, -, hW₁, st1⟩ := Steps.initCold (tb := p.tables) (e := e) (below := below) (s := s) (U := W) X.here hexec X.warmed hpl hown (t := Bundle.init0 cls) rfl rfl (Bundle.fit_spec hcls).2
    (a' (.methodLink own ic (Bundle.init0 cls)) (by simp [Bundle.ownAtoms0])) (h (.instanceMethod (Bundle.init0 cls)) (by cases names <;> simp [Bundle.ownAtoms0, Bundle.chain0Atoms, Bundle.passAtoms])) (bytes := Bundle.five) (maxL := 1) (h (.code (Bundle.init0 cls) Bundle.five 1 none) (by cases names <;> simp [Bundle.ownAtoms0, Bundle.chain0Atoms, Bundle.passAtoms]))
    (f := g) hg (a := a) (rest := .ref a :: rest) hstack hd6
  cases Option.some.inj (hnC.symm.trans hP1m)
  have X₁ := X.noted hW₁
  obtain ⟨vm₂, X₂, st2⟩ := X₁.ctorPlainOffV hexec (g := { g with stack := .ref a :: rest }) hg hsize T L Z LZ (P1 :: Ps)
    (fun P hP => by rcases List.mem_cons.mp hP with rfl | hP; exact L1; exact hL P hP) ⟨hlink1, hlink⟩ (u0 := u0) (sen := sen) (self := a) (cell := freshCell P1.m.cls kX) (cellS := cellS)
    hcell (fun _ => by simp) (by simp) rfl rfl hsel0 hselF hcellS hneS hknownS (by rw [hkeep _ (hout' _)]; exact hu0) (by rw [hkeep _ (hout' _)]; exact hsen)
    (Takes.of_laid hk hord tyC (by rw [Y.causeType]; rfl)) (Takes.of_laid hk hord tyS (by rw [Y.stackType]; exact fits_refV_array _ u0)) (Takes.of_laid hk hord tyP (by rw [Y.suppType]; exact fits_refV_object _ sen)) Y.objLocals hskip htr [] hd6
    (by simp only [List.length_cons, hlen]; omega) (by simp only [List.length_cons, hlen]; exact hRlocals)
  have hlt : a < ((W.setVm vm₁).setVm vm₂).heap.size := (Array.getElem?_eq_some_iff.mp hcell).1
  refine ⟨(W.setVm vm₁).setVm vm₂, _, _, X₂, fun y hy => ?_, hlt, rfl, rfl, fun target hwalk => st1 _ (fun acts => ?_)⟩
  · simp only [List.mem_cons, List.not_mem_nil, or_false] at hy
    rcases hy with rfl | rfl | rfl | rfl <;> rfl
  · rw [doInvoke_state]
    exact st2 _ hwalk
end VXK
section VXK2
variable {p : Program} {l : Launch} {e : Env} {R : Room} {s : State} {m : MethodId} {args : Array Value} {below : List Frame} {meth : Method} {c : Code} {H : Heap} {locs : List Loc} {cells slots : Nat} {Q : State → Prop}
variable {ls : Array Slot} {rest : List Value} {D : va_G} {cl : List vw_C} {tys : List (ClassId × FieldType)} {ws : va_W}
/-- 'new E("text")' that isn't thrown at once: the object goes on the stack -/
theorem vx_makeS {cc : ByteArray} {pc : Nat} (hexec : p.tables.exec = Jvm.exec) (hb : c.code = cc) (hl : l.stackTraces = false) {own cls text : String} {names : List String} {ik is ic sa ci : Nat} {A : Nat → Prop} {T0 : u_T}
    (hown : s.vm.findClass own = some m.cls) (hcls : Bundle.fit cls = true) (hnames : ∀ n ∈ names, Bundle.fit n = true)
    (hk : (Cond.classLink own ik cls).before args s = true) (hini : (Cond.initialized cls).before args s = true) (hstr : vk_R own is text sa s) (hat : ∀ w ∈ vx_atS own ic cls names, w.before args s = true)
    (hgood : ∀ w ∈ Cond.classLink own ik cls :: Cond.initialized cls :: vx_atS own ic cls names, vx_ot w = true)
    (hU : vx_Zq Bundle.tN "UNASSIGNED_STACK" Bundle.steD A s s.heap) (hN : vx_Zq Bundle.tN "SUPPRESSED_SENTINEL" Bundle.listD A s s.heap) (hS : va_S A s.heap H locs) (hsize : ls.size = c.maxLocals)
    (d0 : decode cc pc = .ok (.new ik, 3)) (d3 : decode cc (pc + 3) = .ok (.dup, 1)) (d4 : decode cc (pc + 4) = .ok (.ldc is, 2)) (d6 : decode cc (pc + 6) = .ok (.invokespecial ic, 3))
    (hK : va_K D cl tys s) (hP : va_P D cl ws H) (hD : va_D A ws) (hA : ∀ q, s.heap.size ≤ q → A q) (hc : cl[ci]? = some (cls, T0, 0))
    (hRframes : names.length + 3 < R.frames) (hRlocals : (rest.map fun v => v.category).sum + (13 * (names.length + 1) + 43) ≤ R.locals) (hRcells : cells + 1 ≤ R.cells) (hRslots : slots + 6 ≤ R.slots)
    (kk : ∀ (q : Nat) (H1 : Heap), va_P D cl (ws ++ [(q, .inr (ci, []))]) H1 → va_D A (ws ++ [(q, .inr (ci, []))]) → va_S A s.heap H1 locs → W p l e R s m args below meth c H1 locs (cells + 1) (slots + 6) Q (F0 m (pc + 9) ls (.ref q :: rest))) :
    W p l e R s m args below meth c H locs cells slots Q (F0 m pc ls rest) := by
  intro T hT X
  subst hT
  have htr : e.platform.stackTraces = false := (show e.platform.stackTraces = l.stackTraces by rw [X.admits.platform]).trans hl
  have Y := vx_rebase X (R' := { frames := R.frames, locals := R.locals, cells := 1, slots := 6 }) (Nat.le_refl _) (Nat.le_refl _) hRcells hRslots
  obtain ⟨s', hA'⟩ : ∃ z, z = (T.setVm s.vm).setFrames (.invoking m args :: below) := ⟨_, rfl⟩
  rw [← hA'] at Y
  have hvm : s'.vm = s.vm := by rw [hA']; rfl
  have hhp : s'.heap = T.heap := by rw [hA']; rfl
  have hW0 : s.WarmedH s'.vm := by rw [hvm]; exact State.WarmedH.refl s
  have hat' : ∀ w ∈ vx_atS own ic cls names, w.before args s' = true := fun w hw => vx_ot_at hW0 hvm.symm (hgood w (List.mem_cons_of_mem _ (List.mem_cons_of_mem _ hw))) (hat w hw)
  have hk' : (Cond.classLink own ik cls).before args s' = true := vx_ot_at hW0 hvm.symm (hgood _ List.mem_cons_self) hk
  have hini' : (Cond.initialized cls).before args s' = true := vx_ot_at hW0 hvm.symm (hgood _ (List.mem_cons_of_mem _ List.mem_cons_self)) hini
  have hU' : vx_Zq Bundle.tN "UNASSIGNED_STACK" Bundle.steD A s' s'.heap := by rw [hhp]; exact vx_Zq.moved hW0.alike (hU.kept hS.2.1)
  have hN' : vx_Zq Bundle.tN "SUPPRESSED_SENTINEL" Bundle.listD A s' s'.heap := by rw [hhp]; exact vx_Zq.moved hW0.alike (hN.kept hS.2.1)
  have h : ∀ w ∈ Bundle.ownAtoms own ic cls names, w.before args s' = true := vx_own hat' (vx_isRefq hU'.1) (vx_isRefq hN'.1) hU'.2.word hN'.2.word
  have hown' : s'.vm.findClass own = some m.cls := by rw [hvm]; exact hown
  have hins : (Cond.instantiable cls 6).before args s' = true := h _ (by simp [Bundle.ownAtoms])
  obtain ⟨vm₁, cX, kX, hfX, hkX, -, -, X₁, st1⟩ := Y.newCold hexec (own := own) (C := cls) (index := ik) (n := 6) hown' hk' hins hini'
    (g := F0 m pc ls rest) rfl (by rw [hb]; exact d0) (Nat.le_refl _) (Nat.le_refl _)
  generalize hT1 : (T.setVm vm₁).pushCell { cls := cX, slots := kX.instanceTypes.map defaultValue, vm := .none } = T1 at X₁ st1
  have hcat : (Value.ref T.heap.size).category = 1 := rfl
  have hcellA : T1.heap[T.heap.size]? = some (freshCell cX kX) := by rw [← hT1]; exact State.heap_pushCell_size _ _
  have d3' : decode c.code (pc + 3) = .ok (.dup, 1) := by rw [hb]; exact d3
  have d4' : decode c.code (pc + 4) = .ok (.ldc is, 2) := by rw [hb]; exact d4
  have hstr' : vk_R own is text sa s' := vk_R.warm hW0 hstr
  obtain ⟨V, ce, L, Z, hL, hlt, hcl9, hvm9, st⟩ := vx_ctorMadeS X₁ hexec htr (own := own) (cls := cls) (names := names) (ic := ic) hown' hcls hnames h (fun x hx => nomatch hx) hfX hkX hcellA (by rw [hhp]; exact Nat.le_refl _) (msg := .ref sa) rfl
    (g := { method := m, pc := pc + 6, locals := ls, stack := .ref sa :: .ref T.heap.size :: .ref T.heap.size :: rest, locked := none }) rfl hsize (rest := rest) rfl
    (by rw [hb]; exact d6) hRframes (by simp only [List.map_cons, List.sum_cons, hcat]; omega)
  have Z0 := Stand.forget (locs := []) Z (fun y hy => by rw [hL y hy, hhp]; exact Nat.le_refl _)
  obtain ⟨f1, f2⟩ := vx_frame Z0.same
  rw [hhp] at f1 f2
  have hcid : ce.cls = D.1 ci := by
    rw [hcl9]
    have h1 := (hK.1 ci _ hc).2.1
    rw [hvm] at hfX
    exact Option.some.inj (hfX.symm.trans h1)
  have hh : (V.setCell T.heap.size ce).heap[T.heap.size]? = some ce := heapAt_setCell_self (s := V) ce hlt
  subst hA'
  have X5 := vx_back9 X Y Z0
  have X6 : Stand p l e R s m args below meth c (V.setCell T.heap.size ce) locs (cells + 1) (slots + 6) := { X5 with same := X5.same.mono (by omega) (by omega) }
  have hk9 : ∀ (k : Nat) (x : Nat × va_E), ws[k]? = some x → (V.setCell T.heap.size ce).heap[x.1]? = T.heap[x.1]? := fun k x hx => f2 x.1 ((hP k x hx).lt) (fun z hz => nomatch hz)
  obtain ⟨t, a1, b1⟩ := kk T.heap.size (V.setCell T.heap.size ce).heap ((hP.kept hk9).app (fun k x hx => by
      have hz : k < 1 := (List.getElem?_eq_some_iff.mp hx).1
      rw [show k = 0 by omega] at hx
      cases hx
      exact ⟨_, hc, ce, hh, hcid, hvm9, fun k hk => absurd hk (Nat.not_lt_zero k)⟩)) (hD.push hP rfl (hA _ hS.1)) ⟨Nat.le_trans hS.1 f1, fun q h1 h2 => (f2 q (Nat.lt_of_lt_of_le h1 hS.1) (fun z hz => nomatch hz)).trans (hS.2.1 q h1 h2), hS.2.2⟩ _ rfl X6
  refine ⟨t, st1 _ ?_, b1⟩
  show Steps p.tables e below (T1.setTop { method := m, pc := pc + 3, locals := ls, stack := .ref T.heap.size :: rest, locked := none }) _
  jvm_step X₁.here [X₁.here.top, hexec, d3', Value.category]
  exact X₁.ldcString hexec (own := own) (text := text) (index := is) (a := sa) hown' hstr'.1 hstr'.2
    (g := { method := m, pc := pc + 4, locals := ls, stack := .ref T.heap.size :: .ref T.heap.size :: rest, locked := none }) rfl d4' _ (st _ a1)
/-- 'new E()' that isn't thrown at once: the object goes on the stack -/
theorem vx_make0 {cc : ByteArray} {pc : Nat} (hexec : p.tables.exec = Jvm.exec) (hb : c.code = cc) (hl : l.stackTraces = false) {own cls : String} {names : List String} {ik ic ci : Nat} {A : Nat → Prop} {T0 : u_T}
    (hown : s.vm.findClass own = some m.cls) (hcls : Bundle.fit cls = true) (hnames : ∀ n ∈ names, Bundle.fit n = true)
    (hk : (Cond.classLink own ik cls).before args s = true) (hini : (Cond.initialized cls).before args s = true) (hat : ∀ w ∈ vx_at0 own ic cls names, w.before args s = true)
    (hgood : ∀ w ∈ Cond.classLink own ik cls :: Cond.initialized cls :: vx_at0 own ic cls names, vx_ot w = true)
    (hU : vx_Zq Bundle.tN "UNASSIGNED_STACK" Bundle.steD A s s.heap) (hN : vx_Zq Bundle.tN "SUPPRESSED_SENTINEL" Bundle.listD A s s.heap) (hS : va_S A s.heap H locs) (hsize : ls.size = c.maxLocals)
    (d0 : decode cc pc = .ok (.new ik, 3)) (d3 : decode cc (pc + 3) = .ok (.dup, 1)) (d4 : decode cc (pc + 4) = .ok (.invokespecial ic, 3))
    (hK : va_K D cl tys s) (hP : va_P D cl ws H) (hD : va_D A ws) (hA : ∀ q, s.heap.size ≤ q → A q) (hc : cl[ci]? = some (cls, T0, 0))
    (hRframes : names.length + 3 < R.frames) (hRlocals : (rest.map fun v => v.category).sum + (13 * (names.length + 1) + 42) ≤ R.locals) (hRcells : cells + 1 ≤ R.cells) (hRslots : slots + 6 ≤ R.slots)
    (kk : ∀ (q : Nat) (H1 : Heap), va_P D cl (ws ++ [(q, .inr (ci, []))]) H1 → va_D A (ws ++ [(q, .inr (ci, []))]) → va_S A s.heap H1 locs → W p l e R s m args below meth c H1 locs (cells + 1) (slots + 6) Q (F0 m (pc + 7) ls (.ref q :: rest))) :
    W p l e R s m args below meth c H locs cells slots Q (F0 m pc ls rest) := by
  intro T hT X
  subst hT
  have htr : e.platform.stackTraces = false := (show e.platform.stackTraces = l.stackTraces by rw [X.admits.platform]).trans hl
  have Y := vx_rebase X (R' := { frames := R.frames, locals := R.locals, cells := 1, slots := 6 }) (Nat.le_refl _) (Nat.le_refl _) hRcells hRslots
  obtain ⟨s', hA'⟩ : ∃ z, z = (T.setVm s.vm).setFrames (.invoking m args :: below) := ⟨_, rfl⟩
  rw [← hA'] at Y
  have hvm : s'.vm = s.vm := by rw [hA']; rfl
  have hhp : s'.heap = T.heap := by rw [hA']; rfl
  have hW0 : s.WarmedH s'.vm := by rw [hvm]; exact State.WarmedH.refl s
  have hat' : ∀ w ∈ vx_at0 own ic cls names, w.before args s' = true := fun w hw => vx_ot_at hW0 hvm.symm (hgood w (List.mem_cons_of_mem _ (List.mem_cons_of_mem _ hw))) (hat w hw)
  have hk' : (Cond.classLink own ik cls).before args s' = true := vx_ot_at hW0 hvm.symm (hgood _ List.mem_cons_self) hk
  have hini' : (Cond.initialized cls).before args s' = true := vx_ot_at hW0 hvm.symm (hgood _ (List.mem_cons_of_mem _ List.mem_cons_self)) hini
  have hU' : vx_Zq Bundle.tN "UNASSIGNED_STACK" Bundle.steD A s' s'.heap := by rw [hhp]; exact vx_Zq.moved hW0.alike (hU.kept hS.2.1)
  have hN' : vx_Zq Bundle.tN "SUPPRESSED_SENTINEL" Bundle.listD A s' s'.heap := by rw [hhp]; exact vx_Zq.moved hW0.alike (hN.kept hS.2.1)
  have h : ∀ w ∈ Bundle.ownAtoms0 own ic cls names, w.before args s' = true := vx_own hat' (vx_isRefq hU'.1) (vx_isRefq hN'.1) hU'.2.word hN'.2.word
  have hown' : s'.vm.findClass own = some m.cls := by rw [hvm]; exact hown
  have hins : (Cond.instantiable cls 6).before args s' = true := h _ (by simp [Bundle.ownAtoms0])
  obtain ⟨vm₁, cX, kX, hfX, hkX, -, -, X₁, st1⟩ := Y.newCold hexec (own := own) (C := cls) (index := ik) (n := 6) hown' hk' hins hini'
    (g := F0 m pc ls rest) rfl (by rw [hb]; exact d0) (Nat.le_refl _) (Nat.le_refl _)
  generalize hT1 : (T.setVm vm₁).pushCell { cls := cX, slots := kX.instanceTypes.map defaultValue, vm := .none } = T1 at X₁ st1
  have hcat : (Value.ref T.heap.size).category = 1 := rfl
  have hcellA : T1.heap[T.heap.size]? = some (freshCell cX kX) := by rw [← hT1]; exact State.heap_pushCell_size _ _
  have d3' : decode c.code (pc + 3) = .ok (.dup, 1) := by rw [hb]; exact d3
  obtain ⟨V, ce, L, Z, hL, hlt, hcl9, hvm9, st⟩ := vx_ctorMade0 X₁ hexec htr (own := own) (cls := cls) (names := names) (ic := ic) hown' hcls hnames h (fun x hx => nomatch hx) hfX hkX hcellA (by rw [hhp]; exact Nat.le_refl _)
    (g := { method := m, pc := pc + 4, locals := ls, stack := .ref T.heap.size :: .ref T.heap.size :: rest, locked := none }) rfl hsize (rest := rest) rfl
    (by rw [hb]; exact d4) hRframes (by simp only [List.map_cons, List.sum_cons, hcat]; omega)
  have Z0 := Stand.forget (locs := []) Z (fun y hy => by rw [hL y hy, hhp]; exact Nat.le_refl _)
  obtain ⟨f1, f2⟩ := vx_frame Z0.same
  rw [hhp] at f1 f2
  have hcid : ce.cls = D.1 ci := by
    rw [hcl9]
    have h1 := (hK.1 ci _ hc).2.1
    rw [hvm] at hfX
    exact Option.some.inj (hfX.symm.trans h1)
  have hh : (V.setCell T.heap.size ce).heap[T.heap.size]? = some ce := heapAt_setCell_self (s := V) ce hlt
  subst hA'
  have X5 := vx_back9 X Y Z0
  have X6 : Stand p l e R s m args below meth c (V.setCell T.heap.size ce) locs (cells + 1) (slots + 6) := { X5 with same := X5.same.mono (by omega) (by omega) }
  have hk9 : ∀ (k : Nat) (x : Nat × va_E), ws[k]? = some x → (V.setCell T.heap.size ce).heap[x.1]? = T.heap[x.1]? := fun k x hx => f2 x.1 ((hP k x hx).lt) (fun z hz => nomatch hz)
  obtain ⟨t, a1, b1⟩ := kk T.heap.size (V.setCell T.heap.size ce).heap ((hP.kept hk9).app (fun k x hx => by
      have hz : k < 1 := (List.getElem?_eq_some_iff.mp hx).1
      rw [show k = 0 by omega] at hx
      cases hx
      exact ⟨_, hc, ce, hh, hcid, hvm9, fun k hk => absurd hk (Nat.not_lt_zero k)⟩)) (hD.push hP rfl (hA _ hS.1)) ⟨Nat.le_trans hS.1 f1, fun q h1 h2 => (f2 q (Nat.lt_of_lt_of_le h1 hS.1) (fun z hz => nomatch hz)).trans (hS.2.1 q h1 h2), hS.2.2⟩ _ rfl X6
  refine ⟨t, st1 _ ?_, b1⟩
  show Steps p.tables e below (T1.setTop { method := m, pc := pc + 3, locals := ls, stack := .ref T.heap.size :: rest, locked := none }) _
  jvm_step X₁.here [X₁.here.top, hexec, d3', Value.category]
  exact st _ a1
/-- 'throw x' of an object that was made before -/
theorem vx_athrow {cc : ByteArray} {pc : Nat} (hexec : p.tables.exec = Jvm.exec) (hb : c.code = cc) {q : Addr} (hdg : decode cc pc = .ok (.athrow, 1)) (k : vx_W p l e R s m args below meth c H locs cells slots Q (F0 m pc ls rest) q) : W p l e R s m args below meth c H locs cells slots Q (F0 m pc ls (.ref q :: rest)) := by
  intro T hT X
  obtain ⟨t, st, hq⟩ := k T hT X
  refine ⟨t, ?_, hq⟩
  have hdg' : decode c.code pc = .ok (.athrow, 1) := by rw [hb]; exact hdg
  jvm_step X.here [X.here.top, hexec, hdg', athrow.wp_sem]
  exact st
end VXK2
/-! ===== END ===== -/
/-! ===== BEGIN a constructor that throws (launches without stack traces) ===== -/
section VXIA
variable {p : Program} {l : Launch} {e : Env} {R : Room} {s : State} {m : MethodId} {args : Array Value} {below : List Frame} {meth : Method} {c : Code} {T : State} {locs : List Loc} {cells slots : Nat}
theorem vx_callI (X : Stand p l e R s m args below meth c T locs cells slots) (hexec : p.tables.exec = Jvm.exec) {own : String} {index : Nat} {y : MethodName} {bytes : ByteArray} {maxL : Nat}
    (hown : s.vm.findClass own = some m.cls) (hy1 : y.name = "<init>") (hlink : (Cond.methodLink own index y).before args s = true) (hinst : (Cond.instanceMethod y).before args s = true)
    (hcode : (Cond.code y bytes maxL none).before args s = true) (hy : y.cls ≠ "java/lang/invoke/MethodHandle" ∧ y.cls ≠ "java/lang/invoke/VarHandle")
    {W9 : Nat} {Pre : Pt → Array Value → Prop} {Post : Pt → Array Value → Option Value → Pt → Prop} {PostX : Pt → Array Value → Addr → Pt → Prop} (hK : vx_Back l R p e below s args y 3 W9 Pre Post PostX)
    {g : JFrame} (hg : g.method = m) (hsize : g.locals.size = c.maxLocals) {a : Addr} {argsL rest : List Value} (hlen : ∀ sig, parseMethodDescriptor y.desc = some sig → argsL.length = sig.parameters.length)
    (hstack : g.stack = argsL.reverse ++ .ref a :: rest) (hW : 2 * g.monitorRoom + (rest.map fun v => v.category).sum ≤ W9) (hdg : decode c.code g.pc = .ok (.invokespecial index, 3))
    (hpre : ∀ vm₁, s.WarmedH vm₁ → Pre ⟨T.setVm vm₁, locs, cells, slots⟩ (Value.ref a :: argsL).toArray) :
    (∃ (v : Option Value) (vm₁ : Vm) (B : Pt), s.WarmedH vm₁ ∧ Stand p l e R s m args below meth c B.U B.locs B.cells B.slots ∧ Post ⟨T.setVm vm₁, locs, cells, slots⟩ (Value.ref a :: argsL).toArray v B ∧
      ∀ target, Steps p.tables e below (B.U.setTop { g with pc := g.pc + 3, stack := v.toList ++ rest }) target → Steps p.tables e below (T.setTop g) target) ∨
    (∃ (q : Addr) (vm₁ : Vm) (B : Pt), s.WarmedH vm₁ ∧ Stand p l e R s m args below meth c B.U B.locs B.cells B.slots ∧ PostX ⟨T.setVm vm₁, locs, cells, slots⟩ (Value.ref a :: argsL).toArray q B ∧
      Steps p.tables e below (T.setTop g) ((B.U.setTop { g with stack := rest }).pushFrame (.throwing q))) := by
  subst hg
  have hpl : e.platform.magicAccessors = ({} : Platform).magicAccessors := by rw [X.admits.platform]
  obtain ⟨mk, methM, cM, kP, vm₁, hnamed, hmethM, hcodeM, -, hlocalsM, -, hkP, -, hW₁, hstep₁⟩ := Steps.initColdArgs (e := e) X.here hexec X.warmed hpl hown hy1 hy hlink hinst hcode (f := g) rfl hlen hstack hdg
  have X₁ := X.noted hW₁
  rcases hK g.method meth c ⟨T.setVm vm₁, locs, cells, slots⟩ { g with stack := rest } (.invokespecial index) mk (Value.ref a :: argsL).toArray X₁ rfl hsize hdg hW (X₁.named hnamed) (hpre vm₁ X₁.warmed) with ⟨v, B, X', hpost, hsteps⟩ | ⟨q, B, X', hpost, hsteps⟩
  · exact Or.inl ⟨v, vm₁, B, X₁.warmed, X', hpost, fun target h => hstep₁ _ fun acts => by rw [doInvoke_state]; exact hsteps.trans h⟩
  · exact Or.inr ⟨q, vm₁, B, X₁.warmed, X', hpost, hstep₁ _ fun acts => by rw [doInvoke_state]; exact hsteps⟩
end VXIA
section VXIB
variable {p : Program} {l : Launch} {e : Env} {R : Room} {s : State} {m : MethodId} {args : Array Value} {below : List Frame} {meth : Method} {c : Code} {H : Heap} {locs : List Loc} {cells slots : Nat}
variable {y : MethodName} {bytes cc : ByteArray} {maxL nL mc ms n index : Nat} {ret : Option FieldType} {ws : List Cond} {rm : Room} {Pc : Array Value → State → Prop} {Qc : Array Value → State → Outcome → State → Prop} {XC : String → State → State → Prop} {free : Addr → Prop} {Ts : List Cond} {own C : String} {b : Addr} {As rest : List Value} {g : JFrame}
theorem vx_runI (S : CallFix p m c cc nL s args Ts own) (hM : vx_Met l y ws rm Pc Qc XC mc ms free) (cw : CallB R s args own index y bytes maxL none ws rm mc ms n ∧ y.name = "<init>" ∧ (Cond.instanceMethod y).before args s = true) (hp : PreS s H Pc (.ref b :: As))
    (hg : g.method = m) (hn : As.length = n) (hsize : g.locals.size = nL) (hstack : g.stack = As.reverse ++ .ref b :: rest) (hW : 2 * g.monitorRoom + (rest.map fun v => v.category).sum ≤ 8) (hdg : decode cc g.pc = .ok (.invokespecial index, 3)) (hf : cells + mc ≤ R.cells ∧ slots + ms ≤ R.slots) :
    vx_Run p l e R s m args below meth c H locs cells slots mc ms g rest (Qc (Value.ref b :: As).toArray) XC free := by
  have hK : vx_Back l R p e below s args y 3 8 (PreOf R mc ms Pc) (PostOf Qc mc ms free) (vx_Post XC mc ms free) := vx_callBack cw.1 hM hp.1
  obtain ⟨⟨-, -, -, -, -, -, hcode, -, hy, hlen, hl⟩, hy1, hin⟩ := cw
  obtain ⟨hx, hb, hml, ho, -⟩ := S
  have hPc := hp.2
  intro T hT X
  rcases vx_callI X hx (bytes := bytes) (maxL := maxL) ho hy1 hl hin hcode hy hK hg (hsize.trans hml.symm) (a := b) (argsL := As) (rest := rest) (fun sig h => hn.trans (hlen sig h)) hstack hW (by rw [hb]; exact hdg)
    (fun vm₁ hW₁ => ⟨hf.1, hf.2, hPc (T.setVm vm₁) hT hW₁⟩) with ⟨v, vm₁, ⟨U', l2, c2, s2⟩, hW₁, X', ⟨g', mk, t, L, e1, e2, hq, h1, hL, h2, h3⟩, st⟩ | ⟨q, vm₁, ⟨U', l2, c2, s2⟩, hW₁, X', ⟨g', mk, t, L, E, ce, e1, e2, hq, hce, hcv, hcl, h1, hL, h2, h3⟩, st⟩
  · dsimp only [Pt.U, Pt.locs, Pt.cells, Pt.slots] at X' e1 e2 h1 h2 h3 st
    subst h1; subst h2; subst h3
    exact Or.inl ⟨v, (T.setVm vm₁).calling g' mk (Value.ref b :: As).toArray, t, U', L, hT, X', hL, e1, e2, hq, st⟩
  · dsimp only [Pt.U, Pt.locs, Pt.cells, Pt.slots] at X' e1 e2 h1 h2 h3 st hcl
    subst h1; subst h2; subst h3
    exact Or.inr ⟨q, (T.setVm vm₁).calling g' mk (Value.ref b :: As).toArray, t, U', L, E, ce, hT, X', hL, e1, e2, hq, hce, hcv, vx_cls hW₁ hcl, st⟩
end VXIB
/-! ===== END ===== -/
/-! ===== BEGIN a private constructor of a nest mate that throws ===== -/
section VXIC
variable {p : Program} {l : Launch} {e : Env} {R : Room} {s : State} {m : MethodId} {args : Array Value} {below : List Frame} {meth : Method} {c : Code} {T : State} {locs : List Loc} {cells slots : Nat}
theorem vx_callIN (X : Stand p l e R s m args below meth c T locs cells slots) (hexec : p.tables.exec = Jvm.exec) {own : String} {index : Nat} {host : String} {y : MethodName} {bytes : ByteArray} {maxL : Nat}
    (hown : s.vm.findClass own = some m.cls) (hy1 : y.name = "<init>") (hlink : (Cond.methodLinkNest own index y host).before args s = true) (hinst : (Cond.instanceMethod y).before args s = true)
    (hcode : (Cond.code y bytes maxL none).before args s = true) (hy : y.cls ≠ "java/lang/invoke/MethodHandle" ∧ y.cls ≠ "java/lang/invoke/VarHandle")
    {W9 : Nat} {Pre : Pt → Array Value → Prop} {Post : Pt → Array Value → Option Value → Pt → Prop} {PostX : Pt → Array Value → Addr → Pt → Prop} (hK : vx_Back l R p e below s args y 3 W9 Pre Post PostX)
    {g : JFrame} (hg : g.method = m) (hsize : g.locals.size = c.maxLocals) {a : Addr} {argsL rest : List Value} (hlen : ∀ sig, parseMethodDescriptor y.desc = some sig → argsL.length = sig.parameters.length)
    (hstack : g.stack = argsL.reverse ++ .ref a :: rest) (hW : 2 * g.monitorRoom + (rest.map fun v => v.category).sum ≤ W9) (hdg : decode c.code g.pc = .ok (.invokespecial index, 3))
    (hpre : ∀ vm₁, s.WarmedH vm₁ → Pre ⟨T.setVm vm₁, locs, cells, slots⟩ (Value.ref a :: argsL).toArray) :
    (∃ (v : Option Value) (vm₁ : Vm) (B : Pt), s.WarmedH vm₁ ∧ Stand p l e R s m args below meth c B.U B.locs B.cells B.slots ∧ Post ⟨T.setVm vm₁, locs, cells, slots⟩ (Value.ref a :: argsL).toArray v B ∧
      ∀ target, Steps p.tables e below (B.U.setTop { g with pc := g.pc + 3, stack := v.toList ++ rest }) target → Steps p.tables e below (T.setTop g) target) ∨
    (∃ (q : Addr) (vm₁ : Vm) (B : Pt), s.WarmedH vm₁ ∧ Stand p l e R s m args below meth c B.U B.locs B.cells B.slots ∧ PostX ⟨T.setVm vm₁, locs, cells, slots⟩ (Value.ref a :: argsL).toArray q B ∧
      Steps p.tables e below (T.setTop g) ((B.U.setTop { g with stack := rest }).pushFrame (.throwing q))) := by
  subst hg
  have hpl : e.platform.magicAccessors = ({} : Platform).magicAccessors := by rw [X.admits.platform]
  obtain ⟨mk, methM, cM, kP, vm₁, hnamed, hmethM, hcodeM, -, hlocalsM, -, hkP, -, hW₁, hstep₁⟩ := Steps.initColdArgsNest (e := e) X.here hexec X.warmed hpl hown hy1 hy hlink hinst hcode (f := g) rfl hlen hstack hdg
  have X₁ := X.noted hW₁
  rcases hK g.method meth c ⟨T.setVm vm₁, locs, cells, slots⟩ { g with stack := rest } (.invokespecial index) mk (Value.ref a :: argsL).toArray X₁ rfl hsize hdg hW (X₁.named hnamed) (hpre vm₁ X₁.warmed) with ⟨v, B, X', hpost, hsteps⟩ | ⟨q, B, X', hpost, hsteps⟩
  · exact Or.inl ⟨v, vm₁, B, X₁.warmed, X', hpost, fun target h => hstep₁ _ fun acts => by rw [doInvoke_state]; exact hsteps.trans h⟩
  · exact Or.inr ⟨q, vm₁, B, X₁.warmed, X', hpost, hstep₁ _ fun acts => by rw [doInvoke_state]; exact hsteps⟩
end VXIC
section VXID
variable {p : Program} {l : Launch} {e : Env} {R : Room} {s : State} {m : MethodId} {args : Array Value} {below : List Frame} {meth : Method} {c : Code} {H : Heap} {locs : List Loc} {cells slots : Nat}
theorem vx_runIN {y : MethodName} {bytes cc : ByteArray} {maxL nL mc ms n index : Nat} {ws : List Cond} {rm : Room} {Pc : Array Value → State → Prop} {Qc : Array Value → State → Outcome → State → Prop} {XC : String → State → State → Prop} {free : Addr → Prop} {Ts : List Cond} {own host : String} {b : Addr} {As rest : List Value} {g : JFrame}
    (S : CallFix p m c cc nL s args Ts own) (hM : vx_Met l y ws rm Pc Qc XC mc ms free) (cw : va_CN R s args own index y host bytes maxL none ws rm mc ms n ∧ y.name = "<init>" ∧ (Cond.instanceMethod y).before args s = true) (hp : PreS s H Pc (.ref b :: As))
    (hg : g.method = m) (hn : As.length = n) (hsize : g.locals.size = nL) (hstack : g.stack = As.reverse ++ .ref b :: rest) (hW : 2 * g.monitorRoom + (rest.map fun v => v.category).sum ≤ 8) (hdg : decode cc g.pc = .ok (.invokespecial index, 3)) (hf : cells + mc ≤ R.cells ∧ slots + ms ≤ R.slots) :
    vx_Run p l e R s m args below meth c H locs cells slots mc ms g rest (Qc (Value.ref b :: As).toArray) XC free := by
  obtain ⟨⟨⟨hrc, hrs, hfr, hlo, hws, hcw⟩, hcode, hini, hy, hlen, hl⟩, hx1, hx2⟩ := cw
  have hK : vx_Back l R p e below s args y 3 8 (PreOf R mc ms Pc) (PostOf Qc mc ms free) (vx_Post XC mc ms free) := vx_back (bytes := bytes) (maxL := maxL) (ret := none) hM hp.1 hrc hrs hfr hlo hws hcw (fun a' U hW => word_at hW (Or.inl (by first | rfl | simp [Cond.onTables, Cond.keeps, Cond.steady])) hini)
  obtain ⟨hx, hb, hml, ho, -⟩ := S
  have hPc := hp.2
  intro T hT X
  rcases vx_callIN X hx (bytes := bytes) (maxL := maxL) ho hx1 hl hx2 hcode hy hK hg (hsize.trans hml.symm) (a := b) (argsL := As) (rest := rest) (fun sig h => hn.trans (hlen sig h)) hstack hW (by rw [hb]; exact hdg)
    (fun vm₁ hW₁ => ⟨hf.1, hf.2, hPc (T.setVm vm₁) hT hW₁⟩) with ⟨v, vm₁, ⟨U', l2, c2, s2⟩, hW₁, X', ⟨g', mk, t, L, e1, e2, hq, h1, hL, h2, h3⟩, st⟩ | ⟨q, vm₁, ⟨U', l2, c2, s2⟩, hW₁, X', ⟨g', mk, t, L, E, ce, e1, e2, hq, hce, hcv, hcl, h1, hL, h2, h3⟩, st⟩
  · dsimp only [Pt.U, Pt.locs, Pt.cells, Pt.slots] at X' e1 e2 h1 h2 h3 st
    subst h1; subst h2; subst h3
    exact Or.inl ⟨v, (T.setVm vm₁).calling g' mk (Value.ref b :: As).toArray, t, U', L, hT, X', hL, e1, e2, hq, st⟩
  · dsimp only [Pt.U, Pt.locs, Pt.cells, Pt.slots] at X' e1 e2 h1 h2 h3 st hcl
    subst h1; subst h2; subst h3
    exact Or.inr ⟨q, (T.setVm vm₁).calling g' mk (Value.ref b :: As).toArray, t, U', L, E, ce, hT, X', hL, e1, e2, hq, hce, hcv, vx_cls hW₁ hcl, st⟩
end VXID
/-! ===== END ===== -/
/-! ===== BEGIN a method of a class above, found by the receiver, that may throw (follows va_callVU, va_runU of this kit) ===== -/
section
variable {p : Program} {l : Launch} {e : Env} {R : Room} {s : State} {m : MethodId} {args : Array Value} {below : List Frame} {meth : Method} {c : Code} {H : Heap} {locs : List Loc} {cells slots : Nat}
theorem vx_callVU {T : State} {locs : List Loc} {cells slots : Nat} (X : Stand p l e R s m args below meth c T locs cells slots) (hexec : p.tables.exec = Jvm.exec) {own C owner : String} {index : Nat} {x y : MethodName} {bytes : ByteArray} {maxL : Nat} {ret : Option FieldType}
    (hown : s.vm.findClass own = some m.cls) (hlink : (Cond.methodLink own index x).before args s = true) (hsame : (Cond.sameMethod x.cls owner x.name x.desc).before args s = true)
    (hd0 : va_Decl s ⟨owner, x.name, x.desc⟩) (howner : owner ≠ "java/lang/invoke/MethodHandle" ∧ owner ≠ "java/lang/invoke/VarHandle")
    (hsel : (Cond.selects C x y).before args s = true) (hinst : (Cond.instanceMethod y).before args s = true) (hcode : (Cond.code y bytes maxL ret).before args s = true)
    {W : Nat} {Pre : Pt → Array Value → Prop} {Post : Pt → Array Value → Option Value → Pt → Prop} {PostX : Pt → Array Value → Addr → Pt → Prop} (hK : vx_Back l R p e below s args y 3 W Pre Post PostX)
    {b : Addr} {cellB : Cell} (hcell : T.heap[b]? = some cellB) (hobj : cellB.vm.isStatics = false) (hcls : s.vm.findClass C = some cellB.cls)
    {g : JFrame} (hg : g.method = m) (hsize : g.locals.size = c.maxLocals) {argsL rest : List Value} (hlen : ∀ sig, parseMethodDescriptor x.desc = some sig → argsL.length = sig.parameters.length)
    (hstack : g.stack = argsL.reverse ++ .ref b :: rest) (hW : 2 * g.monitorRoom + (rest.map fun v => v.category).sum ≤ W) (hdg : decode c.code g.pc = .ok (.invokevirtual index, 3))
    (hpre : ∀ vm₁, s.WarmedH vm₁ → Pre ⟨T.setVm vm₁, locs, cells, slots⟩ (Value.ref b :: argsL).toArray) :
    (∃ (v : Option Value) (vm₁ : Vm) (B : Pt), s.WarmedH vm₁ ∧ Stand p l e R s m args below meth c B.U B.locs B.cells B.slots ∧ Post ⟨T.setVm vm₁, locs, cells, slots⟩ (Value.ref b :: argsL).toArray v B ∧
      ∀ target, Steps p.tables e below (B.U.setTop { g with pc := g.pc + 3, stack := v.toList ++ rest }) target → Steps p.tables e below (T.setTop g) target) ∨
    (∃ (q : Addr) (vm₁ : Vm) (B : Pt), s.WarmedH vm₁ ∧ Stand p l e R s m args below meth c B.U B.locs B.cells B.slots ∧ PostX ⟨T.setVm vm₁, locs, cells, slots⟩ (Value.ref b :: argsL).toArray q B ∧
      Steps p.tables e below (T.setTop g) ((B.U.setTop { g with stack := rest }).pushFrame (.throwing q))) := by
  obtain ⟨r0, r, hn, hrm, hstR, hsigR⟩ := hd0
  obtain ⟨cn, ck, r1, hcn, hck, hni, hf, hn1⟩ := Cond.sameMethod_found hsame
  cases hn.symm.trans hn1
  obtain ⟨mk, methM, hnamed, hmethM, -, habM⟩ := Cond.instanceMethod_spec hinst
  obtain ⟨c2, r2, m2, q1, q2, q3, q4, kP, hkP, hkPi⟩ := Cond.selects_spec hsel
  cases hcls.symm.trans q1
  cases hf.symm.trans q2
  cases hnamed.symm.trans q3
  have hselP : selectMethod e.platform s.vm cellB.cls r0 = .method mk := by rw [Launch.admits_selectMethod X.admits]; exact q4
  obtain ⟨vm₁, X₁, hstep₁⟩ := X.invokevirtualUp hexec hown hlink hsame howner hn hrm hstR (a := b) (cell := cellB) hcell
    (fun z h => by rw [h] at hobj; cases hobj) hselP hmethM habM hkP hkPi (g := g) hg (argsL := argsL) (rest := rest) (hlen _ hsigR) hstack hdg
  rcases hK m meth c ⟨T.setVm vm₁, locs, cells, slots⟩ { g with stack := rest } (.invokevirtual index) mk (Value.ref b :: argsL).toArray X₁ hg hsize hdg hW (X₁.named hnamed) (hpre vm₁ X₁.warmed) with ⟨v, B, X', hpost, hsteps⟩ | ⟨q, B, X', hpost, hsteps⟩
  · exact Or.inl ⟨v, vm₁, B, X₁.warmed, X', hpost, fun target h => hstep₁ _ fun acts => by rw [doInvoke_state]; exact hsteps.trans h⟩
  · exact Or.inr ⟨q, vm₁, B, X₁.warmed, X', hpost, hstep₁ _ fun acts => by rw [doInvoke_state]; exact hsteps⟩
theorem vx_runU {x y : MethodName} {bytes cc : ByteArray} {maxL nL mc ms n index : Nat} {ret : Option FieldType} {ws : List Cond} {rm : Room} {Pc : Array Value → State → Prop} {Qc : Array Value → State → Outcome → State → Prop} {XC : String → State → State → Prop} {free : Addr → Prop} {Ts : List Cond} {own C owner : String} {b : Addr} {As rest : List Value} {g : JFrame}
    (S : CallFix p m c cc nL s args Ts own) (hM : vx_Met l y ws rm Pc Qc XC mc ms free) (cw : va_CU R s args own C owner index x y bytes maxL ret ws rm mc ms n) (hp : PreV s H C b Pc As)
    (hg : g.method = m) (hn : As.length = n) (hsize : g.locals.size = nL) (hstack : g.stack = As.reverse ++ .ref b :: rest) (hW : 2 * g.monitorRoom + (rest.map fun v => v.category).sum ≤ 8) (hdg : decode cc g.pc = .ok (.invokevirtual index, 3)) (hf : cells + mc ≤ R.cells ∧ slots + ms ≤ R.slots) :
    vx_Run p l e R s m args below meth c H locs cells slots mc ms g rest (Qc (Value.ref b :: As).toArray) XC free := by
  obtain ⟨hrc, hrs, hfr, hlo, hws, hcw⟩ := cw.back
  have hini := cw.init
  have hK : vx_Back l R p e below s args y 3 8 (PreOf R mc ms Pc) (PostOf Qc mc ms free) (vx_Post XC mc ms free) := vx_back (bytes := bytes) (maxL := maxL) (ret := ret) hM hp.1 hrc hrs hfr hlo hws hcw (fun a' U hW => word_at hW (Or.inl (by first | rfl | simp [Cond.onTables, Cond.keeps, Cond.steady])) hini)
  obtain ⟨hx, hb, hml, ho, -⟩ := S
  obtain ⟨-, ⟨cellB, hcB, hoB, hclB⟩, hPc⟩ := hp
  intro T hT X
  rcases vx_callVU X hx (C := C) (owner := owner) (bytes := bytes) (maxL := maxL) (ret := ret) ho cw.link cw.same cw.decl cw.notMH cw.sel cw.inst cw.code hK (by rw [hT]; exact hcB) hoB hclB hg (hsize.trans hml.symm) (argsL := As) (rest := rest) (fun sig h => hn.trans (cw.len sig h)) hstack hW (by rw [hb]; exact hdg)
    (fun vm₁ hW₁ => ⟨hf.1, hf.2, hPc (T.setVm vm₁) hT hW₁⟩) with ⟨v, vm₁, ⟨U', l2, c2, s2⟩, hW₁, X', ⟨g', mk, t, L, e1, e2, hq, h1, hL, h2, h3⟩, st⟩ | ⟨q, vm₁, ⟨U', l2, c2, s2⟩, hW₁, X', ⟨g', mk, t, L, E, ce, e1, e2, hq, hce, hcv, hcl, h1, hL, h2, h3⟩, st⟩
  · dsimp only [Pt.U, Pt.locs, Pt.cells, Pt.slots] at X' e1 e2 h1 h2 h3 st
    subst h1; subst h2; subst h3
    exact Or.inl ⟨v, (T.setVm vm₁).calling g' mk (Value.ref b :: As).toArray, t, U', L, hT, X', hL, e1, e2, hq, st⟩
  · dsimp only [Pt.U, Pt.locs, Pt.cells, Pt.slots] at X' e1 e2 h1 h2 h3 st hcl
    subst h1; subst h2; subst h3
    exact Or.inr ⟨q, (T.setVm vm₁).calling g' mk (Value.ref b :: As).toArray, t, U', L, E, ce, hT, X', hL, e1, e2, hq, hce, hcv, vx_cls hW₁ hcl, st⟩
end
/-! ===== END ===== -/
/-! ===== BEGIN super.m(..) that may throw (follows va_callSU, va_runSU) ===== -/
section
variable {p : Program} {l : Launch} {e : Env} {R : Room} {s : State} {m : MethodId} {args : Array Value} {below : List Frame} {meth : Method} {c : Code} {H : Heap} {locs : List Loc} {cells slots : Nat}
theorem vx_callSU {T : State} {locs : List Loc} {cells slots : Nat} (X : Stand p l e R s m args below meth c T locs cells slots) (hexec : p.tables.exec = Jvm.exec) {own : String} {index : Nat} {y : MethodName} {bytes : ByteArray} {maxL : Nat} {ret : Option FieldType}
    (hown : s.vm.findClass own = some m.cls) (hlink : (Cond.methodLink own index y).before args s = true) (hsame : (Cond.sameMethod y.cls y.cls y.name y.desc).before args s = true) (hsup : (Cond.superclass own y.cls).before args s = true)
    (hinst : (Cond.instanceMethod y).before args s = true) (hcode : (Cond.code y bytes maxL ret).before args s = true) (hno : y.name ≠ "<init>")
    {W : Nat} {Pre : Pt → Array Value → Prop} {Post : Pt → Array Value → Option Value → Pt → Prop} {PostX : Pt → Array Value → Addr → Pt → Prop} (hK : vx_Back l R p e below s args y 3 W Pre Post PostX)
    {b : Addr} {cellB : Cell} {kB : Class} (hcell : T.heap[b]? = some cellB) (hobj : cellB.vm.isStatics = false) (hkB : s.vm.classes[cellB.cls]? = some kB)
    {g : JFrame} (hg : g.method = m) (hsize : g.locals.size = c.maxLocals) {argsL rest : List Value} (hlen : ∀ sig, parseMethodDescriptor y.desc = some sig → argsL.length = sig.parameters.length)
    (hstack : g.stack = argsL.reverse ++ .ref b :: rest) (hW : 2 * g.monitorRoom + (rest.map fun v => v.category).sum ≤ W) (hdg : decode c.code g.pc = .ok (.invokespecial index, 3))
    (hpre : ∀ vm₁, s.WarmedH vm₁ → Pre ⟨T.setVm vm₁, locs, cells, slots⟩ (Value.ref b :: argsL).toArray) :
    (∃ (v : Option Value) (vm₁ : Vm) (B : Pt), s.WarmedH vm₁ ∧ Stand p l e R s m args below meth c B.U B.locs B.cells B.slots ∧ Post ⟨T.setVm vm₁, locs, cells, slots⟩ (Value.ref b :: argsL).toArray v B ∧
      ∀ target, Steps p.tables e below (B.U.setTop { g with pc := g.pc + 3, stack := v.toList ++ rest }) target → Steps p.tables e below (T.setTop g) target) ∨
    (∃ (q : Addr) (vm₁ : Vm) (B : Pt), s.WarmedH vm₁ ∧ Stand p l e R s m args below meth c B.U B.locs B.cells B.slots ∧ PostX ⟨T.setVm vm₁, locs, cells, slots⟩ (Value.ref b :: argsL).toArray q B ∧
      Steps p.tables e below (T.setTop g) ((B.U.setTop { g with stack := rest }).pushFrame (.throwing q))) := by
  obtain ⟨mk, methM, hnamed, hmethM, hstM, habM⟩ := Cond.instanceMethod_spec hinst
  obtain ⟨methM', cM, hmethM', -, -, -, -, -, -, hsigM⟩ := Cond.code_spec hnamed hcode
  cases hmethM.symm.trans hmethM'
  obtain ⟨ps, dk, kp, hps, hdk, hkp, hsuper, -, -, hnid⟩ := Cond.superclass_spec hown hsup
  have hn : s.methodNamed? ⟨y.cls, y.name, y.desc⟩ = some mk := hnamed
  have hpm : ps = mk.cls := Option.some.inj (hps.symm.trans (findClass_of_methodNamed hnamed))
  have hsub : s.vm.isSubclass ps mk.cls = true := by rw [hpm]; simp [Vm.isSubclass, Vm.isSubclassAux]
  obtain ⟨vm₁, X₁, hstep₁⟩ := X.invokespecialUp hexec hown hlink hsame hn hmethM hstM habM hno hdk hnid hps hsuper hsub (a := b) (cell := cellB) hcell
    (fun z h => by rw [h] at hobj; cases hobj) hkB (g := g) hg (argsL := argsL) (rest := rest) (hlen _ hsigM) hstack hdg
  rcases hK m meth c ⟨T.setVm vm₁, locs, cells, slots⟩ { g with stack := rest } (.invokespecial index) mk (Value.ref b :: argsL).toArray X₁ hg hsize hdg hW (X₁.named hnamed) (hpre vm₁ X₁.warmed) with ⟨v, B, X', hpost, hsteps⟩ | ⟨q, B, X', hpost, hsteps⟩
  · exact Or.inl ⟨v, vm₁, B, X₁.warmed, X', hpost, fun target h => hstep₁ _ (by rw [doInvoke_state]; exact hsteps.trans h)⟩
  · exact Or.inr ⟨q, vm₁, B, X₁.warmed, X', hpost, hstep₁ _ (by rw [doInvoke_state]; exact hsteps)⟩
theorem vx_runSU {y : MethodName} {bytes cc : ByteArray} {maxL nL mc ms n index : Nat} {ret : Option FieldType} {ws : List Cond} {rm : Room} {Pc : Array Value → State → Prop} {Qc : Array Value → State → Outcome → State → Prop} {XC : String → State → State → Prop} {free : Addr → Prop} {Ts : List Cond} {own C : String} {cC : ClassId} {b : Addr} {As rest : List Value} {g : JFrame}
    (hat : ClassAt s C cC) (S : CallFix p m c cc nL s args Ts own) (hM : vx_Met l y ws rm Pc Qc XC mc ms free) (cw : va_CS R s args own index y bytes maxL ret ws rm mc ms n) (hp : PreV s H C b Pc As)
    (hg : g.method = m) (hn : As.length = n) (hsize : g.locals.size = nL) (hstack : g.stack = As.reverse ++ .ref b :: rest) (hW : 2 * g.monitorRoom + (rest.map fun v => v.category).sum ≤ 8) (hdg : decode cc g.pc = .ok (.invokespecial index, 3)) (hf : cells + mc ≤ R.cells ∧ slots + ms ≤ R.slots) :
    vx_Run p l e R s m args below meth c H locs cells slots mc ms g rest (Qc (Value.ref b :: As).toArray) XC free := by
  obtain ⟨⟨hrc, hrs, hfr, hlo, hws, hcw⟩, hl1, hl2, hl3, hl4, hini, hcode, hno, hlen⟩ := cw
  have hK : vx_Back l R p e below s args y 3 8 (PreOf R mc ms Pc) (PostOf Qc mc ms free) (vx_Post XC mc ms free) := vx_back (bytes := bytes) (maxL := maxL) (ret := ret) hM hp.1 hrc hrs hfr hlo hws hcw (fun a' U hW => word_at hW (Or.inl (by first | rfl | simp [Cond.onTables, Cond.keeps, Cond.steady])) hini)
  obtain ⟨hx, hb, hml, ho, -⟩ := S
  obtain ⟨-, ⟨cellB, hcB, hoB, hclB⟩, hPc⟩ := hp
  obtain ⟨hfc, kB, hkB, -⟩ := hat
  cases hfc.symm.trans hclB
  intro T hT X
  rcases vx_callSU X hx (bytes := bytes) (maxL := maxL) (ret := ret) ho hl1 hl2 hl3 hl4 hcode hno hK (by rw [hT]; exact hcB) hoB hkB hg (hsize.trans hml.symm) (argsL := As) (rest := rest) (fun sig h => hn.trans (hlen sig h)) hstack hW (by rw [hb]; exact hdg)
    (fun vm₁ hW₁ => ⟨hf.1, hf.2, hPc (T.setVm vm₁) hT hW₁⟩) with ⟨v, vm₁, ⟨U', l2, c2, s2⟩, hW₁, X', ⟨g', mk, t, L, e1, e2, hq, h1, hL, h2, h3⟩, st⟩ | ⟨q, vm₁, ⟨U', l2, c2, s2⟩, hW₁, X', ⟨g', mk, t, L, E, ce, e1, e2, hq, hce, hcv, hcl, h1, hL, h2, h3⟩, st⟩
  · dsimp only [Pt.U, Pt.locs, Pt.cells, Pt.slots] at X' e1 e2 h1 h2 h3 st
    subst h1; subst h2; subst h3
    exact Or.inl ⟨v, (T.setVm vm₁).calling g' mk (Value.ref b :: As).toArray, t, U', L, hT, X', hL, e1, e2, hq, st⟩
  · dsimp only [Pt.U, Pt.locs, Pt.cells, Pt.slots] at X' e1 e2 h1 h2 h3 st hcl
    subst h1; subst h2; subst h3
    exact Or.inr ⟨q, (T.setVm vm₁).calling g' mk (Value.ref b :: As).toArray, t, U', L, E, ce, hT, X', hL, e1, e2, hq, hce, hcv, vx_cls hW₁ hcl, st⟩
end
/-! ===== END ===== -/
/-! ===== BEGIN a private method of a nest mate that may throw (follows va_callVN, va_callSN, va_runVN, va_runSN) ===== -/
section
variable {p : Program} {l : Launch} {e : Env} {R : Room} {s : State} {m : MethodId} {args : Array Value} {below : List Frame} {meth : Method} {c : Code} {H : Heap} {locs : List Loc} {cells slots : Nat}
variable {T : State}
theorem vx_callVN (X : Stand p l e R s m args below meth c T locs cells slots) (hexec : p.tables.exec = Jvm.exec) {own C : String} {index : Nat} {host : String} {y : MethodName} {bytes : ByteArray} {maxL : Nat} {ret : Option FieldType}
    (hown : s.vm.findClass own = some m.cls) (hlink : (Cond.methodLinkNest own index y host).before args s = true) (hinst : (Cond.instanceMethod y).before args s = true) (hsel : (Cond.selects C y y).before args s = true)
    (hcode : (Cond.code y bytes maxL ret).before args s = true) (hy : y.cls ≠ "java/lang/invoke/MethodHandle" ∧ y.cls ≠ "java/lang/invoke/VarHandle")
    {W : Nat} {Pre : Pt → Array Value → Prop} {Post : Pt → Array Value → Option Value → Pt → Prop} {PostX : Pt → Array Value → Addr → Pt → Prop} (hK : vx_Back l R p e below s args y 3 W Pre Post PostX)
    {b : Addr} {cellB : Cell} (hcell : T.heap[b]? = some cellB) (hobj : cellB.vm.isStatics = false) (hcls : s.vm.findClass C = some cellB.cls)
    {g : JFrame} (hg : g.method = m) (hsize : g.locals.size = c.maxLocals) {argsL rest : List Value} (hlen : ∀ sig, parseMethodDescriptor y.desc = some sig → argsL.length = sig.parameters.length)
    (hstack : g.stack = argsL.reverse ++ .ref b :: rest) (hW : 2 * g.monitorRoom + (rest.map fun v => v.category).sum ≤ W) (hdg : decode c.code g.pc = .ok (.invokevirtual index, 3))
    (hpre : ∀ vm₁, s.WarmedH vm₁ → Pre ⟨T.setVm vm₁, locs, cells, slots⟩ (Value.ref b :: argsL).toArray) :
    (∃ (v : Option Value) (vm₁ : Vm) (B : Pt), s.WarmedH vm₁ ∧ Stand p l e R s m args below meth c B.U B.locs B.cells B.slots ∧ Post ⟨T.setVm vm₁, locs, cells, slots⟩ (Value.ref b :: argsL).toArray v B ∧
      ∀ target, Steps p.tables e below (B.U.setTop { g with pc := g.pc + 3, stack := v.toList ++ rest }) target → Steps p.tables e below (T.setTop g) target) ∨
    (∃ (q : Addr) (vm₁ : Vm) (B : Pt), s.WarmedH vm₁ ∧ Stand p l e R s m args below meth c B.U B.locs B.cells B.slots ∧ PostX ⟨T.setVm vm₁, locs, cells, slots⟩ (Value.ref b :: argsL).toArray q B ∧
      Steps p.tables e below (T.setTop g) ((B.U.setTop { g with stack := rest }).pushFrame (.throwing q))) := by
  obtain ⟨mk, methM, hnamed, hmethM, hstM, habM⟩ := Cond.instanceMethod_spec hinst
  obtain ⟨methM', cM, hmethM', -, -, -, -, -, -, hsigM⟩ := Cond.code_spec hnamed hcode
  cases hmethM.symm.trans hmethM'
  obtain ⟨c2, r2, m2, q1, q2, q3, q4, kP, hkP, hkPi⟩ := Cond.selects_spec hsel
  cases hcls.symm.trans q1
  cases (State.methodFound?_of_named hnamed hy).symm.trans q2
  cases hnamed.symm.trans q3
  have hselP : selectMethod e.platform s.vm cellB.cls mk = .method mk := by rw [Launch.admits_selectMethod X.admits]; exact q4
  obtain ⟨vm₁, X₁, hstep₁⟩ := X.invokevirtualNest hexec hown hlink hnamed hmethM hstM hkP hkPi hy (a := b) (cell := cellB) hcell
    (fun z h => by rw [h] at hobj; cases hobj) hselP hmethM habM hkP hkPi (g := g) hg (argsL := argsL) (rest := rest) (hlen _ hsigM) hstack hdg
  rcases hK m meth c ⟨T.setVm vm₁, locs, cells, slots⟩ { g with stack := rest } (.invokevirtual index) mk (Value.ref b :: argsL).toArray X₁ hg hsize hdg hW (X₁.named hnamed) (hpre vm₁ X₁.warmed) with ⟨v, B, X', hpost, hsteps⟩ | ⟨q, B, X', hpost, hsteps⟩
  · exact Or.inl ⟨v, vm₁, B, X₁.warmed, X', hpost, fun target h => hstep₁ _ fun acts => by rw [doInvoke_state]; exact hsteps.trans h⟩
  · exact Or.inr ⟨q, vm₁, B, X₁.warmed, X', hpost, hstep₁ _ fun acts => by rw [doInvoke_state]; exact hsteps⟩
theorem vx_callSN (X : Stand p l e R s m args below meth c T locs cells slots) (hexec : p.tables.exec = Jvm.exec) {own : String} {index : Nat} {host : String} {y : MethodName} {bytes : ByteArray} {maxL : Nat} {ret : Option FieldType}
    (hown : s.vm.findClass own = some m.cls) (hlink : (Cond.methodLinkNest own index y host).before args s = true) (hstat : (Cond.static y).before args s = true) (hinit : (Cond.initialized y.cls).before args s = true)
    (hcode : (Cond.code y bytes maxL ret).before args s = true) (hy : y.cls ≠ "java/lang/invoke/MethodHandle" ∧ y.cls ≠ "java/lang/invoke/VarHandle")
    {W : Nat} {Pre : Pt → Array Value → Prop} {Post : Pt → Array Value → Option Value → Pt → Prop} {PostX : Pt → Array Value → Addr → Pt → Prop} (hK : vx_Back l R p e below s args y 3 W Pre Post PostX)
    {g : JFrame} (hg : g.method = m) (hsize : g.locals.size = c.maxLocals) {argsL rest : List Value} (hlen : ∀ sig, parseMethodDescriptor y.desc = some sig → argsL.length = sig.parameters.length)
    (hstack : g.stack = argsL.reverse ++ rest) (hW : 2 * g.monitorRoom + (rest.map fun v => v.category).sum ≤ W) (hdg : decode c.code g.pc = .ok (.invokestatic index, 3))
    (hpre : ∀ vm₁, s.WarmedH vm₁ → Pre ⟨T.setVm vm₁, locs, cells, slots⟩ argsL.toArray) :
    (∃ (v : Option Value) (vm₁ : Vm) (B : Pt), s.WarmedH vm₁ ∧ Stand p l e R s m args below meth c B.U B.locs B.cells B.slots ∧ Post ⟨T.setVm vm₁, locs, cells, slots⟩ argsL.toArray v B ∧
      ∀ target, Steps p.tables e below (B.U.setTop { g with pc := g.pc + 3, stack := v.toList ++ rest }) target → Steps p.tables e below (T.setTop g) target) ∨
    (∃ (q : Addr) (vm₁ : Vm) (B : Pt), s.WarmedH vm₁ ∧ Stand p l e R s m args below meth c B.U B.locs B.cells B.slots ∧ PostX ⟨T.setVm vm₁, locs, cells, slots⟩ argsL.toArray q B ∧
      Steps p.tables e below (T.setTop g) ((B.U.setTop { g with stack := rest }).pushFrame (.throwing q))) := by
  obtain ⟨mk, hnamed⟩ := Cond.code_named hcode
  obtain ⟨methM, cM, hmethM, -, -, -, -, -, -, hsigM⟩ := Cond.code_spec hnamed hcode
  have hstatic : methM.isStatic = true := Cond.static_spec hnamed hmethM hstat
  obtain ⟨kP, hkP, -⟩ := className_of_methodNamed hnamed
  have hinitP : kP.init = .initialized := Cond.initialized_spec (findClass_of_methodNamed hnamed) hkP hinit
  obtain ⟨vm₁, X₁, hstep₁⟩ := X.invokestaticNest hexec hown hlink hnamed hmethM hstatic hkP hinitP hy (g := g) hg (argsL := argsL) (rest := rest) (hlen _ hsigM) hstack hdg
  rcases hK m meth c ⟨T.setVm vm₁, locs, cells, slots⟩ { g with stack := rest } (.invokestatic index) mk argsL.toArray X₁ hg hsize hdg hW (X₁.named hnamed) (hpre vm₁ X₁.warmed) with ⟨v, B, X', hpost, hsteps⟩ | ⟨q, B, X', hpost, hsteps⟩
  · exact Or.inl ⟨v, vm₁, B, X₁.warmed, X', hpost, fun target h => hstep₁ _ fun acts => by rw [doInvoke_state]; exact hsteps.trans h⟩
  · exact Or.inr ⟨q, vm₁, B, X₁.warmed, X', hpost, hstep₁ _ fun acts => by rw [doInvoke_state]; exact hsteps⟩
theorem vx_runVN {y : MethodName} {bytes cc : ByteArray} {maxL nL mc ms n index : Nat} {ret : Option FieldType} {ws : List Cond} {rm : Room} {Pc : Array Value → State → Prop} {Qc : Array Value → State → Outcome → State → Prop} {XC : String → State → State → Prop} {free : Addr → Prop} {Ts : List Cond} {own C host : String} {b : Addr} {As rest : List Value} {g : JFrame}
    (S : CallFix p m c cc nL s args Ts own) (hM : vx_Met l y ws rm Pc Qc XC mc ms free) (cw : va_CN R s args own index y host bytes maxL ret ws rm mc ms n ∧ (Cond.instanceMethod y).before args s = true ∧ (Cond.selects C y y).before args s = true) (hp : PreV s H C b Pc As)
    (hg : g.method = m) (hn : As.length = n) (hsize : g.locals.size = nL) (hstack : g.stack = As.reverse ++ .ref b :: rest) (hW : 2 * g.monitorRoom + (rest.map fun v => v.category).sum ≤ 8) (hdg : decode cc g.pc = .ok (.invokevirtual index, 3)) (hf : cells + mc ≤ R.cells ∧ slots + ms ≤ R.slots) :
    vx_Run p l e R s m args below meth c H locs cells slots mc ms g rest (Qc (Value.ref b :: As).toArray) XC free := by
  obtain ⟨⟨⟨hrc, hrs, hfr, hlo, hws, hcw⟩, hcode, hini, hy, hlen, hl⟩, hx1, hx2⟩ := cw
  have hK : vx_Back l R p e below s args y 3 8 (PreOf R mc ms Pc) (PostOf Qc mc ms free) (vx_Post XC mc ms free) := vx_back (bytes := bytes) (maxL := maxL) (ret := ret) hM hp.1 hrc hrs hfr hlo hws hcw (fun a' U hW => word_at hW (Or.inl (by first | rfl | simp [Cond.onTables, Cond.keeps, Cond.steady])) hini)
  obtain ⟨hx, hb, hml, ho, -⟩ := S
  obtain ⟨-, ⟨cellB, hcB, hoB, hclB⟩, hPc⟩ := hp
  intro T hT X
  rcases vx_callVN X hx (C := C) (bytes := bytes) (maxL := maxL) (ret := ret) ho hl hx1 hx2 hcode hy hK (by rw [hT]; exact hcB) hoB hclB hg (hsize.trans hml.symm) (argsL := As) (rest := rest) (fun sig h => hn.trans (hlen sig h)) hstack hW (by rw [hb]; exact hdg)
    (fun vm₁ hW₁ => ⟨hf.1, hf.2, hPc (T.setVm vm₁) hT hW₁⟩) with ⟨v, vm₁, ⟨U', l2, c2, s2⟩, hW₁, X', ⟨g', mk, t, L, e1, e2, hq, h1, hL, h2, h3⟩, st⟩ | ⟨q, vm₁, ⟨U', l2, c2, s2⟩, hW₁, X', ⟨g', mk, t, L, E, ce, e1, e2, hq, hce, hcv, hcl, h1, hL, h2, h3⟩, st⟩
  · dsimp only [Pt.U, Pt.locs, Pt.cells, Pt.slots] at X' e1 e2 h1 h2 h3 st
    subst h1; subst h2; subst h3
    exact Or.inl ⟨v, (T.setVm vm₁).calling g' mk (Value.ref b :: As).toArray, t, U', L, hT, X', hL, e1, e2, hq, st⟩
  · dsimp only [Pt.U, Pt.locs, Pt.cells, Pt.slots] at X' e1 e2 h1 h2 h3 st hcl
    subst h1; subst h2; subst h3
    exact Or.inr ⟨q, (T.setVm vm₁).calling g' mk (Value.ref b :: As).toArray, t, U', L, E, ce, hT, X', hL, e1, e2, hq, hce, hcv, vx_cls hW₁ hcl, st⟩
theorem vx_runSN {y : MethodName} {bytes cc : ByteArray} {maxL nL mc ms n index : Nat} {ret : Option FieldType} {ws : List Cond} {rm : Room} {Pc : Array Value → State → Prop} {Qc : Array Value → State → Outcome → State → Prop} {XC : String → State → State → Prop} {free : Addr → Prop} {Ts : List Cond} {own host : String} {As rest : List Value} {g : JFrame}
    (S : CallFix p m c cc nL s args Ts own) (hM : vx_Met l y ws rm Pc Qc XC mc ms free) (cw : va_CN R s args own index y host bytes maxL ret ws rm mc ms n ∧ (Cond.static y).before args s = true ∧ True) (hp : PreS s H Pc As)
    (hg : g.method = m) (hn : As.length = n) (hsize : g.locals.size = nL) (hstack : g.stack = As.reverse ++ rest) (hW : 2 * g.monitorRoom + (rest.map fun v => v.category).sum ≤ 8) (hdg : decode cc g.pc = .ok (.invokestatic index, 3)) (hf : cells + mc ≤ R.cells ∧ slots + ms ≤ R.slots) :
    vx_Run p l e R s m args below meth c H locs cells slots mc ms g rest (Qc As.toArray) XC free := by
  obtain ⟨⟨⟨hrc, hrs, hfr, hlo, hws, hcw⟩, hcode, hini, hy, hlen, hl⟩, hx1, hx2⟩ := cw
  have hK : vx_Back l R p e below s args y 3 8 (PreOf R mc ms Pc) (PostOf Qc mc ms free) (vx_Post XC mc ms free) := vx_back (bytes := bytes) (maxL := maxL) (ret := ret) hM hp.1 hrc hrs hfr hlo hws hcw (fun a' U hW => word_at hW (Or.inl (by first | rfl | simp [Cond.onTables, Cond.keeps, Cond.steady])) hini)
  obtain ⟨hx, hb, hml, ho, -⟩ := S
  have hPc := hp.2
  intro T hT X
  rcases vx_callSN X hx (bytes := bytes) (maxL := maxL) (ret := ret) ho hl hx1 hini hcode hy hK hg (hsize.trans hml.symm) (argsL := As) (rest := rest) (fun sig h => hn.trans (hlen sig h)) hstack hW (by rw [hb]; exact hdg)
    (fun vm₁ hW₁ => ⟨hf.1, hf.2, hPc (T.setVm vm₁) hT hW₁⟩) with ⟨v, vm₁, ⟨U', l2, c2, s2⟩, hW₁, X', ⟨g', mk, t, L, e1, e2, hq, h1, hL, h2, h3⟩, st⟩ | ⟨q, vm₁, ⟨U', l2, c2, s2⟩, hW₁, X', ⟨g', mk, t, L, E, ce, e1, e2, hq, hce, hcv, hcl, h1, hL, h2, h3⟩, st⟩
  · dsimp only [Pt.U, Pt.locs, Pt.cells, Pt.slots] at X' e1 e2 h1 h2 h3 st
    subst h1; subst h2; subst h3
    exact Or.inl ⟨v, (T.setVm vm₁).calling g' mk As.toArray, t, U', L, hT, X', hL, e1, e2, hq, st⟩
  · dsimp only [Pt.U, Pt.locs, Pt.cells, Pt.slots] at X' e1 e2 h1 h2 h3 st hcl
    subst h1; subst h2; subst h3
    exact Or.inr ⟨q, (T.setVm vm₁).calling g' mk As.toArray, t, U', L, E, ce, hT, X', hL, e1, e2, hq, hce, hcv, vx_cls hW₁ hcl, st⟩
end
/-! ===== END ===== -/
/-! ===== BEGIN calls by an interface of methods that may throw (vx_callIF, vx_runF follow va_callIF, va_runF of this kit) ===== -/
section
variable {p : Program} {l : Launch} {e : Env} {R : Room} {s : State} {m : MethodId} {args : Array Value} {below : List Frame} {meth : Method} {c : Code} {H : Heap} {locs : List Loc} {cells slots : Nat} {Q : State → Prop}
variable {mc ms : Nat} {free : Addr → Prop} {A0 A1 : Nat → Prop} {H0 : Heap} {a : Array Value} {pc : Nat} {ls : Array Slot} {st0 rest : List Value}
def vx_Run5 (p : Program) (l : Launch) (e : Env) (R : Room) (s : State) (m : MethodId) (args : Array Value) (below : List Frame) (meth : Method) (c : Code) (H : Heap) (locs : List Loc) (cells slots mc ms : Nat) (g : JFrame) (rest : List Value) (Qa : State → Outcome → State → Prop) (XC : String → State → State → Prop) (free : Addr → Prop) : Prop :=
  ∀ T : State, T.heap = H → Stand p l e R s m args below meth c T locs cells slots →
    (∃ (v : Option Value) (st₀ t T' : State) (L : List Loc), st₀.heap = H ∧ Stand p l e R s m args below meth c T' (locs ++ L) (cells + mc) (slots + ms) ∧ (∀ q ∈ L, free q.base) ∧ T'.heap = t.heap ∧ T'.vm = t.vm ∧ Qa st₀ (.returned v) t ∧
      Goes p e below T g T' { g with pc := g.pc + 5, stack := v.toList ++ rest }) ∨
    (∃ (q : Addr) (st₀ t T' : State) (L : List Loc) (E : String) (ce : Cell), st₀.heap = H ∧ Stand p l e R s m args below meth c T' (locs ++ L) (cells + mc) (slots + ms) ∧ (∀ z ∈ L, free z.base) ∧ T'.heap = t.heap ∧ T'.vm = t.vm ∧ XC E st₀ t ∧ t.heap[q]? = some ce ∧ ce.vm = .none ∧ s.vm.findClass E = some ce.cls ∧
      Steps p.tables e below (T.setTop g) ((T'.setTop { g with stack := rest }).pushFrame (.throwing q)))
theorem vx_callIF {T : State} (X : Stand p l e R s m args below meth c T locs cells slots) (hexec : p.tables.exec = Jvm.exec) {own C : String} {index count : Nat} {x y : MethodName} {bytes : ByteArray} {maxL : Nat} {ret : Option FieldType}
    (hown : s.vm.findClass own = some m.cls) (hlink : (Cond.methodLink own index x).before args s = true) (hdecl : (Cond.declares x).before args s = true) (hface : (Cond.interfaceMethod x.cls x.cls x.name x.desc).before args s = true)
    (hsel : (Cond.selects C x y).before args s = true) (hinst : (Cond.instanceMethod y).before args s = true) (hpub : (Cond.publicMethod y).before args s = true) (hunh : (Cond.unhidden C x.name x.desc).before args s = true)
    (hcast : (Cond.castable C x.cls).before args s = true) (hcode : (Cond.code y bytes maxL ret).before args s = true) (hx : x.cls ≠ "java/lang/invoke/MethodHandle" ∧ x.cls ≠ "java/lang/invoke/VarHandle")
    {W9 : Nat} {Pre : Pt → Array Value → Prop} {Post : Pt → Array Value → Option Value → Pt → Prop} {PostX : Pt → Array Value → Addr → Pt → Prop} (hK : vx_Back l R p e below s args y 5 W9 Pre Post PostX)
    {b : Addr} {cellB : Cell} {kB : Class} (hcell : T.heap[b]? = some cellB) (hobj : cellB.vm.isStatics = false) (hcls : s.vm.findClass C = some cellB.cls) (hkB : s.vm.classes[cellB.cls]? = some kB)
    {g : JFrame} (hg : g.method = m) (hsize : g.locals.size = c.maxLocals) {argsL rest : List Value} (hlen : ∀ sig, parseMethodDescriptor x.desc = some sig → argsL.length = sig.parameters.length)
    (hstack : g.stack = argsL.reverse ++ .ref b :: rest) (hW : 2 * g.monitorRoom + (rest.map fun v => v.category).sum ≤ W9) (hdg : decode c.code g.pc = .ok (.invokeinterface index count, 5))
    (hpre : ∀ vm₁, s.WarmedH vm₁ → Pre ⟨T.setVm vm₁, locs, cells, slots⟩ (Value.ref b :: argsL).toArray) :
    (∃ (v : Option Value) (vm₁ : Vm) (B : Pt), s.WarmedH vm₁ ∧ Stand p l e R s m args below meth c B.U B.locs B.cells B.slots ∧ Post ⟨T.setVm vm₁, locs, cells, slots⟩ (Value.ref b :: argsL).toArray v B ∧
      ∀ target, Steps p.tables e below (B.U.setTop { g with pc := g.pc + 5, stack := v.toList ++ rest }) target → Steps p.tables e below (T.setTop g) target) ∨
    (∃ (q : Addr) (vm₁ : Vm) (B : Pt), s.WarmedH vm₁ ∧ Stand p l e R s m args below meth c B.U B.locs B.cells B.slots ∧ PostX ⟨T.setVm vm₁, locs, cells, slots⟩ (Value.ref b :: argsL).toArray q B ∧
      Steps p.tables e below (T.setTop g) ((B.U.setTop { g with stack := rest }).pushFrame (.throwing q))) := by
  obtain ⟨r0, r, hn, hrm, hstR, hsigR⟩ := Cond.declares_spec hdecl
  obtain ⟨cL, kL, r1, hcL, hkL, hiL, hfoundL, hn1⟩ := Cond.interfaceMethod_spec hface
  cases hn.symm.trans hn1
  have hr0cls : r0.cls = cL := Option.some.inj ((findClass_of_methodNamed hn).symm.trans hcL)
  obtain ⟨hnameR, hdescR⟩ := name_of_methodNamed hn hrm
  obtain ⟨mk, methM, hnamed, hmethM, -, habM⟩ := Cond.instanceMethod_spec hinst
  obtain ⟨c2, r2, m2, q1, q2, q3, q4, -⟩ := Cond.selects_spec hsel
  cases hcls.symm.trans q1
  cases hfoundL.symm.trans q2
  cases hnamed.symm.trans q3
  have hselP : selectMethod e.platform s.vm cellB.cls r0 = .method mk := by rw [Launch.admits_selectMethod X.admits]; exact q4
  have hpubM : hasFlag methM.accessFlags Acc.public_ = true := Cond.publicMethod_spec hnamed hmethM hpub
  have hway : ((cellB.cls :: s.vm.superclasses cellB.cls).any fun k => (declaredIn s.vm r.name r.desc k).any fun (_, z) => z.isPrivate || z.isStatic) = false := by
    rw [hnameR, hdescR]; exact Cond.unhidden_spec hcls hunh
  obtain ⟨c3, t3, w1, w2, w3⟩ := Cond.castable_spec hcast
  cases hcls.symm.trans w1
  cases hcL.symm.trans w2
  obtain ⟨vm₁, X₁, hstep₁⟩ := X.invokeinterface hexec hown hlink hn hrm hstR (by rw [hr0cls]; exact hkL) hiL hx (a := b) (cell := cellB) (kcell := kB) hcell
    (fun z h => by rw [h] at hobj; cases hobj) hkB (by rw [hr0cls]; exact w3) hselP hmethM hway hpubM habM (g := g) hg (argsL := argsL) (rest := rest) (hlen _ hsigR) hstack hdg
  rcases hK m meth c ⟨T.setVm vm₁, locs, cells, slots⟩ { g with stack := rest } (.invokeinterface index count) mk (Value.ref b :: argsL).toArray X₁ hg hsize hdg hW (X₁.named hnamed) (hpre vm₁ X₁.warmed) with ⟨v, B, X', hpost, hsteps⟩ | ⟨q, B, X', hpost, hsteps⟩
  · exact Or.inl ⟨v, vm₁, B, X₁.warmed, X', hpost, fun target h => hstep₁ _ fun acts => by rw [doInvoke_state]; exact hsteps.trans h⟩
  · exact Or.inr ⟨q, vm₁, B, X₁.warmed, X', hpost, hstep₁ _ fun acts => by rw [doInvoke_state]; exact hsteps⟩
theorem vx_runF {x y : MethodName} {bytes cc : ByteArray} {maxL nL mc ms n index count : Nat} {ret : Option FieldType} {ws : List Cond} {rm : Room} {Pc : Array Value → State → Prop} {Qc : Array Value → State → Outcome → State → Prop} {XC : String → State → State → Prop} {free : Addr → Prop} {Ts : List Cond} {own C : String} {cC : ClassId} {b : Addr} {As rest : List Value} {g : JFrame}
    (hat : ClassAt s C cC) (S : CallFix p m c cc nL s args Ts own) (hM : vx_Met l y ws rm Pc Qc XC mc ms free) (cw : va_CI R s args own C index x y bytes maxL ret ws rm mc ms n) (hp : PreV s H C b Pc As)
    (hg : g.method = m) (hn : As.length = n) (hsize : g.locals.size = nL) (hstack : g.stack = As.reverse ++ .ref b :: rest) (hW : 2 * g.monitorRoom + (rest.map fun v => v.category).sum ≤ 8) (hdg : decode cc g.pc = .ok (.invokeinterface index count, 5)) (hf : cells + mc ≤ R.cells ∧ slots + ms ≤ R.slots) :
    vx_Run5 p l e R s m args below meth c H locs cells slots mc ms g rest (Qc (Value.ref b :: As).toArray) XC free := by
  obtain ⟨hrc, hrs, hfr, hlo, hws, hcw⟩ := cw.back
  have hini := cw.init
  have hK : vx_Back l R p e below s args y 5 8 (PreOf R mc ms Pc) (PostOf Qc mc ms free) (vx_Post XC mc ms free) := vx_back (bytes := bytes) (maxL := maxL) (ret := ret) hM hp.1 hrc hrs hfr hlo hws hcw (fun a' U hW => word_at hW (Or.inl (by first | rfl | simp [Cond.onTables, Cond.keeps, Cond.steady])) hini)
  obtain ⟨hx, hb, hml, ho, -⟩ := S
  obtain ⟨-, ⟨cellB, hcB, hoB, hclB⟩, hPc⟩ := hp
  obtain ⟨hfc, kB, hkB, -⟩ := hat
  cases hfc.symm.trans hclB
  intro T hT X
  rcases vx_callIF X hx (C := C) (bytes := bytes) (maxL := maxL) (ret := ret) ho cw.link cw.decl cw.face cw.sel cw.inst cw.pub cw.unh cw.cast cw.code cw.notMH hK (by rw [hT]; exact hcB) hoB hclB hkB hg (hsize.trans hml.symm) (argsL := As) (rest := rest) (fun sig h => hn.trans (cw.len sig h)) hstack hW (by rw [hb]; exact hdg)
    (fun vm₁ hW₁ => ⟨hf.1, hf.2, hPc (T.setVm vm₁) hT hW₁⟩) with ⟨v, vm₁, ⟨U', l2, c2, s2⟩, hW₁, X', ⟨g', mk, t, L, e1, e2, hq, h1, hL, h2, h3⟩, st⟩ | ⟨q, vm₁, ⟨U', l2, c2, s2⟩, hW₁, X', ⟨g', mk, t, L, E, ce, e1, e2, hq, hce, hcv, hcl, h1, hL, h2, h3⟩, st⟩
  · dsimp only [Pt.U, Pt.locs, Pt.cells, Pt.slots] at X' e1 e2 h1 h2 h3 st
    subst h1; subst h2; subst h3
    exact Or.inl ⟨v, (T.setVm vm₁).calling g' mk (Value.ref b :: As).toArray, t, U', L, hT, X', hL, e1, e2, hq, st⟩
  · dsimp only [Pt.U, Pt.locs, Pt.cells, Pt.slots] at X' e1 e2 h1 h2 h3 st hcl
    subst h1; subst h2; subst h3
    exact Or.inr ⟨q, (T.setVm vm₁).calling g' mk (Value.ref b :: As).toArray, t, U', L, E, ce, hT, X', hL, e1, e2, hq, hce, hcv, vx_cls hW₁ hcl, st⟩
theorem vx_callFv {S SX : Type} {post : S → Prop} {px : SX → Prop} {B : S → State → Prop} {BX : String → SX → State → Prop} {AX : Nat → Prop} (hr : vx_Run5 p l e R s m args below meth c H locs cells slots mc ms (F0 m pc ls st0) rest (va_Qv post B A1 a) (vx_X px BX AX) free) (hS : va_S A0 H0 H locs) (hA : ∀ q, q < H.size → A1 q → A0 q) (hf : ∀ q, free q → A0 q) (hAX : ∀ q, q < H.size → AX q → A0 q)
    (kx : ∀ (E : String) (ce : Cell) (q9 : Addr) (u : SX) (t : State) (H1 : Heap) (locs1 : List Loc), t.heap = H1 → s.vm.Alike t.vm → px u → BX E u t → H.size ≤ H1.size → (∀ q : Nat, q < H.size → ¬ AX q → H1[q]? = H[q]?) → va_S A0 H0 H1 locs1 → H1[q9]? = some ce → ce.vm = .none → s.vm.findClass E = some ce.cls → vx_W p l e R s m args below meth c H1 locs1 (cells + mc) (slots + ms) Q (F0 m pc ls rest) q9)
    (kk : ∀ (u : S) (t : State) (H1 : Heap) (locs1 : List Loc), t.heap = H1 → s.vm.Alike t.vm → post u → B u t → H.size ≤ H1.size → (∀ q : Nat, q < H.size → ¬ A1 q → H1[q]? = H[q]?) → va_S A0 H0 H1 locs1 → W p l e R s m args below meth c H1 locs1 (cells + mc) (slots + ms) Q (F0 m (pc + 5) ls (rest))) : W p l e R s m args below meth c H locs cells slots Q (F0 m pc ls st0) := by
  intro T hT X
  rcases hr T hT X with ⟨v, st₀, t, T', L, h0, X', hL, e1, e2, ⟨⟨u, hv, hp, hb⟩, hF⟩, st⟩ | ⟨q, st₀, t, T', L, E, ce, h0, X', hL, e1, e2, ⟨u, hp, hb, hF⟩, hce, hcv, hcl, st⟩
  · cases hv
    obtain ⟨k1, k2, k3⟩ := vx_keep h0 e1 hS hA hf hL hF
    obtain ⟨t2, a1, b1⟩ := kk u t T'.heap (locs ++ L) e1.symm (by rw [← e2]; exact X'.warmed.alike) hp hb k1 k2 k3 T' rfl X'
    exact ⟨t2, st t2 a1, b1⟩
  · obtain ⟨k1, k2, k3⟩ := vx_keep h0 e1 hS hAX hf hL hF
    obtain ⟨t2, a1, b1⟩ := kx E ce q u t T'.heap (locs ++ L) e1.symm (by rw [← e2]; exact X'.warmed.alike) hp hb k1 k2 k3 (by rw [e1]; exact hce) hcv hcl T' rfl X'
    exact ⟨t2, st.trans a1, b1⟩
theorem vx_callFi {S SX : Type} {post : Int32 → S → Prop} {px : SX → Prop} {B : S → State → Prop} {BX : String → SX → State → Prop} {AX : Nat → Prop} (hr : vx_Run5 p l e R s m args below meth c H locs cells slots mc ms (F0 m pc ls st0) rest (va_Qi post B A1 a) (vx_X px BX AX) free) (hS : va_S A0 H0 H locs) (hA : ∀ q, q < H.size → A1 q → A0 q) (hf : ∀ q, free q → A0 q) (hAX : ∀ q, q < H.size → AX q → A0 q)
    (kx : ∀ (E : String) (ce : Cell) (q9 : Addr) (u : SX) (t : State) (H1 : Heap) (locs1 : List Loc), t.heap = H1 → s.vm.Alike t.vm → px u → BX E u t → H.size ≤ H1.size → (∀ q : Nat, q < H.size → ¬ AX q → H1[q]? = H[q]?) → va_S A0 H0 H1 locs1 → H1[q9]? = some ce → ce.vm = .none → s.vm.findClass E = some ce.cls → vx_W p l e R s m args below meth c H1 locs1 (cells + mc) (slots + ms) Q (F0 m pc ls rest) q9)
    (kk : ∀ (r : Int32) (u : S) (t : State) (H1 : Heap) (locs1 : List Loc), t.heap = H1 → s.vm.Alike t.vm → post r u → B u t → H.size ≤ H1.size → (∀ q : Nat, q < H.size → ¬ A1 q → H1[q]? = H[q]?) → va_S A0 H0 H1 locs1 → W p l e R s m args below meth c H1 locs1 (cells + mc) (slots + ms) Q (F0 m (pc + 5) ls (.int r :: rest))) : W p l e R s m args below meth c H locs cells slots Q (F0 m pc ls st0) := by
  intro T hT X
  rcases hr T hT X with ⟨v, st₀, t, T', L, h0, X', hL, e1, e2, ⟨⟨r, u, hv, hp, hb⟩, hF⟩, st⟩ | ⟨q, st₀, t, T', L, E, ce, h0, X', hL, e1, e2, ⟨u, hp, hb, hF⟩, hce, hcv, hcl, st⟩
  · cases hv
    obtain ⟨k1, k2, k3⟩ := vx_keep h0 e1 hS hA hf hL hF
    obtain ⟨t2, a1, b1⟩ := kk r u t T'.heap (locs ++ L) e1.symm (by rw [← e2]; exact X'.warmed.alike) hp hb k1 k2 k3 T' rfl X'
    exact ⟨t2, st t2 a1, b1⟩
  · obtain ⟨k1, k2, k3⟩ := vx_keep h0 e1 hS hAX hf hL hF
    obtain ⟨t2, a1, b1⟩ := kx E ce q u t T'.heap (locs ++ L) e1.symm (by rw [← e2]; exact X'.warmed.alike) hp hb k1 k2 k3 (by rw [e1]; exact hce) hcv hcl T' rfl X'
    exact ⟨t2, st.trans a1, b1⟩
theorem vx_callFl {S SX : Type} {post : Int64 → S → Prop} {px : SX → Prop} {B : S → State → Prop} {BX : String → SX → State → Prop} {AX : Nat → Prop} (hr : vx_Run5 p l e R s m args below meth c H locs cells slots mc ms (F0 m pc ls st0) rest (va_Ql post B A1 a) (vx_X px BX AX) free) (hS : va_S A0 H0 H locs) (hA : ∀ q, q < H.size → A1 q → A0 q) (hf : ∀ q, free q → A0 q) (hAX : ∀ q, q < H.size → AX q → A0 q)
    (kx : ∀ (E : String) (ce : Cell) (q9 : Addr) (u : SX) (t : State) (H1 : Heap) (locs1 : List Loc), t.heap = H1 → s.vm.Alike t.vm → px u → BX E u t → H.size ≤ H1.size → (∀ q : Nat, q < H.size → ¬ AX q → H1[q]? = H[q]?) → va_S A0 H0 H1 locs1 → H1[q9]? = some ce → ce.vm = .none → s.vm.findClass E = some ce.cls → vx_W p l e R s m args below meth c H1 locs1 (cells + mc) (slots + ms) Q (F0 m pc ls rest) q9)
    (kk : ∀ (r : Int64) (u : S) (t : State) (H1 : Heap) (locs1 : List Loc), t.heap = H1 → s.vm.Alike t.vm → post r u → B u t → H.size ≤ H1.size → (∀ q : Nat, q < H.size → ¬ A1 q → H1[q]? = H[q]?) → va_S A0 H0 H1 locs1 → W p l e R s m args below meth c H1 locs1 (cells + mc) (slots + ms) Q (F0 m (pc + 5) ls (.long r :: rest))) : W p l e R s m args below meth c H locs cells slots Q (F0 m pc ls st0) := by
  intro T hT X
  rcases hr T hT X with ⟨v, st₀, t, T', L, h0, X', hL, e1, e2, ⟨⟨r, u, hv, hp, hb⟩, hF⟩, st⟩ | ⟨q, st₀, t, T', L, E, ce, h0, X', hL, e1, e2, ⟨u, hp, hb, hF⟩, hce, hcv, hcl, st⟩
  · cases hv
    obtain ⟨k1, k2, k3⟩ := vx_keep h0 e1 hS hA hf hL hF
    obtain ⟨t2, a1, b1⟩ := kk r u t T'.heap (locs ++ L) e1.symm (by rw [← e2]; exact X'.warmed.alike) hp hb k1 k2 k3 T' rfl X'
    exact ⟨t2, st t2 a1, b1⟩
  · obtain ⟨k1, k2, k3⟩ := vx_keep h0 e1 hS hAX hf hL hF
    obtain ⟨t2, a1, b1⟩ := kx E ce q u t T'.heap (locs ++ L) e1.symm (by rw [← e2]; exact X'.warmed.alike) hp hb k1 k2 k3 (by rw [e1]; exact hce) hcv hcl T' rfl X'
    exact ⟨t2, st.trans a1, b1⟩
theorem vx_callFf {S SX : Type} {post : UInt32 → S → Prop} {px : SX → Prop} {B : S → State → Prop} {BX : String → SX → State → Prop} {AX : Nat → Prop} (hr : vx_Run5 p l e R s m args below meth c H locs cells slots mc ms (F0 m pc ls st0) rest (va_Qf post B A1 a) (vx_X px BX AX) free) (hS : va_S A0 H0 H locs) (hA : ∀ q, q < H.size → A1 q → A0 q) (hf : ∀ q, free q → A0 q) (hAX : ∀ q, q < H.size → AX q → A0 q)
    (kx : ∀ (E : String) (ce : Cell) (q9 : Addr) (u : SX) (t : State) (H1 : Heap) (locs1 : List Loc), t.heap = H1 → s.vm.Alike t.vm → px u → BX E u t → H.size ≤ H1.size → (∀ q : Nat, q < H.size → ¬ AX q → H1[q]? = H[q]?) → va_S A0 H0 H1 locs1 → H1[q9]? = some ce → ce.vm = .none → s.vm.findClass E = some ce.cls → vx_W p l e R s m args below meth c H1 locs1 (cells + mc) (slots + ms) Q (F0 m pc ls rest) q9)
    (kk : ∀ (r : UInt32) (u : S) (t : State) (H1 : Heap) (locs1 : List Loc), t.heap = H1 → s.vm.Alike t.vm → post r u → B u t → H.size ≤ H1.size → (∀ q : Nat, q < H.size → ¬ A1 q → H1[q]? = H[q]?) → va_S A0 H0 H1 locs1 → W p l e R s m args below meth c H1 locs1 (cells + mc) (slots + ms) Q (F0 m (pc + 5) ls (.float r :: rest))) : W p l e R s m args below meth c H locs cells slots Q (F0 m pc ls st0) := by
  intro T hT X
  rcases hr T hT X with ⟨v, st₀, t, T', L, h0, X', hL, e1, e2, ⟨⟨r, u, hv, hp, hb⟩, hF⟩, st⟩ | ⟨q, st₀, t, T', L, E, ce, h0, X', hL, e1, e2, ⟨u, hp, hb, hF⟩, hce, hcv, hcl, st⟩
  · cases hv
    obtain ⟨k1, k2, k3⟩ := vx_keep h0 e1 hS hA hf hL hF
    obtain ⟨t2, a1, b1⟩ := kk r u t T'.heap (locs ++ L) e1.symm (by rw [← e2]; exact X'.warmed.alike) hp hb k1 k2 k3 T' rfl X'
    exact ⟨t2, st t2 a1, b1⟩
  · obtain ⟨k1, k2, k3⟩ := vx_keep h0 e1 hS hAX hf hL hF
    obtain ⟨t2, a1, b1⟩ := kx E ce q u t T'.heap (locs ++ L) e1.symm (by rw [← e2]; exact X'.warmed.alike) hp hb k1 k2 k3 (by rw [e1]; exact hce) hcv hcl T' rfl X'
    exact ⟨t2, st.trans a1, b1⟩
theorem vx_callFd {S SX : Type} {post : UInt64 → S → Prop} {px : SX → Prop} {B : S → State → Prop} {BX : String → SX → State → Prop} {AX : Nat → Prop} (hr : vx_Run5 p l e R s m args below meth c H locs cells slots mc ms (F0 m pc ls st0) rest (va_Qd post B A1 a) (vx_X px BX AX) free) (hS : va_S A0 H0 H locs) (hA : ∀ q, q < H.size → A1 q → A0 q) (hf : ∀ q, free q → A0 q) (hAX : ∀ q, q < H.size → AX q → A0 q)
    (kx : ∀ (E : String) (ce : Cell) (q9 : Addr) (u : SX) (t : State) (H1 : Heap) (locs1 : List Loc), t.heap = H1 → s.vm.Alike t.vm → px u → BX E u t → H.size ≤ H1.size → (∀ q : Nat, q < H.size → ¬ AX q → H1[q]? = H[q]?) → va_S A0 H0 H1 locs1 → H1[q9]? = some ce → ce.vm = .none → s.vm.findClass E = some ce.cls → vx_W p l e R s m args below meth c H1 locs1 (cells + mc) (slots + ms) Q (F0 m pc ls rest) q9)
    (kk : ∀ (r : UInt64) (u : S) (t : State) (H1 : Heap) (locs1 : List Loc), t.heap = H1 → s.vm.Alike t.vm → post r u → B u t → H.size ≤ H1.size → (∀ q : Nat, q < H.size → ¬ A1 q → H1[q]? = H[q]?) → va_S A0 H0 H1 locs1 → W p l e R s m args below meth c H1 locs1 (cells + mc) (slots + ms) Q (F0 m (pc + 5) ls (.double r :: rest))) : W p l e R s m args below meth c H locs cells slots Q (F0 m pc ls st0) := by
  intro T hT X
  rcases hr T hT X with ⟨v, st₀, t, T', L, h0, X', hL, e1, e2, ⟨⟨r, u, hv, hp, hb⟩, hF⟩, st⟩ | ⟨q, st₀, t, T', L, E, ce, h0, X', hL, e1, e2, ⟨u, hp, hb, hF⟩, hce, hcv, hcl, st⟩
  · cases hv
    obtain ⟨k1, k2, k3⟩ := vx_keep h0 e1 hS hA hf hL hF
    obtain ⟨t2, a1, b1⟩ := kk r u t T'.heap (locs ++ L) e1.symm (by rw [← e2]; exact X'.warmed.alike) hp hb k1 k2 k3 T' rfl X'
    exact ⟨t2, st t2 a1, b1⟩
  · obtain ⟨k1, k2, k3⟩ := vx_keep h0 e1 hS hAX hf hL hF
    obtain ⟨t2, a1, b1⟩ := kx E ce q u t T'.heap (locs ++ L) e1.symm (by rw [← e2]; exact X'.warmed.alike) hp hb k1 k2 k3 (by rw [e1]; exact hce) hcv hcl T' rfl X'
    exact ⟨t2, st.trans a1, b1⟩
end
/-! ===== END ===== -/
/-! ===== BEGIN by an interface, a method with a table of its own that may throw (follows va_callIFW, va_runFW) ===== -/
section
variable {p : Program} {l : Launch} {e : Env} {R : Room} {s : State} {m : MethodId} {args : Array Value} {below : List Frame} {meth : Method} {c : Code} {H : Heap} {locs : List Loc} {cells slots : Nat}
theorem vx_callIFW {T : State} (X : Stand p l e R s m args below meth c T locs cells slots) (hexec : p.tables.exec = Jvm.exec) {own C : String} {index count : Nat} {x y : MethodName} {bytes : ByteArray} {maxL : Nat} {ret : Option FieldType} {hh : List (Nat × Nat × Nat × Nat)}
    (hown : s.vm.findClass own = some m.cls) (hlink : (Cond.methodLink own index x).before args s = true) (hdecl : (Cond.declares x).before args s = true) (hface : (Cond.interfaceMethod x.cls x.cls x.name x.desc).before args s = true)
    (hsel : (Cond.selects C x y).before args s = true) (hinst : (Cond.instanceMethod y).before args s = true) (hpub : (Cond.publicMethod y).before args s = true) (hunh : (Cond.unhidden C x.name x.desc).before args s = true)
    (hcast : (Cond.castable C x.cls).before args s = true) (hcode : (Cond.codeWith y bytes maxL ret hh).before args s = true) (hx : x.cls ≠ "java/lang/invoke/MethodHandle" ∧ x.cls ≠ "java/lang/invoke/VarHandle")
    {W : Nat} {Pre : Pt → Array Value → Prop} {Post : Pt → Array Value → Option Value → Pt → Prop} {PostX : Pt → Array Value → Addr → Pt → Prop} (hK : vx_Back l R p e below s args y 5 W Pre Post PostX)
    {b : Addr} {cellB : Cell} {kB : Class} (hcell : T.heap[b]? = some cellB) (hobj : cellB.vm.isStatics = false) (hcls : s.vm.findClass C = some cellB.cls) (hkB : s.vm.classes[cellB.cls]? = some kB)
    {g : JFrame} (hg : g.method = m) (hsize : g.locals.size = c.maxLocals) {argsL rest : List Value} (hlen : ∀ sig, parseMethodDescriptor x.desc = some sig → argsL.length = sig.parameters.length)
    (hstack : g.stack = argsL.reverse ++ .ref b :: rest) (hW : 2 * g.monitorRoom + (rest.map fun v => v.category).sum ≤ W) (hdg : decode c.code g.pc = .ok (.invokeinterface index count, 5))
    (hpre : ∀ vm₁, s.WarmedH vm₁ → Pre ⟨T.setVm vm₁, locs, cells, slots⟩ (Value.ref b :: argsL).toArray) :
    (∃ (v : Option Value) (vm₁ : Vm) (B : Pt), s.WarmedH vm₁ ∧ Stand p l e R s m args below meth c B.U B.locs B.cells B.slots ∧ Post ⟨T.setVm vm₁, locs, cells, slots⟩ (Value.ref b :: argsL).toArray v B ∧
      ∀ target, Steps p.tables e below (B.U.setTop { g with pc := g.pc + 5, stack := v.toList ++ rest }) target → Steps p.tables e below (T.setTop g) target) ∨
    (∃ (q : Addr) (vm₁ : Vm) (B : Pt), s.WarmedH vm₁ ∧ Stand p l e R s m args below meth c B.U B.locs B.cells B.slots ∧ PostX ⟨T.setVm vm₁, locs, cells, slots⟩ (Value.ref b :: argsL).toArray q B ∧
      Steps p.tables e below (T.setTop g) ((B.U.setTop { g with stack := rest }).pushFrame (.throwing q))) := by
  obtain ⟨r0, r, hn, hrm, hstR, hsigR⟩ := Cond.declares_spec hdecl
  obtain ⟨cL, kL, r1, hcL, hkL, hiL, hfoundL, hn1⟩ := Cond.interfaceMethod_spec hface
  cases hn.symm.trans hn1
  have hr0cls : r0.cls = cL := Option.some.inj ((findClass_of_methodNamed hn).symm.trans hcL)
  obtain ⟨hnameR, hdescR⟩ := name_of_methodNamed hn hrm
  obtain ⟨mk, methM, hnamed, hmethM, -, habM⟩ := Cond.instanceMethod_spec hinst
  obtain ⟨c2, r2, m2, q1, q2, q3, q4, -⟩ := Cond.selects_spec hsel
  cases hcls.symm.trans q1
  cases hfoundL.symm.trans q2
  cases hnamed.symm.trans q3
  have hselP : selectMethod e.platform s.vm cellB.cls r0 = .method mk := by rw [Launch.admits_selectMethod X.admits]; exact q4
  have hpubM : hasFlag methM.accessFlags Acc.public_ = true := Cond.publicMethod_spec hnamed hmethM hpub
  have hway : ((cellB.cls :: s.vm.superclasses cellB.cls).any fun k => (declaredIn s.vm r.name r.desc k).any fun (_, z) => z.isPrivate || z.isStatic) = false := by
    rw [hnameR, hdescR]; exact Cond.unhidden_spec hcls hunh
  obtain ⟨c3, t3, w1, w2, w3⟩ := Cond.castable_spec hcast
  cases hcls.symm.trans w1
  cases hcL.symm.trans w2
  obtain ⟨vm₁, X₁, hstep₁⟩ := X.invokeinterface hexec hown hlink hn hrm hstR (by rw [hr0cls]; exact hkL) hiL hx (a := b) (cell := cellB) (kcell := kB) hcell
    (fun z h => by rw [h] at hobj; cases hobj) hkB (by rw [hr0cls]; exact w3) hselP hmethM hway hpubM habM (g := g) hg (argsL := argsL) (rest := rest) (hlen _ hsigR) hstack hdg
  rcases hK m meth c ⟨T.setVm vm₁, locs, cells, slots⟩ { g with stack := rest } (.invokeinterface index count) mk (Value.ref b :: argsL).toArray X₁ hg hsize hdg hW (X₁.named hnamed) (hpre vm₁ X₁.warmed) with ⟨v, B, X', hpost, hsteps⟩ | ⟨q, B, X', hpost, hsteps⟩
  · exact Or.inl ⟨v, vm₁, B, X₁.warmed, X', hpost, fun target h => hstep₁ _ fun acts => by rw [doInvoke_state]; exact hsteps.trans h⟩
  · exact Or.inr ⟨q, vm₁, B, X₁.warmed, X', hpost, hstep₁ _ fun acts => by rw [doInvoke_state]; exact hsteps⟩
theorem vx_runFW {x y : MethodName} {bytes cc : ByteArray} {maxL nL mc ms n index count : Nat} {ret : Option FieldType} {hh : List (Nat × Nat × Nat × Nat)} {ws : List Cond} {rm : Room} {Pc : Array Value → State → Prop} {Qc : Array Value → State → Outcome → State → Prop} {XC : String → State → State → Prop} {free : Addr → Prop} {Ts : List Cond} {own C : String} {cC : ClassId} {b : Addr} {As rest : List Value} {g : JFrame}
    (hat : ClassAt s C cC) (S : CallFix p m c cc nL s args Ts own) (hM : vx_Met l y ws rm Pc Qc XC mc ms free) (cw : va_CIW R s args own C index x y bytes maxL ret hh ws rm mc ms n) (hp : PreV s H C b Pc As)
    (hg : g.method = m) (hn : As.length = n) (hsize : g.locals.size = nL) (hstack : g.stack = As.reverse ++ .ref b :: rest) (hW : 2 * g.monitorRoom + (rest.map fun v => v.category).sum ≤ 8) (hdg : decode cc g.pc = .ok (.invokeinterface index count, 5)) (hf : cells + mc ≤ R.cells ∧ slots + ms ≤ R.slots) :
    vx_Run5 p l e R s m args below meth c H locs cells slots mc ms g rest (Qc (Value.ref b :: As).toArray) XC free := by
  obtain ⟨hrc, hrs, hfr, hlo, hws, hcw⟩ := cw.back
  have hini := cw.init
  have hK : vx_Back l R p e below s args y 5 8 (PreOf R mc ms Pc) (PostOf Qc mc ms free) (vx_Post XC mc ms free) := vx_backW (hh := hh) (bytes := bytes) (maxL := maxL) (ret := ret) hM hp.1 hrc hrs hfr hlo hws hcw (fun a' U hW => word_at hW (Or.inl (by first | rfl | simp [Cond.onTables, Cond.keeps, Cond.steady])) hini)
  obtain ⟨hx, hb, hml, ho, -⟩ := S
  obtain ⟨-, ⟨cellB, hcB, hoB, hclB⟩, hPc⟩ := hp
  obtain ⟨hfc, kB, hkB, -⟩ := hat
  cases hfc.symm.trans hclB
  intro T hT X
  rcases vx_callIFW X hx (C := C) (hh := hh) (bytes := bytes) (maxL := maxL) (ret := ret) ho cw.link cw.decl cw.face cw.sel cw.inst cw.pub cw.unh cw.cast cw.code cw.notMH hK (by rw [hT]; exact hcB) hoB hclB hkB hg (hsize.trans hml.symm) (argsL := As) (rest := rest) (fun sig h => hn.trans (cw.len sig h)) hstack hW (by rw [hb]; exact hdg)
    (fun vm₁ hW₁ => ⟨hf.1, hf.2, hPc (T.setVm vm₁) hT hW₁⟩) with ⟨v, vm₁, ⟨U', l2, c2, s2⟩, hW₁, X', ⟨g', mk, t, L, e1, e2, hq, h1, hL, h2, h3⟩, st⟩ | ⟨q, vm₁, ⟨U', l2, c2, s2⟩, hW₁, X', ⟨g', mk, t, L, E, ce, e1, e2, hq, hce, hcv, hcl, h1, hL, h2, h3⟩, st⟩
  · dsimp only [Pt.U, Pt.locs, Pt.cells, Pt.slots] at X' e1 e2 h1 h2 h3 st
    subst h1; subst h2; subst h3
    exact Or.inl ⟨v, (T.setVm vm₁).calling g' mk (Value.ref b :: As).toArray, t, U', L, hT, X', hL, e1, e2, hq, st⟩
  · dsimp only [Pt.U, Pt.locs, Pt.cells, Pt.slots] at X' e1 e2 h1 h2 h3 st hcl
    subst h1; subst h2; subst h3
    exact Or.inr ⟨q, (T.setVm vm₁).calling g' mk (Value.ref b :: As).toArray, t, U', L, E, ce, hT, X', hL, e1, e2, hq, hce, hcv, vx_cls hW₁ hcl, st⟩
end
/-! ===== END ===== -/
/-! ===== BEGIN .. of methods that hand back an object of the pool ===== -/
section
variable {p : Program} {l : Launch} {e : Env} {R : Room} {s : State} {m : MethodId} {args : Array Value} {below : List Frame} {meth : Method} {c : Code} {H : Heap} {locs : List Loc} {cells slots : Nat} {Q : State → Prop}
variable {mc ms : Nat} {free : Addr → Prop} {A0 A1 : Nat → Prop} {H0 : Heap} {a : Array Value} {pc : Nat} {ls : Array Slot} {st0 rest : List Value}
theorem vx_callq {S SX : Type} {post : Option Nat → S → Prop} {px : SX → Prop} {B : S → State → Prop} {BX : String → SX → State → Prop} {AX : Nat → Prop} (hr : vx_Run p l e R s m args below meth c H locs cells slots mc ms (F0 m pc ls st0) rest (va_Qq post B A1 a) (vx_X px BX AX) free) (hS : va_S A0 H0 H locs) (hA : ∀ q, q < H.size → A1 q → A0 q) (hf : ∀ q, free q → A0 q) (hAX : ∀ q, q < H.size → AX q → A0 q)
    (kx : ∀ (E : String) (ce : Cell) (q9 : Addr) (u : SX) (t : State) (H1 : Heap) (locs1 : List Loc), t.heap = H1 → s.vm.Alike t.vm → px u → BX E u t → H.size ≤ H1.size → (∀ q : Nat, q < H.size → ¬ AX q → H1[q]? = H[q]?) → va_S A0 H0 H1 locs1 → H1[q9]? = some ce → ce.vm = .none → s.vm.findClass E = some ce.cls → vx_W p l e R s m args below meth c H1 locs1 (cells + mc) (slots + ms) Q (F0 m pc ls rest) q9)
    (kk : ∀ (r : Option Nat) (u : S) (t : State) (H1 : Heap) (locs1 : List Loc), t.heap = H1 → s.vm.Alike t.vm → post r u → B u t → H.size ≤ H1.size → (∀ q : Nat, q < H.size → ¬ A1 q → H1[q]? = H[q]?) → va_S A0 H0 H1 locs1 → W p l e R s m args below meth c H1 locs1 (cells + mc) (slots + ms) Q (F0 m (pc + 3) ls (va_rf r :: rest))) : W p l e R s m args below meth c H locs cells slots Q (F0 m pc ls st0) := by
  intro T hT X
  rcases hr T hT X with ⟨v, st₀, t, T', L, h0, X', hL, e1, e2, ⟨⟨r, u, hv, hp, hb⟩, hF⟩, st⟩ | ⟨q, st₀, t, T', L, E, ce, h0, X', hL, e1, e2, ⟨u, hp, hb, hF⟩, hce, hcv, hcl, st⟩
  · cases hv
    obtain ⟨k1, k2, k3⟩ := vx_keep h0 e1 hS hA hf hL hF
    obtain ⟨t2, a1, b1⟩ := kk r u t T'.heap (locs ++ L) e1.symm (by rw [← e2]; exact X'.warmed.alike) hp hb k1 k2 k3 T' rfl X'
    exact ⟨t2, st t2 a1, b1⟩
  · obtain ⟨k1, k2, k3⟩ := vx_keep h0 e1 hS hAX hf hL hF
    obtain ⟨t2, a1, b1⟩ := kx E ce q u t T'.heap (locs ++ L) e1.symm (by rw [← e2]; exact X'.warmed.alike) hp hb k1 k2 k3 (by rw [e1]; exact hce) hcv hcl T' rfl X'
    exact ⟨t2, st.trans a1, b1⟩
end
/-! ===== END ===== -/
/-! ===== BEGIN .. a constant ===== -/
section
variable {p : Program} {l : Launch} {e : Env} {R : Room} {s : State} {m : MethodId} {args : Array Value} {below : List Frame} {meth : Method} {c : Code} {H : Heap} {locs : List Loc} {cells slots : Nat} {Q : State → Prop}
variable {mc ms : Nat} {free : Addr → Prop} {A0 A1 : Nat → Prop} {H0 : Heap} {a : Array Value} {pc : Nat} {ls : Array Slot} {st0 rest : List Value}
theorem vx_calle {ad : Nat → Nat} {S SX : Type} {post : Option Nat → S → Prop} {px : SX → Prop} {B : S → State → Prop} {BX : String → SX → State → Prop} {AX : Nat → Prop} (hr : vx_Run p l e R s m args below meth c H locs cells slots mc ms (F0 m pc ls st0) rest (va_Qe ad post B A1 a) (vx_X px BX AX) free) (hS : va_S A0 H0 H locs) (hA : ∀ q, q < H.size → A1 q → A0 q) (hf : ∀ q, free q → A0 q) (hAX : ∀ q, q < H.size → AX q → A0 q)
    (kx : ∀ (E : String) (ce : Cell) (q9 : Addr) (u : SX) (t : State) (H1 : Heap) (locs1 : List Loc), t.heap = H1 → s.vm.Alike t.vm → px u → BX E u t → H.size ≤ H1.size → (∀ q : Nat, q < H.size → ¬ AX q → H1[q]? = H[q]?) → va_S A0 H0 H1 locs1 → H1[q9]? = some ce → ce.vm = .none → s.vm.findClass E = some ce.cls → vx_W p l e R s m args below meth c H1 locs1 (cells + mc) (slots + ms) Q (F0 m pc ls rest) q9)
    (kk : ∀ (r : Option Nat) (u : S) (t : State) (H1 : Heap) (locs1 : List Loc), t.heap = H1 → s.vm.Alike t.vm → post r u → B u t → H.size ≤ H1.size → (∀ q : Nat, q < H.size → ¬ A1 q → H1[q]? = H[q]?) → va_S A0 H0 H1 locs1 → W p l e R s m args below meth c H1 locs1 (cells + mc) (slots + ms) Q (F0 m (pc + 3) ls (va_re ad r :: rest))) : W p l e R s m args below meth c H locs cells slots Q (F0 m pc ls st0) := by
  intro T hT X
  rcases hr T hT X with ⟨v, st₀, t, T', L, h0, X', hL, e1, e2, ⟨⟨r, u, hv, hp, hb⟩, hF⟩, st⟩ | ⟨q, st₀, t, T', L, E, ce, h0, X', hL, e1, e2, ⟨u, hp, hb, hF⟩, hce, hcv, hcl, st⟩
  · cases hv
    obtain ⟨k1, k2, k3⟩ := vx_keep h0 e1 hS hA hf hL hF
    obtain ⟨t2, a1, b1⟩ := kk r u t T'.heap (locs ++ L) e1.symm (by rw [← e2]; exact X'.warmed.alike) hp hb k1 k2 k3 T' rfl X'
    exact ⟨t2, st t2 a1, b1⟩
  · obtain ⟨k1, k2, k3⟩ := vx_keep h0 e1 hS hAX hf hL hF
    obtain ⟨t2, a1, b1⟩ := kx E ce q u t T'.heap (locs ++ L) e1.symm (by rw [← e2]; exact X'.warmed.alike) hp hb k1 k2 k3 (by rw [e1]; exact hce) hcv hcl T' rfl X'
    exact ⟨t2, st.trans a1, b1⟩
end
/-! ===== END ===== -/
/-! ===== BEGIN .. by an interface, an object ===== -/
section
variable {p : Program} {l : Launch} {e : Env} {R : Room} {s : State} {m : MethodId} {args : Array Value} {below : List Frame} {meth : Method} {c : Code} {H : Heap} {locs : List Loc} {cells slots : Nat} {Q : State → Prop}
variable {mc ms : Nat} {free : Addr → Prop} {A0 A1 : Nat → Prop} {H0 : Heap} {a : Array Value} {pc : Nat} {ls : Array Slot} {st0 rest : List Value}
theorem vx_callFq {S SX : Type} {post : Option Nat → S → Prop} {px : SX → Prop} {B : S → State → Prop} {BX : String → SX → State → Prop} {AX : Nat → Prop} (hr : vx_Run5 p l e R s m args below meth c H locs cells slots mc ms (F0 m pc ls st0) rest (va_Qq post B A1 a) (vx_X px BX AX) free) (hS : va_S A0 H0 H locs) (hA : ∀ q, q < H.size → A1 q → A0 q) (hf : ∀ q, free q → A0 q) (hAX : ∀ q, q < H.size → AX q → A0 q)
    (kx : ∀ (E : String) (ce : Cell) (q9 : Addr) (u : SX) (t : State) (H1 : Heap) (locs1 : List Loc), t.heap = H1 → s.vm.Alike t.vm → px u → BX E u t → H.size ≤ H1.size → (∀ q : Nat, q < H.size → ¬ AX q → H1[q]? = H[q]?) → va_S A0 H0 H1 locs1 → H1[q9]? = some ce → ce.vm = .none → s.vm.findClass E = some ce.cls → vx_W p l e R s m args below meth c H1 locs1 (cells + mc) (slots + ms) Q (F0 m pc ls rest) q9)
    (kk : ∀ (r : Option Nat) (u : S) (t : State) (H1 : Heap) (locs1 : List Loc), t.heap = H1 → s.vm.Alike t.vm → post r u → B u t → H.size ≤ H1.size → (∀ q : Nat, q < H.size → ¬ A1 q → H1[q]? = H[q]?) → va_S A0 H0 H1 locs1 → W p l e R s m args below meth c H1 locs1 (cells + mc) (slots + ms) Q (F0 m (pc + 5) ls (va_rf r :: rest))) : W p l e R s m args below meth c H locs cells slots Q (F0 m pc ls st0) := by
  intro T hT X
  rcases hr T hT X with ⟨v, st₀, t, T', L, h0, X', hL, e1, e2, ⟨⟨r, u, hv, hp, hb⟩, hF⟩, st⟩ | ⟨q, st₀, t, T', L, E, ce, h0, X', hL, e1, e2, ⟨u, hp, hb, hF⟩, hce, hcv, hcl, st⟩
  · cases hv
    obtain ⟨k1, k2, k3⟩ := vx_keep h0 e1 hS hA hf hL hF
    obtain ⟨t2, a1, b1⟩ := kk r u t T'.heap (locs ++ L) e1.symm (by rw [← e2]; exact X'.warmed.alike) hp hb k1 k2 k3 T' rfl X'
    exact ⟨t2, st t2 a1, b1⟩
  · obtain ⟨k1, k2, k3⟩ := vx_keep h0 e1 hS hAX hf hL hF
    obtain ⟨t2, a1, b1⟩ := kx E ce q u t T'.heap (locs ++ L) e1.symm (by rw [← e2]; exact X'.warmed.alike) hp hb k1 k2 k3 (by rw [e1]; exact hce) hcv hcl T' rfl X'
    exact ⟨t2, st.trans a1, b1⟩
end
/-! ===== END ===== -/
/-! ===== BEGIN .. by an interface, a constant ===== -/
section
variable {p : Program} {l : Launch} {e : Env} {R : Room} {s : State} {m : MethodId} {args : Array Value} {below : List Frame} {meth : Method} {c : Code} {H : Heap} {locs : List Loc} {cells slots : Nat} {Q : State → Prop}
variable {mc ms : Nat} {free : Addr → Prop} {A0 A1 : Nat → Prop} {H0 : Heap} {a : Array Value} {pc : Nat} {ls : Array Slot} {st0 rest : List Value}
theorem vx_callFe {ad : Nat → Nat} {S SX : Type} {post : Option Nat → S → Prop} {px : SX → Prop} {B : S → State → Prop} {BX : String → SX → State → Prop} {AX : Nat → Prop} (hr : vx_Run5 p l e R s m args below meth c H locs cells slots mc ms (F0 m pc ls st0) rest (va_Qe ad post B A1 a) (vx_X px BX AX) free) (hS : va_S A0 H0 H locs) (hA : ∀ q, q < H.size → A1 q → A0 q) (hf : ∀ q, free q → A0 q) (hAX : ∀ q, q < H.size → AX q → A0 q)
    (kx : ∀ (E : String) (ce : Cell) (q9 : Addr) (u : SX) (t : State) (H1 : Heap) (locs1 : List Loc), t.heap = H1 → s.vm.Alike t.vm → px u → BX E u t → H.size ≤ H1.size → (∀ q : Nat, q < H.size → ¬ AX q → H1[q]? = H[q]?) → va_S A0 H0 H1 locs1 → H1[q9]? = some ce → ce.vm = .none → s.vm.findClass E = some ce.cls → vx_W p l e R s m args below meth c H1 locs1 (cells + mc) (slots + ms) Q (F0 m pc ls rest) q9)
    (kk : ∀ (r : Option Nat) (u : S) (t : State) (H1 : Heap) (locs1 : List Loc), t.heap = H1 → s.vm.Alike t.vm → post r u → B u t → H.size ≤ H1.size → (∀ q : Nat, q < H.size → ¬ A1 q → H1[q]? = H[q]?) → va_S A0 H0 H1 locs1 → W p l e R s m args below meth c H1 locs1 (cells + mc) (slots + ms) Q (F0 m (pc + 5) ls (va_re ad r :: rest))) : W p l e R s m args below meth c H locs cells slots Q (F0 m pc ls st0) := by
  intro T hT X
  rcases hr T hT X with ⟨v, st₀, t, T', L, h0, X', hL, e1, e2, ⟨⟨r, u, hv, hp, hb⟩, hF⟩, st⟩ | ⟨q, st₀, t, T', L, E, ce, h0, X', hL, e1, e2, ⟨u, hp, hb, hF⟩, hce, hcv, hcl, st⟩
  · cases hv
    obtain ⟨k1, k2, k3⟩ := vx_keep h0 e1 hS hA hf hL hF
    obtain ⟨t2, a1, b1⟩ := kk r u t T'.heap (locs ++ L) e1.symm (by rw [← e2]; exact X'.warmed.alike) hp hb k1 k2 k3 T' rfl X'
    exact ⟨t2, st t2 a1, b1⟩
  · obtain ⟨k1, k2, k3⟩ := vx_keep h0 e1 hS hAX hf hL hF
    obtain ⟨t2, a1, b1⟩ := kx E ce q u t T'.heap (locs ++ L) e1.symm (by rw [← e2]; exact X'.warmed.alike) hp hb k1 k2 k3 (by rw [e1]; exact hce) hcv hcl T' rfl X'
    exact ⟨t2, st.trans a1, b1⟩
end
/-! ===== END ===== -/
/-! ===== BEGIN what the machine throws by itself: null at a field, at athrow ===== -/
section VXM2
variable {p : Program} {l : Launch} {e : Env} {R : Room} {s : State} {m : MethodId} {args : Array Value} {below : List Frame} {meth : Method} {c : Code} {H : Heap} {locs : List Loc} {cells slots : Nat}
variable {Q : State → Prop} {cc : ByteArray} {pc : Nat} {ls : Array Slot} {rest : List Value}
theorem vx_getfN {D cl tys} {own ref C : String} {T : u_T} {N ci index : Nat} {Ts : List Cond} (hexec : p.tables.exec = Jvm.exec) (hb : c.code = cc) (hts : ∀ w ∈ Ts, w.before args s = true) (hin : ∀ w ∈ u_ws C T N, w ∈ Ts) (hown : s.vm.findClass own = some m.cls) (hK : va_K D cl tys s) (hc : cl[ci]? = some (C, T, N)) (k : Nat) (hk : k < N) (hlink : (Cond.fieldLink own index ref (T k).2.1 (T k).2.2.1).before args s = true) (hsame : ∀ x, s.fieldFound? (T k).1 (T k).2.1 (T k).2.2.1 = some x → s.fieldFound? ref (T k).2.1 (T k).2.2.1 = some x) (hdg : decode cc pc = .ok (.getfield index, 3)) (kk : vx_NoteN p l e R s m args below meth c H locs cells slots Q (F0 m pc ls rest)) : W p l e R s m args below meth c H locs cells slots Q (F0 m pc ls (.null :: rest)) := by
  obtain ⟨hS, hfc, kC, hkC, -⟩ := hK.1 ci _ hc
  obtain ⟨cf, kf, fi, f, hi, -⟩ := hS k hk
  intro U hU X
  obtain ⟨vm', X1, st1⟩ := X.getfieldNull hexec hown hlink (hsame _ hi) (u_facts hfc hkC (u_lays hts hin hk) hi).1 (g := F0 m pc ls (.null :: rest)) rfl (rest := rest) rfl (by rw [hb]; exact hdg)
  obtain ⟨t, st, q⟩ := kk (U.setVm vm') hU X1
  exact ⟨t, st1 t st, q⟩
theorem vx_getfNN {D cl tys} {own ref C host : String} {T : u_T} {N ci index : Nat} {Ts : List Cond} (hexec : p.tables.exec = Jvm.exec) (hb : c.code = cc) (hts : ∀ w ∈ Ts, w.before args s = true) (hin : ∀ w ∈ u_ws C T N, w ∈ Ts) (hown : s.vm.findClass own = some m.cls) (hK : va_K D cl tys s) (hc : cl[ci]? = some (C, T, N)) (k : Nat) (hk : k < N) (hlink : (Cond.fieldLinkNest own index ref (T k).2.1 (T k).2.2.1 host).before args s = true) (hsame : ∀ x, s.fieldFound? (T k).1 (T k).2.1 (T k).2.2.1 = some x → s.fieldFound? ref (T k).2.1 (T k).2.2.1 = some x) (hdg : decode cc pc = .ok (.getfield index, 3)) (kk : vx_NoteN p l e R s m args below meth c H locs cells slots Q (F0 m pc ls rest)) : W p l e R s m args below meth c H locs cells slots Q (F0 m pc ls (.null :: rest)) := by
  obtain ⟨hS, hfc, kC, hkC, -⟩ := hK.1 ci _ hc
  obtain ⟨cf, kf, fi, f, hi, -⟩ := hS k hk
  intro U hU X
  obtain ⟨vm', X1, st1⟩ := X.getfieldNullNest hexec hown hlink (hsame _ hi) (u_facts hfc hkC (u_lays hts hin hk) hi).1 (g := F0 m pc ls (.null :: rest)) rfl (rest := rest) rfl (by rw [hb]; exact hdg)
  obtain ⟨t, st, q⟩ := kk (U.setVm vm') hU X1
  exact ⟨t, st1 t st, q⟩
theorem vx_putfN {D cl tys} {own ref C : String} {T : u_T} {N ci index : Nat} {Ts : List Cond} (hexec : p.tables.exec = Jvm.exec) (hb : c.code = cc) (hts : ∀ w ∈ Ts, w.before args s = true) (hin : ∀ w ∈ u_ws C T N, w ∈ Ts) (hown : s.vm.findClass own = some m.cls) (hK : va_K D cl tys s) (hc : cl[ci]? = some (C, T, N)) (k : Nat) (hk : k < N) (hlink : (Cond.fieldLink own index ref (T k).2.1 (T k).2.2.1).before args s = true) (hsame : ∀ x, s.fieldFound? (T k).1 (T k).2.1 (T k).2.2.1 = some x → s.fieldFound? ref (T k).2.1 (T k).2.2.1 = some x) (hfin : (T k).2.2.2 = false) {v : Value} (hdg : decode cc pc = .ok (.putfield index, 3)) (kk : vx_NoteN p l e R s m args below meth c H locs cells slots Q (F0 m pc ls rest)) : W p l e R s m args below meth c H locs cells slots Q (F0 m pc ls (v :: .null :: rest)) := by
  obtain ⟨hS, hfc, kC, hkC, -⟩ := hK.1 ci _ hc
  obtain ⟨cf, kf, fi, f, hi, -⟩ := hS k hk
  have hlay := hts _ (hin _ (u_in_lay hk))
  unfold u_lay at hlay
  rw [if_neg (by rw [hfin]; decide)] at hlay
  obtain ⟨c9, k9, cf9, kf9, fi9, f9, -, -, hi9, hst9, hnf9, -⟩ := Cond.lays_spec hlay
  cases hi.symm.trans hi9
  intro U hU X
  obtain ⟨vm', X1, st1⟩ := X.putfieldNull hexec hown hlink (hsame _ hi) hst9 hnf9 (g := F0 m pc ls (v :: .null :: rest)) rfl (v := v) (rest := rest) rfl (by rw [hb]; exact hdg)
  obtain ⟨t, st, q⟩ := kk (U.setVm vm') hU X1
  exact ⟨t, st1 t st, q⟩
theorem vx_putfNN {D cl tys} {own ref C host : String} {T : u_T} {N ci index : Nat} {Ts : List Cond} (hexec : p.tables.exec = Jvm.exec) (hb : c.code = cc) (hts : ∀ w ∈ Ts, w.before args s = true) (hin : ∀ w ∈ u_ws C T N, w ∈ Ts) (hown : s.vm.findClass own = some m.cls) (hK : va_K D cl tys s) (hc : cl[ci]? = some (C, T, N)) (k : Nat) (hk : k < N) (hlink : (Cond.fieldLinkNest own index ref (T k).2.1 (T k).2.2.1 host).before args s = true) (hsame : ∀ x, s.fieldFound? (T k).1 (T k).2.1 (T k).2.2.1 = some x → s.fieldFound? ref (T k).2.1 (T k).2.2.1 = some x) (hfin : (T k).2.2.2 = false) {v : Value} (hdg : decode cc pc = .ok (.putfield index, 3)) (kk : vx_NoteN p l e R s m args below meth c H locs cells slots Q (F0 m pc ls rest)) : W p l e R s m args below meth c H locs cells slots Q (F0 m pc ls (v :: .null :: rest)) := by
  obtain ⟨hS, hfc, kC, hkC, -⟩ := hK.1 ci _ hc
  obtain ⟨cf, kf, fi, f, hi, -⟩ := hS k hk
  have hlay := hts _ (hin _ (u_in_lay hk))
  unfold u_lay at hlay
  rw [if_neg (by rw [hfin]; decide)] at hlay
  obtain ⟨c9, k9, cf9, kf9, fi9, f9, -, -, hi9, hst9, hnf9, -⟩ := Cond.lays_spec hlay
  cases hi.symm.trans hi9
  intro U hU X
  obtain ⟨vm', X1, st1⟩ := X.putfieldNullNest hexec hown hlink (hsame _ hi) hst9 hnf9 (g := F0 m pc ls (v :: .null :: rest)) rfl (v := v) (rest := rest) rfl (by rw [hb]; exact hdg)
  obtain ⟨t, st, q⟩ := kk (U.setVm vm') hU X1
  exact ⟨t, st1 t st, q⟩
theorem vx_athrowN (hexec : p.tables.exec = Jvm.exec) (hb : c.code = cc) (hdg : decode cc pc = .ok (.athrow, 1)) (k : vx_NoteN p l e R s m args below meth c H locs cells slots Q (F0 m pc ls rest)) : W p l e R s m args below meth c H locs cells slots Q (F0 m pc ls (.null :: rest)) := by
  intro T hT X
  obtain ⟨t, st, q⟩ := k T hT X
  exact ⟨t, X.athrowNull hexec (g := F0 m pc ls (.null :: rest)) rfl (rest := rest) rfl (by rw [hb]; exact hdg) t st, q⟩
end VXM2
/-! ===== END ===== -/
end
section
def RX0 : String := "StormBasin$Basin"
def TX0 : u_T := fun k => match k with
  | 0 => ("StormBasin$Basin", "area", "I", true)
  | 1 => ("StormBasin$Basin", "depth", "I", true)
  | 2 => ("StormBasin$Basin", "width", "I", true)
  | 3 => ("StormBasin$Basin", "below", "I", true)
  | 4 => ("StormBasin$Basin", "street", "LStormBasin$Street;", true)
  | 5 => ("StormBasin$Basin", "rainIn", "[I", true)
  | 6 => ("StormBasin$Basin", "hand", "I", false)
  | _ => ("StormBasin$Basin", "rain", "I", false)
def tyX0 : Nat → FieldType := fun k => match k with
  | 0 => .int
  | 1 => .int
  | 2 => .int
  | 3 => .int
  | 4 => .object "StormBasin$Street"
  | 5 => .array .int
  | 6 => .int
  | _ => .int
abbrev wsX00 : List Cond := u_ws RX0 TX0 8
theorem nmX0 : ∀ a, a < 8 → ∀ b, b < 8 → a ≠ b → (TX0 a).2.1 ≠ (TX0 b).2.1 := by decide +kernel
theorem tyX0_ok : ∀ k, k < 8 → parseFieldDescriptor (TX0 k).2.2.1 = some (tyX0 k) := by decide +kernel
abbrev cX0_init : ByteArray := prog_2_method_1_code
def yX0_init : MethodName := ⟨RX0, "<init>", "(IIIII)V"⟩
abbrev cX0_capacity : ByteArray := prog_2_method_2_code
def yX0_capacity : MethodName := ⟨RX0, "capacity", "()I"⟩
def RX1 : String := "StormBasin$House"
def TX1 : u_T := fun k => match k with
  | 0 => ("StormBasin$House", "street", "LStormBasin$Street;", true)
  | 1 => ("StormBasin$House", "cell", "I", true)
  | 2 => ("StormBasin$House", "rate", "I", true)
  | 3 => ("StormBasin$House", "cover", "I", true)
  | 4 => ("StormBasin$House", "isClaimed", "[Z", true)
  | 5 => ("StormBasin$House", "claims", "I", false)
  | _ => ("StormBasin$House", "paid", "I", false)
def tyX1 : Nat → FieldType := fun k => match k with
  | 0 => .object "StormBasin$Street"
  | 1 => .int
  | 2 => .int
  | 3 => .int
  | 4 => .array .boolean
  | 5 => .int
  | _ => .int
abbrev wsX10 : List Cond := u_ws RX1 TX1 7
theorem nmX1 : ∀ a, a < 7 → ∀ b, b < 7 → a ≠ b → (TX1 a).2.1 ≠ (TX1 b).2.1 := by decide +kernel
theorem tyX1_ok : ∀ k, k < 7 → parseFieldDescriptor (TX1 k).2.2.1 = some (tyX1 k) := by decide +kernel
abbrev cX1_init : ByteArray := prog_3_method_1_code
def yX1_init : MethodName := ⟨RX1, "<init>", "(LStormBasin$Street;III)V"⟩
abbrev cX1_isWetAt : ByteArray := prog_3_method_2_code
def yX1_isWetAt : MethodName := ⟨RX1, "isWetAt", "(I)Z"⟩
abbrev cX1_worthAt : ByteArray := prog_3_method_3_code
def yX1_worthAt : MethodName := ⟨RX1, "worthAt", "(I)I"⟩
abbrev cX1_worstHour : ByteArray := prog_3_method_4_code
def yX1_worstHour : MethodName := ⟨RX1, "worstHour", "(I)I"⟩
abbrev cX1_pay : ByteArray := prog_3_method_5_code
def yX1_pay : MethodName := ⟨RX1, "pay", "(I)I"⟩
def RX2 : String := "StormBasin$Rule"
def TX2 : u_T := fun k => match k with
  | 0 => ("StormBasin$Rule", "basin", "I", true)
  | 1 => ("StormBasin$Rule", "observed", "I", true)
  | 2 => ("StormBasin$Rule", "isFrom", "Z", true)
  | 3 => ("StormBasin$Rule", "level", "I", true)
  | _ => ("StormBasin$Rule", "opening", "I", true)
def tyX2 : Nat → FieldType := fun k => match k with
  | 0 => .int
  | 1 => .int
  | 2 => .boolean
  | 3 => .int
  | _ => .int
abbrev wsX20 : List Cond := u_ws RX2 TX2 5
theorem nmX2 : ∀ a, a < 5 → ∀ b, b < 5 → a ≠ b → (TX2 a).2.1 ≠ (TX2 b).2.1 := by decide +kernel
theorem tyX2_ok : ∀ k, k < 5 → parseFieldDescriptor (TX2 k).2.2.1 = some (tyX2 k) := by decide +kernel
abbrev cX2_init : ByteArray := prog_4_method_1_code
def yX2_init : MethodName := ⟨RX2, "<init>", "(IIZII)V"⟩
def RX3 : String := "StormBasin$Street"
def TX3 : u_T := fun k => match k with
  | 0 => ("StormBasin$Street", "heights", "[I", true)
  | 1 => ("StormBasin$Street", "dryUpTo", "[I", true)
  | 2 => ("StormBasin$Street", "poured", "[I", true)
  | 3 => ("StormBasin$Street", "volumeAtEnd", "[I", true)
  | _ => ("StormBasin$Street", "cells", "I", false)
def tyX3 : Nat → FieldType := fun k => match k with
  | 0 => .array .int
  | 1 => .array .int
  | 2 => .array .int
  | 3 => .array .int
  | _ => .int
abbrev wsX30 : List Cond := u_ws RX3 TX3 5
theorem nmX3 : ∀ a, a < 5 → ∀ b, b < 5 → a ≠ b → (TX3 a).2.1 ≠ (TX3 b).2.1 := by decide +kernel
theorem tyX3_ok : ∀ k, k < 5 → parseFieldDescriptor (TX3 k).2.2.1 = some (tyX3 k) := by decide +kernel
abbrev cX3_init : ByteArray := prog_5_method_1_code
def yX3_init : MethodName := ⟨RX3, "<init>", "(I)V"⟩
abbrev cX3_append : ByteArray := prog_5_method_2_code
def yX3_append : MethodName := ⟨RX3, "append", "(I)V"⟩
abbrev cX3_volumeBefore : ByteArray := prog_5_method_3_code
def yX3_volumeBefore : MethodName := ⟨RX3, "volumeBefore", "(I)I"⟩
abbrev cX3_isWet : ByteArray := prog_5_method_4_code
def yX3_isWet : MethodName := ⟨RX3, "isWet", "(II)Z"⟩
abbrev cX3_countWet : ByteArray := prog_5_method_5_code
def yX3_countWet : MethodName := ⟨RX3, "countWet", "(I)I"⟩
abbrev cX3_depthOf : ByteArray := prog_5_method_6_code
def yX3_depthOf : MethodName := ⟨RX3, "depthOf", "(II)I"⟩
abbrev cX3_cellsUpTo : ByteArray := prog_5_method_7_code
def yX3_cellsUpTo : MethodName := ⟨RX3, "cellsUpTo", "(I)I"⟩
abbrev cX3_cellsAhead : ByteArray := prog_5_method_8_code
def yX3_cellsAhead : MethodName := ⟨RX3, "cellsAhead", "(II)I"⟩
abbrev cX3_depthPoured : ByteArray := prog_5_method_9_code
def yX3_depthPoured : MethodName := ⟨RX3, "depthPoured", "(II)I"⟩
abbrev cX3_lowestCell : ByteArray := prog_5_method_10_code
def yX3_lowestCell : MethodName := ⟨RX3, "lowestCell", "()I"⟩
def RX4 : String := "StormBasin$Water"
def TX4 : u_T := fun k => match k with
  | 0 => ("StormBasin$Water", "inBasin", "[I", true)
  | 1 => ("StormBasin$Water", "onStreet", "[I", true)
  | 2 => ("StormBasin$Water", "leaving", "[I", true)
  | _ => ("StormBasin$Water", "inRiver", "I", false)
def tyX4 : Nat → FieldType := fun k => match k with
  | 0 => .array .int
  | 1 => .array .int
  | 2 => .array .int
  | _ => .int
abbrev wsX40 : List Cond := u_ws RX4 TX4 4
theorem nmX4 : ∀ a, a < 4 → ∀ b, b < 4 → a ≠ b → (TX4 a).2.1 ≠ (TX4 b).2.1 := by decide +kernel
theorem tyX4_ok : ∀ k, k < 4 → parseFieldDescriptor (TX4 k).2.2.1 = some (tyX4 k) := by decide +kernel
abbrev cX4_init : ByteArray := prog_6_method_1_code
def yX4_init : MethodName := ⟨RX4, "<init>", "()V"⟩
abbrev cX4_clear : ByteArray := prog_6_method_2_code
def yX4_clear : MethodName := ⟨RX4, "clear", "()V"⟩
abbrev cX4_held : ByteArray := prog_6_method_3_code
def yX4_held : MethodName := ⟨RX4, "held", "()I"⟩
abbrev cX4_runThroughGate : ByteArray := prog_6_method_4_code
def yX4_runThroughGate : MethodName := ⟨RX4, "runThroughGate", "(II)V"⟩
abbrev cX4_settle : ByteArray := prog_6_method_5_code
def yX4_settle : MethodName := ⟨RX4, "settle", "(II)V"⟩
def RX5 : String := "StormBasin"
def TX5 : u_T := fun k => match k with
  | 0 => ("StormBasin", "basins", "Ljava/util/ArrayList;", true)
  | 1 => ("StormBasin", "rules", "Ljava/util/ArrayList;", true)
  | 2 => ("StormBasin", "houses", "Ljava/util/ArrayList;", true)
  | 3 => ("StormBasin", "present", "LStormBasin$Water;", true)
  | 4 => ("StormBasin", "trial", "LStormBasin$Water;", true)
  | 5 => ("StormBasin", "line", "Ljava/lang/StringBuilder;", true)
  | 6 => ("StormBasin", "clock", "I", false)
  | 7 => ("StormBasin", "rainSoFar", "I", false)
  | _ => ("StormBasin", "wetSoFar", "I", false)
def tyX5 : Nat → FieldType := fun k => match k with
  | 0 => .object "java/util/ArrayList"
  | 1 => .object "java/util/ArrayList"
  | 2 => .object "java/util/ArrayList"
  | 3 => .object "StormBasin$Water"
  | 4 => .object "StormBasin$Water"
  | 5 => .object "java/lang/StringBuilder"
  | 6 => .int
  | 7 => .int
  | _ => .int
abbrev wsX50 : List Cond := u_ws RX5 TX5 9
theorem nmX5 : ∀ a, a < 9 → ∀ b, b < 9 → a ≠ b → (TX5 a).2.1 ≠ (TX5 b).2.1 := by decide +kernel
theorem tyX5_ok : ∀ k, k < 9 → parseFieldDescriptor (TX5 k).2.2.1 = some (tyX5 k) := by decide +kernel
abbrev cX5_init : ByteArray := prog_1_method_1_code
def yX5_init : MethodName := ⟨RX5, "<init>", "()V"⟩
abbrev cX5_addBasin : ByteArray := prog_1_method_2_code
def yX5_addBasin : MethodName := ⟨RX5, "addBasin", "(IIIII)I"⟩
abbrev cX5_addCell : ByteArray := prog_1_method_3_code
def yX5_addCell : MethodName := ⟨RX5, "addCell", "(II)I"⟩
abbrev cX5_basinCount : ByteArray := prog_1_method_4_code
def yX5_basinCount : MethodName := ⟨RX5, "basinCount", "()I"⟩
abbrev cX5_cellCount : ByteArray := prog_1_method_5_code
def yX5_cellCount : MethodName := ⟨RX5, "cellCount", "(I)I"⟩
abbrev cX5_capacityOf : ByteArray := prog_1_method_6_code
def yX5_capacityOf : MethodName := ⟨RX5, "capacityOf", "(I)I"⟩
abbrev cX5_setHand : ByteArray := prog_1_method_7_code
def yX5_setHand : MethodName := ⟨RX5, "setHand", "(II)I"⟩
abbrev cX5_addRule : ByteArray := prog_1_method_8_code
def yX5_addRule : MethodName := ⟨RX5, "addRule", "(IIZII)I"⟩
abbrev cX5_removeRule : ByteArray := prog_1_method_9_code
def yX5_removeRule : MethodName := ⟨RX5, "removeRule", "(I)I"⟩
abbrev cX5_ruleCount : ByteArray := prog_1_method_10_code
def yX5_ruleCount : MethodName := ⟨RX5, "ruleCount", "()I"⟩
abbrev cX5_doesHold : ByteArray := prog_1_method_11_code
def yX5_doesHold : MethodName := ⟨RX5, "doesHold", "(I)Z"⟩
abbrev cX5_openingNow : ByteArray := prog_1_method_12_code
def yX5_openingNow : MethodName := ⟨RX5, "openingNow", "(I)I"⟩
abbrev cX5_setRain : ByteArray := prog_1_method_13_code
def yX5_setRain : MethodName := ⟨RX5, "setRain", "(II)I"⟩
abbrev cX5_pass : ByteArray := prog_1_method_14_code
def yX5_pass : MethodName := ⟨RX5, "pass", "(I)I"⟩
abbrev cX5_clock : ByteArray := prog_1_method_15_code
def yX5_clock : MethodName := ⟨RX5, "clock", "()I"⟩
abbrev cX5_volumeOf : ByteArray := prog_1_method_16_code
def yX5_volumeOf : MethodName := ⟨RX5, "volumeOf", "(I)I"⟩
abbrev cX5_levelOf : ByteArray := prog_1_method_17_code
def yX5_levelOf : MethodName := ⟨RX5, "levelOf", "(I)I"⟩
abbrev cX5_streetVolume : ByteArray := prog_1_method_18_code
def yX5_streetVolume : MethodName := ⟨RX5, "streetVolume", "(I)I"⟩
abbrev cX5_rainTotal : ByteArray := prog_1_method_19_code
def yX5_rainTotal : MethodName := ⟨RX5, "rainTotal", "()I"⟩
abbrev cX5_riverTotal : ByteArray := prog_1_method_20_code
def yX5_riverTotal : MethodName := ⟨RX5, "riverTotal", "()I"⟩
abbrev cX5_heldTotal : ByteArray := prog_1_method_21_code
def yX5_heldTotal : MethodName := ⟨RX5, "heldTotal", "()I"⟩
abbrev cX5_isBalanced : ByteArray := prog_1_method_22_code
def yX5_isBalanced : MethodName := ⟨RX5, "isBalanced", "()Z"⟩
abbrev cX5_depthAt : ByteArray := prog_1_method_23_code
def yX5_depthAt : MethodName := ⟨RX5, "depthAt", "(II)I"⟩
abbrev cX5_depthByPouring : ByteArray := prog_1_method_24_code
def yX5_depthByPouring : MethodName := ⟨RX5, "depthByPouring", "(II)I"⟩
abbrev cX5_depthThen : ByteArray := prog_1_method_25_code
def yX5_depthThen : MethodName := ⟨RX5, "depthThen", "(III)I"⟩
abbrev cX5_wetCells : ByteArray := prog_1_method_26_code
def yX5_wetCells : MethodName := ⟨RX5, "wetCells", "(I)I"⟩
abbrev cX5_wetHours : ByteArray := prog_1_method_27_code
def yX5_wetHours : MethodName := ⟨RX5, "wetHours", "(II)I"⟩
abbrev cX5_floodedSoFar : ByteArray := prog_1_method_28_code
def yX5_floodedSoFar : MethodName := ⟨RX5, "floodedSoFar", "()I"⟩
abbrev cX5_addHouse : ByteArray := prog_1_method_29_code
def yX5_addHouse : MethodName := ⟨RX5, "addHouse", "(IIII)I"⟩
abbrev cX5_houseCount : ByteArray := prog_1_method_30_code
def yX5_houseCount : MethodName := ⟨RX5, "houseCount", "()I"⟩
abbrev cX5_wasWet : ByteArray := prog_1_method_31_code
def yX5_wasWet : MethodName := ⟨RX5, "wasWet", "(II)Z"⟩
abbrev cX5_worthOf : ByteArray := prog_1_method_32_code
def yX5_worthOf : MethodName := ⟨RX5, "worthOf", "(II)I"⟩
abbrev cX5_claim : ByteArray := prog_1_method_33_code
def yX5_claim : MethodName := ⟨RX5, "claim", "(II)I"⟩
abbrev cX5_claimWorst : ByteArray := prog_1_method_34_code
def yX5_claimWorst : MethodName := ⟨RX5, "claimWorst", "(I)I"⟩
abbrev cX5_claimCount : ByteArray := prog_1_method_35_code
def yX5_claimCount : MethodName := ⟨RX5, "claimCount", "(I)I"⟩
abbrev cX5_paidTo : ByteArray := prog_1_method_36_code
def yX5_paidTo : MethodName := ⟨RX5, "paidTo", "(I)I"⟩
abbrev cX5_paidTotal : ByteArray := prog_1_method_37_code
def yX5_paidTotal : MethodName := ⟨RX5, "paidTotal", "()J"⟩
abbrev cX5_meanPayment : ByteArray := prog_1_method_38_code
def yX5_meanPayment : MethodName := ⟨RX5, "meanPayment", "()D"⟩
abbrev cX5_floodedWith : ByteArray := prog_1_method_39_code
def yX5_floodedWith : MethodName := ⟨RX5, "floodedWith", "()I"⟩
abbrev cX5_floodedWithOpening : ByteArray := prog_1_method_40_code
def yX5_floodedWithOpening : MethodName := ⟨RX5, "floodedWithOpening", "(II)I"⟩
abbrev cX5_bestOpening : ByteArray := prog_1_method_41_code
def yX5_bestOpening : MethodName := ⟨RX5, "bestOpening", "(I)I"⟩
abbrev cX5_writeRule : ByteArray := prog_1_method_42_code
def yX5_writeRule : MethodName := ⟨RX5, "writeRule", "(I)I"⟩
abbrev cX5_lineAt : ByteArray := prog_1_method_43_code
def yX5_lineAt : MethodName := ⟨RX5, "lineAt", "(I)C"⟩
abbrev cX5_isWithin : ByteArray := prog_1_method_44_code
def yX5_isWithin : MethodName := ⟨RX5, "isWithin", "(III)Z"⟩
abbrev cX5_requireHeight : ByteArray := prog_1_method_45_code
def yX5_requireHeight : MethodName := ⟨RX5, "requireHeight", "(I)V"⟩
abbrev cX5_requireOpening : ByteArray := prog_1_method_46_code
def yX5_requireOpening : MethodName := ⟨RX5, "requireOpening", "(I)V"⟩
abbrev cX5_requireBeforeFirstHour : ByteArray := prog_1_method_47_code
def yX5_requireBeforeFirstHour : MethodName := ⟨RX5, "requireBeforeFirstHour", "()V"⟩
abbrev cX5_requireHour : ByteArray := prog_1_method_48_code
def yX5_requireHour : MethodName := ⟨RX5, "requireHour", "(I)V"⟩
abbrev cX5_requireBasin : ByteArray := prog_1_method_49_code
def yX5_requireBasin : MethodName := ⟨RX5, "requireBasin", "(I)V"⟩
abbrev cX5_requireRule : ByteArray := prog_1_method_50_code
def yX5_requireRule : MethodName := ⟨RX5, "requireRule", "(I)V"⟩
abbrev cX5_basinOf : ByteArray := prog_1_method_51_code
def yX5_basinOf : MethodName := ⟨RX5, "basinOf", "(I)LStormBasin$Basin;"⟩
abbrev cX5_streetWith : ByteArray := prog_1_method_52_code
def yX5_streetWith : MethodName := ⟨RX5, "streetWith", "(II)LStormBasin$Street;"⟩
abbrev cX5_houseOf : ByteArray := prog_1_method_53_code
def yX5_houseOf : MethodName := ⟨RX5, "houseOf", "(I)LStormBasin$House;"⟩
abbrev cX5_passOneHour : ByteArray := prog_1_method_54_code
def yX5_passOneHour : MethodName := ⟨RX5, "passOneHour", "()V"⟩
abbrev cX5_tryPastRain : ByteArray := prog_1_method_55_code
def yX5_tryPastRain : MethodName := ⟨RX5, "tryPastRain", "(II)I"⟩
abbrev cX5_moveWater : ByteArray := prog_1_method_56_code
def yX5_moveWater : MethodName := ⟨RX5, "moveWater", "(LStormBasin$Water;III)V"⟩
abbrev cX5_openingBy : ByteArray := prog_1_method_57_code
def yX5_openingBy : MethodName := ⟨RX5, "openingBy", "(LStormBasin$Water;I)I"⟩
abbrev cX5_holdsBy : ByteArray := prog_1_method_58_code
def yX5_holdsBy : MethodName := ⟨RX5, "holdsBy", "(LStormBasin$Water;LStormBasin$Rule;)Z"⟩
abbrev cX5_levelBy : ByteArray := prog_1_method_59_code
def yX5_levelBy : MethodName := ⟨RX5, "levelBy", "(LStormBasin$Water;I)I"⟩
abbrev cX5_wetCellsBy : ByteArray := prog_1_method_60_code
def yX5_wetCellsBy : MethodName := ⟨RX5, "wetCellsBy", "(LStormBasin$Water;)I"⟩
def RX6 : String := "StormBasinModel"
def TX6 : u_T := fun k => match k with
  | 0 => ("StormBasinModel", "basins", "I", false)
  | 1 => ("StormBasinModel", "areas", "[I", true)
  | 2 => ("StormBasinModel", "depths", "[I", true)
  | 3 => ("StormBasinModel", "widths", "[I", true)
  | 4 => ("StormBasinModel", "belows", "[I", true)
  | 5 => ("StormBasinModel", "hands", "[I", true)
  | 6 => ("StormBasinModel", "rains", "[I", true)
  | 7 => ("StormBasinModel", "cells", "[I", true)
  | 8 => ("StormBasinModel", "heights", "[I", true)
  | 9 => ("StormBasinModel", "volumes", "[I", true)
  | 10 => ("StormBasinModel", "streets", "[I", true)
  | 11 => ("StormBasinModel", "tryVolumes", "[I", true)
  | 12 => ("StormBasinModel", "tryStreets", "[I", true)
  | 13 => ("StormBasinModel", "outs", "[I", true)
  | 14 => ("StormBasinModel", "rules", "I", false)
  | 15 => ("StormBasinModel", "gates", "[I", true)
  | 16 => ("StormBasinModel", "observed", "[I", true)
  | 17 => ("StormBasinModel", "areFrom", "[Z", true)
  | 18 => ("StormBasinModel", "levels", "[I", true)
  | 19 => ("StormBasinModel", "openings", "[I", true)
  | 20 => ("StormBasinModel", "clock", "I", false)
  | 21 => ("StormBasinModel", "fallen", "I", false)
  | 22 => ("StormBasinModel", "river", "I", false)
  | 23 => ("StormBasinModel", "rainThen", "[I", true)
  | 24 => ("StormBasinModel", "streetThen", "[I", true)
  | 25 => ("StormBasinModel", "houses", "I", false)
  | 26 => ("StormBasinModel", "houseBasins", "[I", true)
  | 27 => ("StormBasinModel", "houseCells", "[I", true)
  | 28 => ("StormBasinModel", "rates", "[I", true)
  | 29 => ("StormBasinModel", "covers", "[I", true)
  | 30 => ("StormBasinModel", "paid", "[I", true)
  | 31 => ("StormBasinModel", "areClaimed", "[Z", true)
  | 32 => ("StormBasinModel", "claims", "I", false)
  | 33 => ("StormBasinModel", "fixedBasin", "I", false)
  | 34 => ("StormBasinModel", "fixedOpening", "I", false)
  | 35 => ("StormBasinModel", "line", "[C", true)
  | 36 => ("StormBasinModel", "length", "I", false)
  | _ => ("StormBasinModel", "code", "I", false)
def tyX6 : Nat → FieldType := fun k => match k with
  | 0 => .int
  | 1 => .array .int
  | 2 => .array .int
  | 3 => .array .int
  | 4 => .array .int
  | 5 => .array .int
  | 6 => .array .int
  | 7 => .array .int
  | 8 => .array .int
  | 9 => .array .int
  | 10 => .array .int
  | 11 => .array .int
  | 12 => .array .int
  | 13 => .array .int
  | 14 => .int
  | 15 => .array .int
  | 16 => .array .int
  | 17 => .array .boolean
  | 18 => .array .int
  | 19 => .array .int
  | 20 => .int
  | 21 => .int
  | 22 => .int
  | 23 => .array .int
  | 24 => .array .int
  | 25 => .int
  | 26 => .array .int
  | 27 => .array .int
  | 28 => .array .int
  | 29 => .array .int
  | 30 => .array .int
  | 31 => .array .boolean
  | 32 => .int
  | 33 => .int
  | 34 => .int
  | 35 => .array .char
  | 36 => .int
  | _ => .int
abbrev wsX60 : List Cond := u_ws RX6 TX6 38
theorem nmX6 : ∀ a, a < 38 → ∀ b, b < 38 → a ≠ b → (TX6 a).2.1 ≠ (TX6 b).2.1 := by decide +kernel
theorem tyX6_ok : ∀ k, k < 38 → parseFieldDescriptor (TX6 k).2.2.1 = some (tyX6 k) := by decide +kernel
abbrev cX6_init : ByteArray := prog_8_method_1_code
def yX6_init : MethodName := ⟨RX6, "<init>", "()V"⟩
abbrev cX6_thrown : ByteArray := prog_8_method_2_code
def yX6_thrown : MethodName := ⟨RX6, "thrown", "()I"⟩
abbrev cX6_fails : ByteArray := prog_8_method_3_code
def yX6_fails : MethodName := ⟨RX6, "fails", "(I)Z"⟩
abbrev cX6_tells : ByteArray := prog_8_method_4_code
def yX6_tells : MethodName := ⟨RX6, "tells", "(I)I"⟩
abbrev cX6_in : ByteArray := prog_8_method_5_code
def yX6_in : MethodName := ⟨RX6, "in", "(III)Z"⟩
abbrev cX6_lesser : ByteArray := prog_8_method_6_code
def yX6_lesser : MethodName := ⟨RX6, "lesser", "(II)I"⟩
abbrev cX6_isNone : ByteArray := prog_8_method_7_code
def yX6_isNone : MethodName := ⟨RX6, "isNone", "(I)Z"⟩
abbrev cX6_isNoCell : ByteArray := prog_8_method_8_code
def yX6_isNoCell : MethodName := ⟨RX6, "isNoCell", "(II)Z"⟩
abbrev cX6_isNoRule : ByteArray := prog_8_method_9_code
def yX6_isNoRule : MethodName := ⟨RX6, "isNoRule", "(I)Z"⟩
abbrev cX6_isNoHouse : ByteArray := prog_8_method_10_code
def yX6_isNoHouse : MethodName := ⟨RX6, "isNoHouse", "(I)Z"⟩
abbrev cX6_addBasin : ByteArray := prog_8_method_11_code
def yX6_addBasin : MethodName := ⟨RX6, "addBasin", "(IIIII)I"⟩
abbrev cX6_addCell : ByteArray := prog_8_method_12_code
def yX6_addCell : MethodName := ⟨RX6, "addCell", "(II)I"⟩
abbrev cX6_basinCount : ByteArray := prog_8_method_13_code
def yX6_basinCount : MethodName := ⟨RX6, "basinCount", "()I"⟩
abbrev cX6_cellCount : ByteArray := prog_8_method_14_code
def yX6_cellCount : MethodName := ⟨RX6, "cellCount", "(I)I"⟩
abbrev cX6_holds : ByteArray := prog_8_method_15_code
def yX6_holds : MethodName := ⟨RX6, "holds", "(I)I"⟩
abbrev cX6_capacityOf : ByteArray := prog_8_method_16_code
def yX6_capacityOf : MethodName := ⟨RX6, "capacityOf", "(I)I"⟩
abbrev cX6_setHand : ByteArray := prog_8_method_17_code
def yX6_setHand : MethodName := ⟨RX6, "setHand", "(II)I"⟩
abbrev cX6_addRule : ByteArray := prog_8_method_18_code
def yX6_addRule : MethodName := ⟨RX6, "addRule", "(IIZII)I"⟩
abbrev cX6_removeRule : ByteArray := prog_8_method_19_code
def yX6_removeRule : MethodName := ⟨RX6, "removeRule", "(I)I"⟩
abbrev cX6_ruleCount : ByteArray := prog_8_method_20_code
def yX6_ruleCount : MethodName := ⟨RX6, "ruleCount", "()I"⟩
abbrev cX6_isTrue : ByteArray := prog_8_method_21_code
def yX6_isTrue : MethodName := ⟨RX6, "isTrue", "(I[I)Z"⟩
abbrev cX6_doesHold : ByteArray := prog_8_method_22_code
def yX6_doesHold : MethodName := ⟨RX6, "doesHold", "(I)Z"⟩
abbrev cX6_opening : ByteArray := prog_8_method_23_code
def yX6_opening : MethodName := ⟨RX6, "opening", "(I[I)I"⟩
abbrev cX6_openingNow : ByteArray := prog_8_method_24_code
def yX6_openingNow : MethodName := ⟨RX6, "openingNow", "(I)I"⟩
abbrev cX6_setRain : ByteArray := prog_8_method_25_code
def yX6_setRain : MethodName := ⟨RX6, "setRain", "(II)I"⟩
abbrev cX6_flows : ByteArray := prog_8_method_26_code
def yX6_flows : MethodName := ⟨RX6, "flows", "([I[I)I"⟩
abbrev cX6_pass : ByteArray := prog_8_method_27_code
def yX6_pass : MethodName := ⟨RX6, "pass", "(I)I"⟩
abbrev cX6_clock : ByteArray := prog_8_method_28_code
def yX6_clock : MethodName := ⟨RX6, "clock", "()I"⟩
abbrev cX6_volumeOf : ByteArray := prog_8_method_29_code
def yX6_volumeOf : MethodName := ⟨RX6, "volumeOf", "(I)I"⟩
abbrev cX6_levelOf : ByteArray := prog_8_method_30_code
def yX6_levelOf : MethodName := ⟨RX6, "levelOf", "(I)I"⟩
abbrev cX6_streetVolume : ByteArray := prog_8_method_31_code
def yX6_streetVolume : MethodName := ⟨RX6, "streetVolume", "(I)I"⟩
abbrev cX6_rainTotal : ByteArray := prog_8_method_32_code
def yX6_rainTotal : MethodName := ⟨RX6, "rainTotal", "()I"⟩
abbrev cX6_riverTotal : ByteArray := prog_8_method_33_code
def yX6_riverTotal : MethodName := ⟨RX6, "riverTotal", "()I"⟩
abbrev cX6_held : ByteArray := prog_8_method_34_code
def yX6_held : MethodName := ⟨RX6, "held", "()I"⟩
abbrev cX6_heldTotal : ByteArray := prog_8_method_35_code
def yX6_heldTotal : MethodName := ⟨RX6, "heldTotal", "()I"⟩
abbrev cX6_isBalanced : ByteArray := prog_8_method_36_code
def yX6_isBalanced : MethodName := ⟨RX6, "isBalanced", "()Z"⟩
abbrev cX6_upTo : ByteArray := prog_8_method_37_code
def yX6_upTo : MethodName := ⟨RX6, "upTo", "(II)I"⟩
abbrev cX6_heightOf : ByteArray := prog_8_method_38_code
def yX6_heightOf : MethodName := ⟨RX6, "heightOf", "(II)I"⟩
abbrev cX6_depth : ByteArray := prog_8_method_39_code
def yX6_depth : MethodName := ⟨RX6, "depth", "(III)I"⟩
abbrev cX6_deep : ByteArray := prog_8_method_40_code
def yX6_deep : MethodName := ⟨RX6, "deep", "(II)I"⟩
abbrev cX6_depthAt : ByteArray := prog_8_method_41_code
def yX6_depthAt : MethodName := ⟨RX6, "depthAt", "(II)I"⟩
abbrev cX6_depthByPouring : ByteArray := prog_8_method_42_code
def yX6_depthByPouring : MethodName := ⟨RX6, "depthByPouring", "(II)I"⟩
abbrev cX6_then : ByteArray := prog_8_method_43_code
def yX6_then : MethodName := ⟨RX6, "then", "(III)I"⟩
abbrev cX6_depthThen : ByteArray := prog_8_method_44_code
def yX6_depthThen : MethodName := ⟨RX6, "depthThen", "(III)I"⟩
abbrev cX6_wet : ByteArray := prog_8_method_45_code
def yX6_wet : MethodName := ⟨RX6, "wet", "(II)I"⟩
abbrev cX6_wetCells : ByteArray := prog_8_method_46_code
def yX6_wetCells : MethodName := ⟨RX6, "wetCells", "(I)I"⟩
abbrev cX6_wetHours : ByteArray := prog_8_method_47_code
def yX6_wetHours : MethodName := ⟨RX6, "wetHours", "(II)I"⟩
abbrev cX6_floodedSoFar : ByteArray := prog_8_method_48_code
def yX6_floodedSoFar : MethodName := ⟨RX6, "floodedSoFar", "()I"⟩
abbrev cX6_addHouse : ByteArray := prog_8_method_49_code
def yX6_addHouse : MethodName := ⟨RX6, "addHouse", "(IIII)I"⟩
abbrev cX6_houseCount : ByteArray := prog_8_method_50_code
def yX6_houseCount : MethodName := ⟨RX6, "houseCount", "()I"⟩
abbrev cX6_isNoHour : ByteArray := prog_8_method_51_code
def yX6_isNoHour : MethodName := ⟨RX6, "isNoHour", "(II)Z"⟩
abbrev cX6_worth : ByteArray := prog_8_method_52_code
def yX6_worth : MethodName := ⟨RX6, "worth", "(II)I"⟩
abbrev cX6_wasWet : ByteArray := prog_8_method_53_code
def yX6_wasWet : MethodName := ⟨RX6, "wasWet", "(II)Z"⟩
abbrev cX6_worthOf : ByteArray := prog_8_method_54_code
def yX6_worthOf : MethodName := ⟨RX6, "worthOf", "(II)I"⟩
abbrev cX6_pays : ByteArray := prog_8_method_55_code
def yX6_pays : MethodName := ⟨RX6, "pays", "(II)I"⟩
abbrev cX6_claim : ByteArray := prog_8_method_56_code
def yX6_claim : MethodName := ⟨RX6, "claim", "(II)I"⟩
abbrev cX6_claimWorst : ByteArray := prog_8_method_57_code
def yX6_claimWorst : MethodName := ⟨RX6, "claimWorst", "(I)I"⟩
abbrev cX6_claimCount : ByteArray := prog_8_method_58_code
def yX6_claimCount : MethodName := ⟨RX6, "claimCount", "(I)I"⟩
abbrev cX6_paidTo : ByteArray := prog_8_method_59_code
def yX6_paidTo : MethodName := ⟨RX6, "paidTo", "(I)I"⟩
abbrev cX6_allPaid : ByteArray := prog_8_method_60_code
def yX6_allPaid : MethodName := ⟨RX6, "allPaid", "()J"⟩
abbrev cX6_paidTotal : ByteArray := prog_8_method_61_code
def yX6_paidTotal : MethodName := ⟨RX6, "paidTotal", "()J"⟩
abbrev cX6_meanPayment : ByteArray := prog_8_method_62_code
def yX6_meanPayment : MethodName := ⟨RX6, "meanPayment", "()D"⟩
abbrev cX6_trial : ByteArray := prog_8_method_63_code
def yX6_trial : MethodName := ⟨RX6, "trial", "(II)I"⟩
abbrev cX6_floodedWith : ByteArray := prog_8_method_64_code
def yX6_floodedWith : MethodName := ⟨RX6, "floodedWith", "()I"⟩
abbrev cX6_floodedWithOpening : ByteArray := prog_8_method_65_code
def yX6_floodedWithOpening : MethodName := ⟨RX6, "floodedWithOpening", "(II)I"⟩
abbrev cX6_bestOpening : ByteArray := prog_8_method_66_code
def yX6_bestOpening : MethodName := ⟨RX6, "bestOpening", "(I)I"⟩
abbrev cX6_puts : ByteArray := prog_8_method_67_code
def yX6_puts : MethodName := ⟨RX6, "puts", "(C)V"⟩
abbrev cX6_putsNumber : ByteArray := prog_8_method_68_code
def yX6_putsNumber : MethodName := ⟨RX6, "putsNumber", "(I)V"⟩
abbrev cX6_writeRule : ByteArray := prog_8_method_69_code
def yX6_writeRule : MethodName := ⟨RX6, "writeRule", "(I)I"⟩
abbrev cX6_lineAt : ByteArray := prog_8_method_70_code
def yX6_lineAt : MethodName := ⟨RX6, "lineAt", "(I)C"⟩
def RJx145de : String := "java/io/Serializable"
def TJx145de : u_T := fun k => match k with
  | _ => ("", "", "", false)
def tyJx145de : Nat → FieldType := fun k => match k with
  | _ => .int
abbrev wsJx145de0 : List Cond := u_ws RJx145de TJx145de 0
theorem nmJx145de : ∀ a, a < 0 → ∀ b, b < 0 → a ≠ b → (TJx145de a).2.1 ≠ (TJx145de b).2.1 := by decide +kernel
theorem tyJx145de_ok : ∀ k, k < 0 → parseFieldDescriptor (TJx145de k).2.2.1 = some (tyJx145de k) := by decide +kernel
def RJ5 : String := "java/lang/AbstractStringBuilder"
def TJ5 : u_T := fun k => match k with
  | _ => ("", "", "", false)
def tyJ5 : Nat → FieldType := fun k => match k with
  | _ => .int
abbrev wsJ50 : List Cond := u_ws RJ5 TJ5 0
theorem nmJ5 : ∀ a, a < 0 → ∀ b, b < 0 → a ≠ b → (TJ5 a).2.1 ≠ (TJ5 b).2.1 := by decide +kernel
theorem tyJ5_ok : ∀ k, k < 0 → parseFieldDescriptor (TJ5 k).2.2.1 = some (tyJ5 k) := by decide +kernel
abbrev cJ5_init_d00df : ByteArray := prog_10_method_2_code
def yJ5_init_d00df : MethodName := ⟨RJ5, "<init>", "(I)V"⟩
abbrev cJ5_length_8abf5 : ByteArray := prog_10_method_6_code
def yJ5_length_8abf5 : MethodName := ⟨RJ5, "length", "()I"⟩
abbrev cJ5_ensureCapacityInternal_d00df : ByteArray := prog_10_method_9_code
def yJ5_ensureCapacityInternal_d00df : MethodName := ⟨RJ5, "ensureCapacityInternal", "(I)V"⟩
abbrev cJ5_newCapacity_0f7a4 : ByteArray := prog_10_method_10_code
def yJ5_newCapacity_0f7a4 : MethodName := ⟨RJ5, "newCapacity", "(I)I"⟩
abbrev cJ5_inflate_da8c8 : ByteArray := prog_10_method_11_code
def yJ5_inflate_da8c8 : MethodName := ⟨RJ5, "inflate", "()V"⟩
abbrev cJ5_setLength_d00df : ByteArray := prog_10_method_13_code
def yJ5_setLength_d00df : MethodName := ⟨RJ5, "setLength", "(I)V"⟩
abbrev cJ5_charAt_5068e : ByteArray := prog_10_method_14_code
def yJ5_charAt_5068e : MethodName := ⟨RJ5, "charAt", "(I)C"⟩
abbrev cJ5_append_cf1ce : ByteArray := prog_10_method_22_code
def yJ5_append_cf1ce : MethodName := ⟨RJ5, "append", "(Ljava/lang/String;)Ljava/lang/AbstractStringBuilder;"⟩
abbrev cJ5_appendNull_278bc : ByteArray := prog_10_method_26_code
def yJ5_appendNull_278bc : MethodName := ⟨RJ5, "appendNull", "()Ljava/lang/AbstractStringBuilder;"⟩
abbrev cJ5_append_3fe6f : ByteArray := prog_10_method_31_code
def yJ5_append_3fe6f : MethodName := ⟨RJ5, "append", "(C)Ljava/lang/AbstractStringBuilder;"⟩
abbrev cJ5_append_c97b9 : ByteArray := prog_10_method_32_code
def yJ5_append_c97b9 : MethodName := ⟨RJ5, "append", "(I)Ljava/lang/AbstractStringBuilder;"⟩
abbrev cJ5_getValue_6d5f1 : ByteArray := prog_10_method_64_code
def yJ5_getValue_6d5f1 : MethodName := ⟨RJ5, "getValue", "()[B"⟩
abbrev cJ5_isLatin1_aae02 : ByteArray := prog_10_method_68_code
def yJ5_isLatin1_aae02 : MethodName := ⟨RJ5, "isLatin1", "()Z"⟩
abbrev cJ5_inflateIfNeededFor_a7421 : ByteArray := prog_10_method_71_code
def yJ5_inflateIfNeededFor_a7421 : MethodName := ⟨RJ5, "inflateIfNeededFor", "(Ljava/lang/String;)V"⟩
abbrev cJ5_putStringAt_47b60 : ByteArray := prog_10_method_73_code
def yJ5_putStringAt_47b60 : MethodName := ⟨RJ5, "putStringAt", "(ILjava/lang/String;)V"⟩
def RJx2cfe8 : String := "java/lang/Appendable"
def TJx2cfe8 : u_T := fun k => match k with
  | _ => ("", "", "", false)
def tyJx2cfe8 : Nat → FieldType := fun k => match k with
  | _ => .int
abbrev wsJx2cfe80 : List Cond := u_ws RJx2cfe8 TJx2cfe8 0
theorem nmJx2cfe8 : ∀ a, a < 0 → ∀ b, b < 0 → a ≠ b → (TJx2cfe8 a).2.1 ≠ (TJx2cfe8 b).2.1 := by decide +kernel
theorem tyJx2cfe8_ok : ∀ k, k < 0 → parseFieldDescriptor (TJx2cfe8 k).2.2.1 = some (tyJx2cfe8 k) := by decide +kernel
def RJx00060 : String := "java/lang/ArrayIndexOutOfBoundsException"
def TJx00060 : u_T := fun k => match k with
  | 0 => ("java/lang/Throwable", "backtrace", "Ljava/lang/Object;", false)
  | 1 => ("java/lang/Throwable", "detailMessage", "Ljava/lang/String;", false)
  | 2 => ("java/lang/Throwable", "cause", "Ljava/lang/Throwable;", false)
  | 3 => ("java/lang/Throwable", "stackTrace", "[Ljava/lang/StackTraceElement;", false)
  | 4 => ("java/lang/Throwable", "depth", "I", false)
  | _ => ("java/lang/Throwable", "suppressedExceptions", "Ljava/util/List;", false)
def tyJx00060 : Nat → FieldType := fun k => match k with
  | 0 => .object "java/lang/Object"
  | 1 => .object "java/lang/String"
  | 2 => .object "java/lang/Throwable"
  | 3 => .array (.object "java/lang/StackTraceElement")
  | 4 => .int
  | _ => .object "java/util/List"
abbrev wsJx000600 : List Cond := u_ws RJx00060 TJx00060 6
theorem nmJx00060 : ∀ a, a < 6 → ∀ b, b < 6 → a ≠ b → (TJx00060 a).2.1 ≠ (TJx00060 b).2.1 := by decide +kernel
theorem tyJx00060_ok : ∀ k, k < 6 → parseFieldDescriptor (TJx00060 k).2.2.1 = some (tyJx00060 k) := by decide +kernel
abbrev cJx00060_init_a7421 : ByteArray := prog_13_method_2_code
def yJx00060_init_a7421 : MethodName := ⟨RJx00060, "<init>", "(Ljava/lang/String;)V"⟩
abbrev cJx00060_init_d00df : ByteArray := prog_13_method_3_code
def yJx00060_init_d00df : MethodName := ⟨RJx00060, "<init>", "(I)V"⟩
def RJx9f9b0 : String := "java/lang/CharSequence"
def TJx9f9b0 : u_T := fun k => match k with
  | _ => ("", "", "", false)
def tyJx9f9b0 : Nat → FieldType := fun k => match k with
  | _ => .int
abbrev wsJx9f9b00 : List Cond := u_ws RJx9f9b0 TJx9f9b0 0
theorem nmJx9f9b0 : ∀ a, a < 0 → ∀ b, b < 0 → a ≠ b → (TJx9f9b0 a).2.1 ≠ (TJx9f9b0 b).2.1 := by decide +kernel
theorem tyJx9f9b0_ok : ∀ k, k < 0 → parseFieldDescriptor (TJx9f9b0 k).2.2.1 = some (tyJx9f9b0 k) := by decide +kernel
def RJx8e188 : String := "java/lang/Cloneable"
def TJx8e188 : u_T := fun k => match k with
  | _ => ("", "", "", false)
def tyJx8e188 : Nat → FieldType := fun k => match k with
  | _ => .int
abbrev wsJx8e1880 : List Cond := u_ws RJx8e188 TJx8e188 0
theorem nmJx8e188 : ∀ a, a < 0 → ∀ b, b < 0 → a ≠ b → (TJx8e188 a).2.1 ≠ (TJx8e188 b).2.1 := by decide +kernel
theorem tyJx8e188_ok : ∀ k, k < 0 → parseFieldDescriptor (TJx8e188 k).2.2.1 = some (tyJx8e188 k) := by decide +kernel
def RJxb160c : String := "java/lang/Comparable"
def TJxb160c : u_T := fun k => match k with
  | _ => ("", "", "", false)
def tyJxb160c : Nat → FieldType := fun k => match k with
  | _ => .int
abbrev wsJxb160c0 : List Cond := u_ws RJxb160c TJxb160c 0
theorem nmJxb160c : ∀ a, a < 0 → ∀ b, b < 0 → a ≠ b → (TJxb160c a).2.1 ≠ (TJxb160c b).2.1 := by decide +kernel
theorem tyJxb160c_ok : ∀ k, k < 0 → parseFieldDescriptor (TJxb160c k).2.2.1 = some (tyJxb160c k) := by decide +kernel
def RJ6 : String := "java/lang/Integer"
def TJ6 : u_T := fun k => match k with
  | _ => ("", "", "", false)
def tyJ6 : Nat → FieldType := fun k => match k with
  | _ => .int
abbrev wsJ60 : List Cond := u_ws RJ6 TJ6 0
theorem nmJ6 : ∀ a, a < 0 → ∀ b, b < 0 → a ≠ b → (TJ6 a).2.1 ≠ (TJ6 b).2.1 := by decide +kernel
theorem tyJ6_ok : ∀ k, k < 0 → parseFieldDescriptor (TJ6 k).2.2.1 = some (tyJ6 k) := by decide +kernel
abbrev cJ6_getChars_ba4f3 : ByteArray := prog_21_method_12_code
def yJ6_getChars_ba4f3 : MethodName := ⟨RJ6, "getChars", "(II[B)I"⟩
abbrev cJ6_stringSize_0f7a4 : ByteArray := prog_21_method_13_code
def yJ6_stringSize_0f7a4 : MethodName := ⟨RJ6, "stringSize", "(I)I"⟩
def RJxab1ab : String := "java/lang/Iterable"
def TJxab1ab : u_T := fun k => match k with
  | _ => ("", "", "", false)
def tyJxab1ab : Nat → FieldType := fun k => match k with
  | _ => .int
abbrev wsJxab1ab0 : List Cond := u_ws RJxab1ab TJxab1ab 0
theorem nmJxab1ab : ∀ a, a < 0 → ∀ b, b < 0 → a ≠ b → (TJxab1ab a).2.1 ≠ (TJxab1ab b).2.1 := by decide +kernel
theorem tyJxab1ab_ok : ∀ k, k < 0 → parseFieldDescriptor (TJxab1ab k).2.2.1 = some (tyJxab1ab k) := by decide +kernel
def RJ9 : String := "java/lang/Math"
def TJ9 : u_T := fun k => match k with
  | _ => ("", "", "", false)
def tyJ9 : Nat → FieldType := fun k => match k with
  | _ => .int
abbrev wsJ90 : List Cond := u_ws RJ9 TJ9 0
theorem nmJ9 : ∀ a, a < 0 → ∀ b, b < 0 → a ≠ b → (TJ9 a).2.1 ≠ (TJ9 b).2.1 := by decide +kernel
theorem tyJ9_ok : ∀ k, k < 0 → parseFieldDescriptor (TJ9 k).2.2.1 = some (tyJ9 k) := by decide +kernel
abbrev cJ9_max_7cf53 : ByteArray := prog_23_method_65_code
def yJ9_max_7cf53 : MethodName := ⟨RJ9, "max", "(II)I"⟩
abbrev cJ9_min_7cf53 : ByteArray := prog_23_method_69_code
def yJ9_min_7cf53 : MethodName := ⟨RJ9, "min", "(II)I"⟩
def RJxd2413 : String := "java/lang/Number"
def TJxd2413 : u_T := fun k => match k with
  | _ => ("", "", "", false)
def tyJxd2413 : Nat → FieldType := fun k => match k with
  | _ => .int
abbrev wsJxd24130 : List Cond := u_ws RJxd2413 TJxd2413 0
theorem nmJxd2413 : ∀ a, a < 0 → ∀ b, b < 0 → a ≠ b → (TJxd2413 a).2.1 ≠ (TJxd2413 b).2.1 := by decide +kernel
theorem tyJxd2413_ok : ∀ k, k < 0 → parseFieldDescriptor (TJxd2413 k).2.2.1 = some (tyJxd2413 k) := by decide +kernel
def RJ0 : String := "java/lang/String"
def TJ0 : u_T := fun k => match k with
  | 0 => ("java/lang/String", "value", "[B", true)
  | 1 => ("java/lang/String", "coder", "B", true)
  | 2 => ("java/lang/String", "hash", "I", false)
  | _ => ("java/lang/String", "hashIsZero", "Z", false)
def tyJ0 : Nat → FieldType := fun k => match k with
  | 0 => .array .byte
  | 1 => .byte
  | 2 => .int
  | _ => .boolean
abbrev wsJ00 : List Cond := u_ws RJ0 TJ0 4
theorem nmJ0 : ∀ a, a < 4 → ∀ b, b < 4 → a ≠ b → (TJ0 a).2.1 ≠ (TJ0 b).2.1 := by decide +kernel
theorem tyJ0_ok : ∀ k, k < 4 → parseFieldDescriptor (TJ0 k).2.2.1 = some (tyJ0 k) := by decide +kernel
abbrev cJ0_init_81219 : ByteArray := prog_26_method_53_code
def yJ0_init_81219 : MethodName := ⟨RJ0, "<init>", "(Ljava/lang/StringBuilder;)V"⟩
abbrev cJ0_length_8abf5 : ByteArray := prog_26_method_54_code
def yJ0_length_8abf5 : MethodName := ⟨RJ0, "length", "()I"⟩
abbrev cJ0_getBytes_840e7 : ByteArray := prog_26_method_147_code
def yJ0_getBytes_840e7 : MethodName := ⟨RJ0, "getBytes", "([BIB)V"⟩
abbrev cJ0_init_db425 : ByteArray := prog_26_method_150_code
def yJ0_init_db425 : MethodName := ⟨RJ0, "<init>", "(Ljava/lang/AbstractStringBuilder;Ljava/lang/Void;)V"⟩
abbrev cJ0_coder_7d493 : ByteArray := prog_26_method_152_code
def yJ0_coder_7d493 : MethodName := ⟨RJ0, "coder", "()B"⟩
abbrev cJ0_checkIndex_df160 : ByteArray := prog_26_method_155_code
def yJ0_checkIndex_df160 : MethodName := ⟨RJ0, "checkIndex", "(II)V"⟩
abbrev cJ0_checkBoundsOffCount_cabcc : ByteArray := prog_26_method_157_code
def yJ0_checkBoundsOffCount_cabcc : MethodName := ⟨RJ0, "checkBoundsOffCount", "(III)I"⟩
abbrev cJ0_checkBoundsBeginEnd_23922 : ByteArray := prog_26_method_158_code
def yJ0_checkBoundsBeginEnd_23922 : MethodName := ⟨RJ0, "checkBoundsBeginEnd", "(III)V"⟩
def RJ4 : String := "java/lang/StringBuilder"
def TJ4 : u_T := fun k => match k with
  | 0 => ("java/lang/AbstractStringBuilder", "value", "[B", false)
  | 1 => ("java/lang/AbstractStringBuilder", "coder", "B", false)
  | 2 => ("java/lang/AbstractStringBuilder", "maybeLatin1", "Z", false)
  | _ => ("java/lang/AbstractStringBuilder", "count", "I", false)
def tyJ4 : Nat → FieldType := fun k => match k with
  | 0 => .array .byte
  | 1 => .byte
  | 2 => .boolean
  | _ => .int
abbrev wsJ40 : List Cond := u_ws RJ4 TJ4 4
theorem nmJ4 : ∀ a, a < 4 → ∀ b, b < 4 → a ≠ b → (TJ4 a).2.1 ≠ (TJ4 b).2.1 := by decide +kernel
theorem tyJ4_ok : ∀ k, k < 4 → parseFieldDescriptor (TJ4 k).2.2.1 = some (tyJ4 k) := by decide +kernel
abbrev cJ4_init_da8c8 : ByteArray := prog_27_method_1_code
def yJ4_init_da8c8 : MethodName := ⟨RJ4, "<init>", "()V"⟩
abbrev cJ4_append_15ec4 : ByteArray := prog_27_method_7_code
def yJ4_append_15ec4 : MethodName := ⟨RJ4, "append", "(Ljava/lang/String;)Ljava/lang/StringBuilder;"⟩
abbrev cJ4_append_cf468 : ByteArray := prog_27_method_14_code
def yJ4_append_cf468 : MethodName := ⟨RJ4, "append", "(C)Ljava/lang/StringBuilder;"⟩
abbrev cJ4_append_bf812 : ByteArray := prog_27_method_15_code
def yJ4_append_bf812 : MethodName := ⟨RJ4, "append", "(I)Ljava/lang/StringBuilder;"⟩
abbrev cJ4_toString_0e30d : ByteArray := prog_27_method_42_code
def yJ4_toString_0e30d : MethodName := ⟨RJ4, "toString", "()Ljava/lang/String;"⟩
abbrev cJ4_charAt_5068e : ByteArray := prog_27_method_88_code
def yJ4_charAt_5068e : MethodName := ⟨RJ4, "charAt", "(I)C"⟩
abbrev cJ4_setLength_d00df : ByteArray := prog_27_method_89_code
def yJ4_setLength_d00df : MethodName := ⟨RJ4, "setLength", "(I)V"⟩
abbrev cJ4_length_8abf5 : ByteArray := prog_27_method_93_code
def yJ4_length_8abf5 : MethodName := ⟨RJ4, "length", "()I"⟩
def RJx7c733 : String := "java/lang/StringIndexOutOfBoundsException"
def TJx7c733 : u_T := fun k => match k with
  | 0 => ("java/lang/Throwable", "backtrace", "Ljava/lang/Object;", false)
  | 1 => ("java/lang/Throwable", "detailMessage", "Ljava/lang/String;", false)
  | 2 => ("java/lang/Throwable", "cause", "Ljava/lang/Throwable;", false)
  | 3 => ("java/lang/Throwable", "stackTrace", "[Ljava/lang/StackTraceElement;", false)
  | 4 => ("java/lang/Throwable", "depth", "I", false)
  | _ => ("java/lang/Throwable", "suppressedExceptions", "Ljava/util/List;", false)
def tyJx7c733 : Nat → FieldType := fun k => match k with
  | 0 => .object "java/lang/Object"
  | 1 => .object "java/lang/String"
  | 2 => .object "java/lang/Throwable"
  | 3 => .array (.object "java/lang/StackTraceElement")
  | 4 => .int
  | _ => .object "java/util/List"
abbrev wsJx7c7330 : List Cond := u_ws RJx7c733 TJx7c733 6
theorem nmJx7c733 : ∀ a, a < 6 → ∀ b, b < 6 → a ≠ b → (TJx7c733 a).2.1 ≠ (TJx7c733 b).2.1 := by decide +kernel
theorem tyJx7c733_ok : ∀ k, k < 6 → parseFieldDescriptor (TJx7c733 k).2.2.1 = some (tyJx7c733 k) := by decide +kernel
abbrev cJx7c733_init_d00df : ByteArray := prog_28_method_3_code
def yJx7c733_init_d00df : MethodName := ⟨RJx7c733, "<init>", "(I)V"⟩
def RJ1 : String := "java/lang/StringLatin1"
def TJ1 : u_T := fun k => match k with
  | _ => ("", "", "", false)
def tyJ1 : Nat → FieldType := fun k => match k with
  | _ => .int
abbrev wsJ10 : List Cond := u_ws RJ1 TJ1 0
theorem nmJ1 : ∀ a, a < 0 → ∀ b, b < 0 → a ≠ b → (TJ1 a).2.1 ≠ (TJ1 b).2.1 := by decide +kernel
theorem tyJ1_ok : ∀ k, k < 0 → parseFieldDescriptor (TJ1 k).2.2.1 = some (tyJ1 k) := by decide +kernel
abbrev cJ1_canEncode_fc78d : ByteArray := prog_29_method_3_code
def yJ1_canEncode_fc78d : MethodName := ⟨RJ1, "canEncode", "(C)Z"⟩
abbrev cJ1_fillNull_b72d1 : ByteArray := prog_29_method_48_code
def yJ1_fillNull_b72d1 : MethodName := ⟨RJ1, "fillNull", "([BII)V"⟩
abbrev cJ1_inflate_0e8fd : ByteArray := prog_29_method_50_code
def yJ1_inflate_0e8fd : MethodName := ⟨RJ1, "inflate", "([BI[BII)V"⟩
def RJ2 : String := "java/lang/StringUTF16"
def TJ2 : u_T := fun k => match k with
  | _ => ("", "", "", false)
def tyJ2 : Nat → FieldType := fun k => match k with
  | _ => .int
abbrev wsJ20 : List Cond := u_ws RJ2 TJ2 0
theorem nmJ2 : ∀ a, a < 0 → ∀ b, b < 0 → a ≠ b → (TJ2 a).2.1 ≠ (TJ2 b).2.1 := by decide +kernel
theorem tyJ2_ok : ∀ k, k < 0 → parseFieldDescriptor (TJ2 k).2.2.1 = some (tyJ2 k) := by decide +kernel
abbrev cJ2_newBytesFor_77867 : ByteArray := prog_30_method_2_code
def yJ2_newBytesFor_77867 : MethodName := ⟨RJ2, "newBytesFor", "(I)[B"⟩
abbrev cJ2_newBytesLength_0f7a4 : ByteArray := prog_30_method_3_code
def yJ2_newBytesLength_0f7a4 : MethodName := ⟨RJ2, "newBytesLength", "(I)I"⟩
abbrev cJ2_putChar_b72d1 : ByteArray := prog_30_method_4_code
def yJ2_putChar_b72d1 : MethodName := ⟨RJ2, "putChar", "([BII)V"⟩
abbrev cJ2_getChar_3b067 : ByteArray := prog_30_method_5_code
def yJ2_getChar_3b067 : MethodName := ⟨RJ2, "getChar", "([BI)C"⟩
abbrev cJ2_length_9d52b : ByteArray := prog_30_method_6_code
def yJ2_length_9d52b : MethodName := ⟨RJ2, "length", "([B)I"⟩
abbrev cJ2_coderFromArrayLen_85cad : ByteArray := prog_30_method_15_code
def yJ2_coderFromArrayLen_85cad : MethodName := ⟨RJ2, "coderFromArrayLen", "([BI)B"⟩
abbrev cJ2_compress_39247 : ByteArray := prog_30_method_17_code
def yJ2_compress_39247 : MethodName := ⟨RJ2, "compress", "([BII)[B"⟩
abbrev cJ2_compress_5af95 : ByteArray := prog_30_method_22_code
def yJ2_compress_5af95 : MethodName := ⟨RJ2, "compress", "([BI[BII)I"⟩
abbrev cJ2_fillNull_b72d1 : ByteArray := prog_30_method_70_code
def yJ2_fillNull_b72d1 : MethodName := ⟨RJ2, "fillNull", "([BII)V"⟩
abbrev cJ2_putCharSB_b72d1 : ByteArray := prog_30_method_71_code
def yJ2_putCharSB_b72d1 : MethodName := ⟨RJ2, "putCharSB", "([BII)V"⟩
abbrev cJ2_getChars_46870 : ByteArray := prog_30_method_77_code
def yJ2_getChars_46870 : MethodName := ⟨RJ2, "getChars", "(III[B)I"⟩
abbrev cJ2_putCharsAt_cd4e5 : ByteArray := prog_30_method_81_code
def yJ2_putCharsAt_cd4e5 : MethodName := ⟨RJ2, "putCharsAt", "([BICCCC)I"⟩
abbrev cJ2_inflate_0e8fd : ByteArray := prog_30_method_86_code
def yJ2_inflate_0e8fd : MethodName := ⟨RJ2, "inflate", "([BI[BII)V"⟩
abbrev cJ2_getChars_ba4f3 : ByteArray := prog_30_method_89_code
def yJ2_getChars_ba4f3 : MethodName := ⟨RJ2, "getChars", "(II[B)I"⟩
abbrev cJ2_checkIndex_2214a : ByteArray := prog_30_method_91_code
def yJ2_checkIndex_2214a : MethodName := ⟨RJ2, "checkIndex", "(I[B)V"⟩
abbrev cJ2_checkBoundsBeginEnd_d044e : ByteArray := prog_30_method_93_code
def yJ2_checkBoundsBeginEnd_d044e : MethodName := ⟨RJ2, "checkBoundsBeginEnd", "(II[B)V"⟩
abbrev cJ2_checkBoundsOffCount_d044e : ByteArray := prog_30_method_94_code
def yJ2_checkBoundsOffCount_d044e : MethodName := ⟨RJ2, "checkBoundsOffCount", "(II[B)V"⟩
def RJ10 : String := "java/lang/System"
def TJ10 : u_T := fun k => match k with
  | _ => ("", "", "", false)
def tyJ10 : Nat → FieldType := fun k => match k with
  | _ => .int
abbrev wsJ100 : List Cond := u_ws RJ10 TJ10 0
theorem nmJ10 : ∀ a, a < 0 → ∀ b, b < 0 → a ≠ b → (TJ10 a).2.1 ≠ (TJ10 b).2.1 := by decide +kernel
theorem tyJ10_ok : ∀ k, k < 0 → parseFieldDescriptor (TJ10 k).2.2.1 = some (tyJ10 k) := by decide +kernel
def RJxfd54e : String := "java/lang/constant/Constable"
def TJxfd54e : u_T := fun k => match k with
  | _ => ("", "", "", false)
def tyJxfd54e : Nat → FieldType := fun k => match k with
  | _ => .int
abbrev wsJxfd54e0 : List Cond := u_ws RJxfd54e TJxfd54e 0
theorem nmJxfd54e : ∀ a, a < 0 → ∀ b, b < 0 → a ≠ b → (TJxfd54e a).2.1 ≠ (TJxfd54e b).2.1 := by decide +kernel
theorem tyJxfd54e_ok : ∀ k, k < 0 → parseFieldDescriptor (TJxfd54e k).2.2.1 = some (tyJxfd54e k) := by decide +kernel
def RJx3cf43 : String := "java/lang/constant/ConstantDesc"
def TJx3cf43 : u_T := fun k => match k with
  | _ => ("", "", "", false)
def tyJx3cf43 : Nat → FieldType := fun k => match k with
  | _ => .int
abbrev wsJx3cf430 : List Cond := u_ws RJx3cf43 TJx3cf43 0
theorem nmJx3cf43 : ∀ a, a < 0 → ∀ b, b < 0 → a ≠ b → (TJx3cf43 a).2.1 ≠ (TJx3cf43 b).2.1 := by decide +kernel
theorem tyJx3cf43_ok : ∀ k, k < 0 → parseFieldDescriptor (TJx3cf43 k).2.2.1 = some (tyJx3cf43 k) := by decide +kernel
def RJxa1e45 : String := "java/util/AbstractCollection"
def TJxa1e45 : u_T := fun k => match k with
  | _ => ("", "", "", false)
def tyJxa1e45 : Nat → FieldType := fun k => match k with
  | _ => .int
abbrev wsJxa1e450 : List Cond := u_ws RJxa1e45 TJxa1e45 0
theorem nmJxa1e45 : ∀ a, a < 0 → ∀ b, b < 0 → a ≠ b → (TJxa1e45 a).2.1 ≠ (TJxa1e45 b).2.1 := by decide +kernel
theorem tyJxa1e45_ok : ∀ k, k < 0 → parseFieldDescriptor (TJxa1e45 k).2.2.1 = some (tyJxa1e45 k) := by decide +kernel
abbrev cJxa1e45_init_da8c8 : ByteArray := prog_36_method_1_code
def yJxa1e45_init_da8c8 : MethodName := ⟨RJxa1e45, "<init>", "()V"⟩
def RJxc12de : String := "java/util/AbstractList"
def TJxc12de : u_T := fun k => match k with
  | _ => ("", "", "", false)
def tyJxc12de : Nat → FieldType := fun k => match k with
  | _ => .int
abbrev wsJxc12de0 : List Cond := u_ws RJxc12de TJxc12de 0
theorem nmJxc12de : ∀ a, a < 0 → ∀ b, b < 0 → a ≠ b → (TJxc12de a).2.1 ≠ (TJxc12de b).2.1 := by decide +kernel
theorem tyJxc12de_ok : ∀ k, k < 0 → parseFieldDescriptor (TJxc12de k).2.2.1 = some (tyJxc12de k) := by decide +kernel
abbrev cJxc12de_init_da8c8 : ByteArray := prog_37_method_1_code
def yJxc12de_init_da8c8 : MethodName := ⟨RJxc12de, "<init>", "()V"⟩
def RJx4a65c : String := "java/util/ArrayList"
def TJx4a65c : u_T := fun k => match k with
  | 0 => ("java/util/AbstractList", "modCount", "I", false)
  | 1 => ("java/util/ArrayList", "elementData", "[Ljava/lang/Object;", false)
  | _ => ("java/util/ArrayList", "size", "I", false)
def tyJx4a65c : Nat → FieldType := fun k => match k with
  | 0 => .int
  | 1 => .array (.object "java/lang/Object")
  | _ => .int
abbrev wsJx4a65c0 : List Cond := u_ws RJx4a65c TJx4a65c 3
theorem nmJx4a65c : ∀ a, a < 3 → ∀ b, b < 3 → a ≠ b → (TJx4a65c a).2.1 ≠ (TJx4a65c b).2.1 := by decide +kernel
theorem tyJx4a65c_ok : ∀ k, k < 3 → parseFieldDescriptor (TJx4a65c k).2.2.1 = some (tyJx4a65c k) := by decide +kernel
abbrev cJx4a65c_init_da8c8 : ByteArray := prog_38_method_2_code
def yJx4a65c_init_da8c8 : MethodName := ⟨RJx4a65c, "<init>", "()V"⟩
abbrev cJx4a65c_grow_92f84 : ByteArray := prog_38_method_6_code
def yJx4a65c_grow_92f84 : MethodName := ⟨RJx4a65c, "grow", "(I)[Ljava/lang/Object;"⟩
abbrev cJx4a65c_grow_d5877 : ByteArray := prog_38_method_7_code
def yJx4a65c_grow_d5877 : MethodName := ⟨RJx4a65c, "grow", "()[Ljava/lang/Object;"⟩
abbrev cJx4a65c_size_8abf5 : ByteArray := prog_38_method_8_code
def yJx4a65c_size_8abf5 : MethodName := ⟨RJx4a65c, "size", "()I"⟩
abbrev cJx4a65c_isEmpty_aae02 : ByteArray := prog_38_method_9_code
def yJx4a65c_isEmpty_aae02 : MethodName := ⟨RJx4a65c, "isEmpty", "()Z"⟩
abbrev cJx4a65c_elementData_915e3 : ByteArray := prog_38_method_18_code
def yJx4a65c_elementData_915e3 : MethodName := ⟨RJx4a65c, "elementData", "(I)Ljava/lang/Object;"⟩
abbrev cJx4a65c_get_915e3 : ByteArray := prog_38_method_20_code
def yJx4a65c_get_915e3 : MethodName := ⟨RJx4a65c, "get", "(I)Ljava/lang/Object;"⟩
abbrev cJx4a65c_add_72be8 : ByteArray := prog_38_method_24_code
def yJx4a65c_add_72be8 : MethodName := ⟨RJx4a65c, "add", "(Ljava/lang/Object;[Ljava/lang/Object;I)V"⟩
abbrev cJx4a65c_add_9ea2d : ByteArray := prog_38_method_25_code
def yJx4a65c_add_9ea2d : MethodName := ⟨RJx4a65c, "add", "(Ljava/lang/Object;)Z"⟩
abbrev cJx4a65c_remove_915e3 : ByteArray := prog_38_method_29_code
def yJx4a65c_remove_915e3 : MethodName := ⟨RJx4a65c, "remove", "(I)Ljava/lang/Object;"⟩
abbrev cJx4a65c_fastRemove_b59b0 : ByteArray := prog_38_method_39_code
def yJx4a65c_fastRemove_b59b0 : MethodName := ⟨RJx4a65c, "fastRemove", "([Ljava/lang/Object;I)V"⟩
def RJ7 : String := "java/util/Arrays"
def TJ7 : u_T := fun k => match k with
  | _ => ("", "", "", false)
def tyJ7 : Nat → FieldType := fun k => match k with
  | _ => .int
abbrev wsJ70 : List Cond := u_ws RJ7 TJ7 0
theorem nmJ7 : ∀ a, a < 0 → ∀ b, b < 0 → a ≠ b → (TJ7 a).2.1 ≠ (TJ7 b).2.1 := by decide +kernel
theorem tyJ7_ok : ∀ k, k < 0 → parseFieldDescriptor (TJ7 k).2.2.1 = some (tyJ7 k) := by decide +kernel
abbrev cJ7_rangeCheck_23922 : ByteArray := prog_39_method_30_code
def yJ7_rangeCheck_23922 : MethodName := ⟨RJ7, "rangeCheck", "(III)V"⟩
abbrev cJ7_fill_53178 : ByteArray := prog_39_method_103_code
def yJ7_fill_53178 : MethodName := ⟨RJ7, "fill", "([II)V"⟩
abbrev cJ7_fill_eb02e : ByteArray := prog_39_method_110_code
def yJ7_fill_eb02e : MethodName := ⟨RJ7, "fill", "([BIIB)V"⟩
abbrev cJ7_copyOf_1904c : ByteArray := prog_39_method_119_code
def yJ7_copyOf_1904c : MethodName := ⟨RJ7, "copyOf", "([Ljava/lang/Object;I)[Ljava/lang/Object;"⟩
abbrev cJ7_copyOf_6403c : ByteArray := prog_39_method_120_code
def yJ7_copyOf_6403c : MethodName := ⟨RJ7, "copyOf", "([Ljava/lang/Object;ILjava/lang/Class;)[Ljava/lang/Object;"⟩
abbrev cJ7_copyOf_9075b : ByteArray := prog_39_method_121_code
def yJ7_copyOf_9075b : MethodName := ⟨RJ7, "copyOf", "([BI)[B"⟩
abbrev cJ7_checkLength_df160 : ByteArray := prog_39_method_131_code
def yJ7_checkLength_df160 : MethodName := ⟨RJ7, "checkLength", "(II)V"⟩
abbrev cJ7_copyOfRange_39247 : ByteArray := prog_39_method_132_code
def yJ7_copyOfRange_39247 : MethodName := ⟨RJ7, "copyOfRange", "([BII)[B"⟩
abbrev cJ7_copyOfRangeByte_39247 : ByteArray := prog_39_method_133_code
def yJ7_copyOfRangeByte_39247 : MethodName := ⟨RJ7, "copyOfRangeByte", "([BII)[B"⟩
def RJx5ef63 : String := "java/util/Collection"
def TJx5ef63 : u_T := fun k => match k with
  | _ => ("", "", "", false)
def tyJx5ef63 : Nat → FieldType := fun k => match k with
  | _ => .int
abbrev wsJx5ef630 : List Cond := u_ws RJx5ef63 TJx5ef63 0
theorem nmJx5ef63 : ∀ a, a < 0 → ∀ b, b < 0 → a ≠ b → (TJx5ef63 a).2.1 ≠ (TJx5ef63 b).2.1 := by decide +kernel
theorem tyJx5ef63_ok : ∀ k, k < 0 → parseFieldDescriptor (TJx5ef63 k).2.2.1 = some (tyJx5ef63 k) := by decide +kernel
def RJxbd725 : String := "java/util/List"
def TJxbd725 : u_T := fun k => match k with
  | _ => ("", "", "", false)
def tyJxbd725 : Nat → FieldType := fun k => match k with
  | _ => .int
abbrev wsJxbd7250 : List Cond := u_ws RJxbd725 TJxbd725 0
theorem nmJxbd725 : ∀ a, a < 0 → ∀ b, b < 0 → a ≠ b → (TJxbd725 a).2.1 ≠ (TJxbd725 b).2.1 := by decide +kernel
theorem tyJxbd725_ok : ∀ k, k < 0 → parseFieldDescriptor (TJxbd725 k).2.2.1 = some (tyJxbd725 k) := by decide +kernel
def RJ15 : String := "java/util/Objects"
def TJ15 : u_T := fun k => match k with
  | _ => ("", "", "", false)
def tyJ15 : Nat → FieldType := fun k => match k with
  | _ => .int
abbrev wsJ150 : List Cond := u_ws RJ15 TJ15 0
theorem nmJ15 : ∀ a, a < 0 → ∀ b, b < 0 → a ≠ b → (TJ15 a).2.1 ≠ (TJ15 b).2.1 := by decide +kernel
theorem tyJ15_ok : ∀ k, k < 0 → parseFieldDescriptor (TJ15 k).2.2.1 = some (tyJ15 k) := by decide +kernel
abbrev cJ15_checkIndex_7cf53 : ByteArray := prog_43_method_17_code
def yJ15_checkIndex_7cf53 : MethodName := ⟨RJ15, "checkIndex", "(II)I"⟩
def RJxf0a74 : String := "java/util/RandomAccess"
def TJxf0a74 : u_T := fun k => match k with
  | _ => ("", "", "", false)
def tyJxf0a74 : Nat → FieldType := fun k => match k with
  | _ => .int
abbrev wsJxf0a740 : List Cond := u_ws RJxf0a74 TJxf0a74 0
theorem nmJxf0a74 : ∀ a, a < 0 → ∀ b, b < 0 → a ≠ b → (TJxf0a74 a).2.1 ≠ (TJxf0a74 b).2.1 := by decide +kernel
theorem tyJxf0a74_ok : ∀ k, k < 0 → parseFieldDescriptor (TJxf0a74 k).2.2.1 = some (tyJxf0a74 k) := by decide +kernel
def RJxa66e6 : String := "java/util/SequencedCollection"
def TJxa66e6 : u_T := fun k => match k with
  | _ => ("", "", "", false)
def tyJxa66e6 : Nat → FieldType := fun k => match k with
  | _ => .int
abbrev wsJxa66e60 : List Cond := u_ws RJxa66e6 TJxa66e6 0
theorem nmJxa66e6 : ∀ a, a < 0 → ∀ b, b < 0 → a ≠ b → (TJxa66e6 a).2.1 ≠ (TJxa66e6 b).2.1 := by decide +kernel
theorem tyJxa66e6_ok : ∀ k, k < 0 → parseFieldDescriptor (TJxa66e6 k).2.2.1 = some (tyJxa66e6 k) := by decide +kernel
def RJ8 : String := "jdk/internal/util/ArraysSupport"
def TJ8 : u_T := fun k => match k with
  | _ => ("", "", "", false)
def tyJ8 : Nat → FieldType := fun k => match k with
  | _ => .int
abbrev wsJ80 : List Cond := u_ws RJ8 TJ8 0
theorem nmJ8 : ∀ a, a < 0 → ∀ b, b < 0 → a ≠ b → (TJ8 a).2.1 ≠ (TJ8 b).2.1 := by decide +kernel
theorem tyJ8_ok : ∀ k, k < 0 → parseFieldDescriptor (TJ8 k).2.2.1 = some (tyJ8 k) := by decide +kernel
abbrev cJ8_newLength_cabcc : ByteArray := prog_46_method_27_code
def yJ8_newLength_cabcc : MethodName := ⟨RJ8, "newLength", "(III)I"⟩
abbrev cJ8_hugeLength_7cf53 : ByteArray := prog_46_method_28_code
def yJ8_hugeLength_7cf53 : MethodName := ⟨RJ8, "hugeLength", "(II)I"⟩
def RJ3 : String := "jdk/internal/util/Preconditions"
def TJ3 : u_T := fun k => match k with
  | _ => ("", "", "", false)
def tyJ3 : Nat → FieldType := fun k => match k with
  | _ => .int
abbrev wsJ30 : List Cond := u_ws RJ3 TJ3 0
theorem nmJ3 : ∀ a, a < 0 → ∀ b, b < 0 → a ≠ b → (TJ3 a).2.1 ≠ (TJ3 b).2.1 := by decide +kernel
theorem tyJ3_ok : ∀ k, k < 0 → parseFieldDescriptor (TJ3 k).2.2.1 = some (tyJ3 k) := by decide +kernel
abbrev cJ3_checkIndex_8e157 : ByteArray := prog_47_method_11_code
def yJ3_checkIndex_8e157 : MethodName := ⟨RJ3, "checkIndex", "(IILjava/util/function/BiFunction;)I"⟩
abbrev cJ3_checkFromToIndex_8c36e : ByteArray := prog_47_method_12_code
def yJ3_checkFromToIndex_8c36e : MethodName := ⟨RJ3, "checkFromToIndex", "(IIILjava/util/function/BiFunction;)I"⟩
abbrev cJ3_checkFromIndexSize_8c36e : ByteArray := prog_47_method_13_code
def yJ3_checkFromIndexSize_8c36e : MethodName := ⟨RJ3, "checkFromIndexSize", "(IIILjava/util/function/BiFunction;)I"⟩
def RL : String := "StormBasinLaw"
abbrev cL_addBasin : ByteArray := method_3_code
def yL_addBasin : MethodName := ⟨RL, "addBasin", "(LStormBasin;IIIII[J)I"⟩
abbrev cL_addCell : ByteArray := method_4_code
def yL_addCell : MethodName := ⟨RL, "addCell", "(LStormBasin;II[J)I"⟩
abbrev cL_cellCount : ByteArray := method_5_code
def yL_cellCount : MethodName := ⟨RL, "cellCount", "(LStormBasin;I[J)I"⟩
abbrev cL_capacityOf : ByteArray := method_6_code
def yL_capacityOf : MethodName := ⟨RL, "capacityOf", "(LStormBasin;I[J)I"⟩
abbrev cL_setHand : ByteArray := method_7_code
def yL_setHand : MethodName := ⟨RL, "setHand", "(LStormBasin;II[J)I"⟩
abbrev cL_addRule : ByteArray := method_8_code
def yL_addRule : MethodName := ⟨RL, "addRule", "(LStormBasin;IIZII[J)I"⟩
abbrev cL_removeRule : ByteArray := method_9_code
def yL_removeRule : MethodName := ⟨RL, "removeRule", "(LStormBasin;I[J)I"⟩
abbrev cL_doesHold : ByteArray := method_10_code
def yL_doesHold : MethodName := ⟨RL, "doesHold", "(LStormBasin;I[J)I"⟩
abbrev cL_openingNow : ByteArray := method_11_code
def yL_openingNow : MethodName := ⟨RL, "openingNow", "(LStormBasin;I[J)I"⟩
abbrev cL_setRain : ByteArray := method_12_code
def yL_setRain : MethodName := ⟨RL, "setRain", "(LStormBasin;II[J)I"⟩
abbrev cL_pass : ByteArray := method_13_code
def yL_pass : MethodName := ⟨RL, "pass", "(LStormBasin;I[J)I"⟩
abbrev cL_volumeOf : ByteArray := method_14_code
def yL_volumeOf : MethodName := ⟨RL, "volumeOf", "(LStormBasin;I[J)I"⟩
abbrev cL_levelOf : ByteArray := method_15_code
def yL_levelOf : MethodName := ⟨RL, "levelOf", "(LStormBasin;I[J)I"⟩
abbrev cL_streetVolume : ByteArray := method_16_code
def yL_streetVolume : MethodName := ⟨RL, "streetVolume", "(LStormBasin;I[J)I"⟩
abbrev cL_depthAt : ByteArray := method_17_code
def yL_depthAt : MethodName := ⟨RL, "depthAt", "(LStormBasin;II[J)I"⟩
abbrev cL_depthByPouring : ByteArray := method_18_code
def yL_depthByPouring : MethodName := ⟨RL, "depthByPouring", "(LStormBasin;II[J)I"⟩
abbrev cL_depthThen : ByteArray := method_19_code
def yL_depthThen : MethodName := ⟨RL, "depthThen", "(LStormBasin;III[J)I"⟩
abbrev cL_wetCells : ByteArray := method_20_code
def yL_wetCells : MethodName := ⟨RL, "wetCells", "(LStormBasin;I[J)I"⟩
abbrev cL_wetHours : ByteArray := method_21_code
def yL_wetHours : MethodName := ⟨RL, "wetHours", "(LStormBasin;II[J)I"⟩
abbrev cL_addHouse : ByteArray := method_22_code
def yL_addHouse : MethodName := ⟨RL, "addHouse", "(LStormBasin;IIII[J)I"⟩
abbrev cL_wasWet : ByteArray := method_23_code
def yL_wasWet : MethodName := ⟨RL, "wasWet", "(LStormBasin;II[J)I"⟩
abbrev cL_worthOf : ByteArray := method_24_code
def yL_worthOf : MethodName := ⟨RL, "worthOf", "(LStormBasin;II[J)I"⟩
abbrev cL_claim : ByteArray := method_25_code
def yL_claim : MethodName := ⟨RL, "claim", "(LStormBasin;II[J)I"⟩
abbrev cL_claimWorst : ByteArray := method_26_code
def yL_claimWorst : MethodName := ⟨RL, "claimWorst", "(LStormBasin;I[J)I"⟩
abbrev cL_claimCount : ByteArray := method_27_code
def yL_claimCount : MethodName := ⟨RL, "claimCount", "(LStormBasin;I[J)I"⟩
abbrev cL_paidTo : ByteArray := method_28_code
def yL_paidTo : MethodName := ⟨RL, "paidTo", "(LStormBasin;I[J)I"⟩
abbrev cL_meanPayment : ByteArray := method_29_code
def yL_meanPayment : MethodName := ⟨RL, "meanPayment", "(LStormBasin;[D)I"⟩
abbrev cL_floodedWithOpening : ByteArray := method_30_code
def yL_floodedWithOpening : MethodName := ⟨RL, "floodedWithOpening", "(LStormBasin;II[J)I"⟩
abbrev cL_bestOpening : ByteArray := method_31_code
def yL_bestOpening : MethodName := ⟨RL, "bestOpening", "(LStormBasin;I[J)I"⟩
abbrev cL_writeRule : ByteArray := method_32_code
def yL_writeRule : MethodName := ⟨RL, "writeRule", "(LStormBasin;I[J)I"⟩
abbrev cL_lineAt : ByteArray := method_33_code
def yL_lineAt : MethodName := ⟨RL, "lineAt", "(LStormBasin;I[J)I"⟩
abbrev cL_law : ByteArray := code
def yL_law : MethodName := ⟨RL, "law", "([I)Z"⟩
abbrev vwCl : List vw_C := [(RJ0, TJ0, 4), (RJ4, TJ4, 4), (RJx00060, TJx00060, 6), (RJx7c733, TJx7c733, 6), (RJx4a65c, TJx4a65c, 3), (RX0, TX0, 8), (RX1, TX1, 7), (RX2, TX2, 5), (RX3, TX3, 5), (RX4, TX4, 4), (RX5, TX5, 9), (RX6, TX6, 38)]
end
section
/-! THE BASE: words, what holds at every method's entry, the world by names, the walk's judgement, contracts. -/
-- words: all that the tables say and that stays true
def WALL : List Cond := lw_tbl.filter goodWord
theorem wl {w : Cond} (n : Nat) (h : lw_tbl[n]? = some w) (g : goodWord w = true) : w ∈ WALL := List.mem_filter.mpr ⟨List.mem_of_getElem? h, g⟩
theorem wl_in {w : Cond} (h : w ∈ WALL) : w ∈ lw_tbl := (List.mem_filter.mp h).1
theorem wl_good {w : Cond} (h : w ∈ WALL) : (w.onTables && w.keeps) = true ∨ ∃ ty, w = .arrayClass ty := good_of_word (List.mem_filter.mp h).2
theorem gi_wall {ws : List Cond} (h : ∀ w ∈ ws, w ∈ WALL) : GoodIn WALL ws := fun w hw => ⟨h w hw, wl_good (h w hw)⟩
theorem gi_cons {w : Cond} (h : w ∈ WALL) : ∀ v ∈ w :: WALL, v ∈ WALL := fun v hv => (List.mem_cons.mp hv).elim (fun e => e ▸ h) id
-- the world's parameters: class numbers and slots; array classes; the first address that is ours; what statics refer to
abbrev Zx : Type := (va_G × (Nat → ClassId)) × Nat × (Nat → Nat)
abbrev Nm : Type := Nat → Nat → Nat
abbrev Ce : Type := Nat → Nat → Option va_E
def zA (z : Zx) : Nat → Prop := fun q => z.2.1 ≤ q
abbrev tysZ (z : Zx) : List (ClassId × FieldType) := [(z.1.2 0, .int), (z.1.2 1, .boolean), (z.1.2 2, .byte), (z.1.2 3, .long), (z.1.2 4, .double), (z.1.2 5, .char), (z.1.2 6, .object "java/lang/Object")]
abbrev aI (z : Zx) (n : Nat) (f : Nat → Int32) : va_E := .inl (z.1.2 0, n, .inl f)
abbrev aZ (z : Zx) (n : Nat) (f : Nat → Int32) : va_E := .inl (z.1.2 1, n, .inl f)
abbrev aB (z : Zx) (n : Nat) (f : Nat → Int32) : va_E := .inl (z.1.2 2, n, .inl f)
abbrev aJ (z : Zx) (n : Nat) (f : Nat → Int64) : va_E := .inl (z.1.2 3, n, .inr (.inl f))
abbrev aD (z : Zx) (n : Nat) (f : Nat → UInt64) : va_E := .inl (z.1.2 4, n, .inr (.inr (.inr (.inl f))))
abbrev aC (z : Zx) (n : Nat) (f : Nat → Int32) : va_E := .inl (z.1.2 5, n, .inl f)
abbrev aO (z : Zx) (n : Nat) (f : Nat → Option Nat) : va_E := .inl (z.1.2 6, n, .inr (.inr (.inr (.inr f))))
-- String constants of the class; pairs of exceptions that no handler mistakes
def strsZ : List (Nat × String) := [(49, "no such basin below"), (56, "area, depth or width out of range"), (300, "height out of range"), (65, "no more basins"), (304, "an hour has passed"), (308, "no such basin"), (94, "no more cells in this street"), (302, "opening out of range"), (111, "level out of range"), (113, "no more rules"), (310, "no such rule"), (138, "rain out of range"), (143, "hours out of range"), (149, "no basin"), (154, "the clock would go too far"), (312, "no such cell"), (306, "hour out of range"), (206, "rate or cover out of range"), (208, "no more houses"), (314, "no such house"), (228, "not wet at the end of this hour"), (235, "this hour has been claimed"), (245, "no hour to claim"), (256, "no claims"), (294, "no such character")]
def ncsZ : List (String × String) := [("java/lang/IllegalArgumentException", "java/lang/IndexOutOfBoundsException"), ("java/lang/IllegalStateException", "java/lang/IndexOutOfBoundsException"), ("java/lang/IllegalStateException", "java/lang/IllegalArgumentException"), ("java/lang/UnsupportedOperationException", "java/lang/IndexOutOfBoundsException"), ("java/lang/UnsupportedOperationException", "java/lang/IllegalArgumentException"), ("java/lang/IllegalStateException", "java/lang/UnsupportedOperationException"), ("java/util/NoSuchElementException", "java/lang/IndexOutOfBoundsException")]
-- a digit's byte, of Integer's two tables
def dgO (j : Nat) : Int32 := nI (48 + j % 10)
def dgT (j : Nat) : Int32 := nI (48 + j / 10)
-- castable and declared words (they stay true, but are no words of a contract): by mkbase.py out of the tables
def caZ : List (String × String) := [("java/lang/ArrayIndexOutOfBoundsException", "java/lang/ArrayIndexOutOfBoundsException"), ("java/lang/IndexOutOfBoundsException", "java/lang/IndexOutOfBoundsException"), ("java/lang/IllegalArgumentException", "java/lang/IllegalArgumentException"), ("java/lang/IllegalStateException", "java/lang/IllegalStateException"), ("java/lang/UnsupportedOperationException", "java/lang/UnsupportedOperationException"), ("java/util/NoSuchElementException", "java/util/NoSuchElementException"), ("java/lang/ArithmeticException", "java/lang/ArithmeticException"), ("[B", "java/lang/Cloneable"), ("java/lang/ArrayIndexOutOfBoundsException", "java/lang/IndexOutOfBoundsException"), ("java/lang/StringIndexOutOfBoundsException", "java/lang/IndexOutOfBoundsException"), ("StormBasin", "java/lang/Object"), ("java/util/ArrayList", "java/lang/Object"), ("StormBasin$Water", "java/lang/Object"), ("java/lang/StringBuilder", "java/lang/Object"), ("StormBasinModel", "java/lang/Object"), ("java/lang/ArrayIndexOutOfBoundsException", "java/lang/Object"), ("java/lang/IndexOutOfBoundsException", "java/lang/Object"), ("java/lang/IllegalArgumentException", "java/lang/Object"), ("java/lang/IllegalStateException", "java/lang/Object"), ("StormBasin$Basin", "java/lang/Object"), ("StormBasin$Street", "java/lang/Object"), ("StormBasin$Rule", "java/lang/Object"), ("StormBasin$House", "java/lang/Object"), ("java/lang/UnsupportedOperationException", "java/lang/Object"), ("java/util/NoSuchElementException", "java/lang/Object"), ("java/lang/ArithmeticException", "java/lang/Object"), ("java/lang/StringIndexOutOfBoundsException", "java/lang/Object"), ("java/lang/String", "java/lang/Object"), ("java/lang/Throwable", "java/lang/Object"), ("[I", "java/lang/Object"), ("[B", "java/lang/Object"), ("[Ljava/lang/Object;", "java/lang/Object"), ("[Z", "java/lang/Object"), ("[C", "java/lang/Object"), ("[J", "java/lang/Object"), ("[D", "java/lang/Object")]
def dcZ : List MethodName := [⟨"java/lang/IndexOutOfBoundsException", "<init>", "()V"⟩, ⟨"java/lang/IndexOutOfBoundsException", "<init>", "(Ljava/lang/String;)V"⟩, ⟨"java/lang/RuntimeException", "<init>", "()V"⟩, ⟨"java/lang/RuntimeException", "<init>", "(Ljava/lang/String;)V"⟩, ⟨"java/lang/Exception", "<init>", "()V"⟩, ⟨"java/lang/Exception", "<init>", "(Ljava/lang/String;)V"⟩, ⟨"java/lang/Throwable", "<init>", "()V"⟩, ⟨"java/lang/Throwable", "<init>", "(Ljava/lang/String;)V"⟩, ⟨"java/lang/Object", "getClass", "()Ljava/lang/Class;"⟩]
def xtZ : List Cond := caZ.map (fun q => Cond.castable q.1 q.2) ++ dcZ.map (fun x => Cond.declares x)
/-- what holds at the entry of every method -/
def Ev (z : Zx) (U : State) : Prop :=
  va_K z.1.1 vwCl (tysZ z) U ∧
  (vx_Zq Bundle.tN "UNASSIGNED_STACK" Bundle.steD (zA z) U U.heap ∧ vx_Zq Bundle.tN "SUPPRESSED_SENTINEL" Bundle.listD (zA z) U U.heap) ∧
  ((∀ q ∈ strsZ, ∃ a, vk_R RX5 q.1 q.2 a U) ∧ (∀ q ∈ ncsZ, va_Nc q.1 q.2 U) ∧ (∀ q ∈ caZ, va_Nw (.castable q.1 q.2) U) ∧ (∀ x ∈ dcZ, va_Nw (.declares x) U)) ∧
  (va_Z "java/util/ArrayList" "DEFAULTCAPACITY_EMPTY_ELEMENTDATA" "[Ljava/lang/Object;" (.ref (z.2.2 0)) (zA z) U U.heap ∧ va_T (.object "java/lang/Object") (z.2.2 0) 0 (fun _ => .null) (zA z) U U.heap) ∧
  (va_Z "java/lang/Integer" "DigitOnes" "[B" (.ref (z.2.2 1)) (zA z) U U.heap ∧ va_T .byte (z.2.2 1) 100 (fun j => .int (dgO j)) (zA z) U U.heap) ∧
  (va_Z "java/lang/Integer" "DigitTens" "[B" (.ref (z.2.2 2)) (zA z) U U.heap ∧ va_T .byte (z.2.2 2) 100 (fun j => .int (dgT j)) (zA z) U U.heap) ∧
  va_Z "java/lang/String" "COMPACT_STRINGS" "Z" (.int 1) (zA z) U U.heap ∧
  va_Zq "jdk/internal/util/Preconditions" "SIOOBE_FORMATTER" "Ljava/util/function/BiFunction;" (zA z) U U.heap ∧
  (va_Mi "[Ljava/lang/Object;" (z.2.2 3) U ∧ va_Dc U ∧ va_AO "java/lang/Object" U) ∧
  z.2.1 ≤ U.heap.size
theorem Ev.at {z : Zx} {s U : State} {H : Heap} {locs : List Loc} (h : Ev z s) (hS : va_S (zA z) s.heap H locs) (hH : U.heap = H) (hW : s.WarmedH U.vm) : Ev z U := by
  obtain ⟨h1, ⟨h2, h3⟩, ⟨h4, h4', hca, hdc⟩, ⟨h5, h6⟩, ⟨h7, h8⟩, ⟨h9, h10⟩, h11, h12, ⟨h13, h14, h16⟩, h15⟩ := h
  have hk : ∀ a : Nat, a < s.heap.size → ¬ zA z a → U.heap[a]? = s.heap[a]? := by rw [hH]; exact hS.2.1
  have hvm := hW.alike
  exact ⟨va_K.moved hvm h1, ⟨vx_Zq.moved hvm (h2.kept hk), vx_Zq.moved hvm (h3.kept hk)⟩, ⟨fun q hq => (h4 q hq).imp fun a ha => vk_R.warm hW ha, fun q hq => va_Nc.moved hvm (h4' q hq), fun q hq => va_Nw.warmC hW (hca q hq), fun x hx => va_Nw.warmD hW (hdc x hx)⟩,
    ⟨va_Z.moved hvm (h5.kept hk), va_T.moved hvm (h6.kept hk)⟩, ⟨va_Z.moved hvm (h7.kept hk), va_T.moved hvm (h8.kept hk)⟩, ⟨va_Z.moved hvm (h9.kept hk), va_T.moved hvm (h10.kept hk)⟩,
    va_Z.moved hvm (h11.kept hk), va_Zq.moved hvm (h12.kept hk), ⟨va_Mi.moved hvm h13, va_Dc.moved hvm h14, va_AO.moved hvm h16⟩, Nat.le_trans h15 (by rw [hH]; exact hS.1)⟩
theorem Ev.calling {z : Zx} {U : State} {g : JFrame} {mk : MethodId} {a : Array Value} (h : Ev z U) : Ev z (U.calling g mk a) :=
  h.at (H := U.heap) (locs := []) va_S.rf rfl (State.WarmedH.refl U)
-- the world: cells by name
def up2 (μ : Ce) (k i : Nat) (e : va_E) : Ce := fun k' i' => if k' = k ∧ i' = i then some e else μ k' i'
def nmu (ad : Nm) (k i q : Nat) : Nm := fun k' i' => if k' = k ∧ i' = i then q else ad k' i'
theorem up2_s {μ : Ce} {k i : Nat} {e : va_E} : up2 μ k i e k i = some e := if_pos ⟨rfl, rfl⟩
theorem up2_n {μ : Ce} {k i k' i' : Nat} {e : va_E} (h : ¬ (k' = k ∧ i' = i)) : up2 μ k i e k' i' = μ k' i' := if_neg h
theorem nmu_s {ad : Nm} {k i q : Nat} : nmu ad k i q k i = q := if_pos ⟨rfl, rfl⟩
theorem nmu_n {ad : Nm} {k i k' i' q : Nat} (h : ¬ (k' = k ∧ i' = i)) : nmu ad k i q k' i' = ad k' i' := if_neg h
def Hv (z : Zx) (ad : Nm) (μ : Ce) (H : Heap) : Prop :=
  (∀ k i e, μ k i = some e → va_at z.1.1 vwCl (ad k i, e) H ∧ z.2.1 ≤ ad k i) ∧ (∀ k i k' i', μ k i ≠ none → μ k' i' ≠ none → ad k i = ad k' i' → k = k' ∧ i = i')
theorem Hv.one {z : Zx} {ad : Nm} {μ : Ce} {H : Heap} (h : Hv z ad μ H) {k i : Nat} {e : va_E} (hk : μ k i = some e) : va_P z.1.1 vwCl [(ad k i, e)] H := by
  intro n q hq
  match n, hq with
  | 0, hq => cases hq; exact (h.1 k i e hk).1
  | n + 1, hq => simp at hq
theorem Hv.two {z : Zx} {ad : Nm} {μ : Ce} {H : Heap} (h : Hv z ad μ H) {k i k2 i2 : Nat} {e e2 : va_E} (hk : μ k i = some e) (hk2 : μ k2 i2 = some e2) : va_P z.1.1 vwCl [(ad k i, e), (ad k2 i2, e2)] H := by
  intro n q hq
  match n, hq with
  | 0, hq => cases hq; exact (h.1 k i e hk).1
  | 1, hq => cases hq; exact (h.1 k2 i2 e2 hk2).1
  | n + 2, hq => simp at hq
theorem Hv.set {z : Zx} {ad : Nm} {μ : Ce} {H H1 : Heap} (h : Hv z ad μ H) {k i : Nat} {e e' : va_E} (hk : μ k i = some e) (h1 : va_at z.1.1 vwCl (ad k i, e') H1) (oq : ∀ q : Nat, q ≠ ad k i → H1[q]? = H[q]?) : Hv z ad (up2 μ k i e') H1 := by
  have hn : ∀ k' i', up2 μ k i e' k' i' ≠ none → μ k' i' ≠ none := by
    intro k' i' hh
    by_cases c : k' = k ∧ i' = i
    · rw [c.1, c.2, hk]; exact fun q => by cases q
    · rwa [up2_n c] at hh
  refine ⟨fun k' i' x hx => ?_, fun a b c d ha hc => h.2 a b c d (hn a b ha) (hn c d hc)⟩
  by_cases c : k' = k ∧ i' = i
  · obtain ⟨rfl, rfl⟩ := c
    rw [up2_s] at hx
    cases hx
    exact ⟨h1, (h.1 _ _ _ hk).2⟩
  · rw [up2_n c] at hx
    refine ⟨(h.1 k' i' x hx).1.kept (oq _ fun e1 => c (h.2 k' i' k i (by rw [hx]; exact fun q => by cases q) (by rw [hk]; exact fun q => by cases q) e1)), (h.1 k' i' x hx).2⟩
theorem Hv.lt {z : Zx} {ad : Nm} {μ : Ce} {H : Heap} (h : Hv z ad μ H) {k i : Nat} {e : va_E} (hk : μ k i = some e) : ad k i < H.size := (h.1 k i e hk).1.lt
theorem Hv.new {z : Zx} {ad : Nm} {μ : Ce} {H H1 : Heap} (h : Hv z ad μ H) {k i q : Nat} {e : va_E} (hk : μ k i = none) (hq : H.size ≤ q) (hz : z.2.1 ≤ q) (h1 : va_at z.1.1 vwCl (q, e) H1) (oq : ∀ a : Nat, a < H.size → H1[a]? = H[a]?) : Hv z (nmu ad k i q) (up2 μ k i e) H1 := by
  refine ⟨fun k' i' x hx => ?_, fun a b c d ha hc hac => ?_⟩
  · by_cases c : k' = k ∧ i' = i
    · obtain ⟨rfl, rfl⟩ := c
      rw [up2_s] at hx
      cases hx
      rw [nmu_s]
      exact ⟨h1, hz⟩
    · rw [up2_n c] at hx
      rw [nmu_n c]
      exact ⟨(h.1 k' i' x hx).1.kept (oq _ (h.lt hx)), (h.1 k' i' x hx).2⟩
  · by_cases c1 : a = k ∧ b = i <;> by_cases c2 : c = k ∧ d = i
    · exact ⟨c1.1.trans c2.1.symm, c1.2.trans c2.2.symm⟩
    · obtain ⟨rfl, rfl⟩ := c1
      rw [nmu_s, nmu_n c2] at hac
      rw [up2_n c2] at hc
      obtain ⟨x, hx⟩ := Option.ne_none_iff_exists'.mp hc
      have := h.lt hx
      omega
    · obtain ⟨rfl, rfl⟩ := c2
      rw [nmu_s, nmu_n c1] at hac
      rw [up2_n c1] at ha
      obtain ⟨x, hx⟩ := Option.ne_none_iff_exists'.mp ha
      have := h.lt hx
      omega
    · rw [nmu_n c1, nmu_n c2] at hac
      rw [up2_n c1] at ha
      rw [up2_n c2] at hc
      exact h.2 a b c d ha hc hac
/-- fewer or other names for the same cells -/
theorem Hv.re {z : Zx} {ad ad' : Nm} {μ μ' : Ce} {H : Heap} (h : Hv z ad μ H) (hh : ∀ k i e, μ' k i = some e → ∃ k' i', μ k' i' = some e ∧ ad k' i' = ad' k i) (hi : ∀ k i k' i', μ' k i ≠ none → μ' k' i' ≠ none → ad' k i = ad' k' i' → k = k' ∧ i = i') : Hv z ad' μ' H := by
  refine ⟨fun k i e he => ?_, hi⟩
  obtain ⟨k', i', h1, h2⟩ := hh k i e he
  rw [← h2]
  exact h.1 k' i' e h1
theorem Hv.eqm {z : Zx} {ad : Nm} {μ μ' : Ce} {H : Heap} (h : Hv z ad μ H) (e : μ = μ') : Hv z ad μ' H := e ▸ h
/-- the named cells as one list (each address once) -/
theorem Hv.list {z : Zx} {ad : Nm} {μ : Ce} {H : Heap} (h : Hv z ad μ H) : ∃ ws : va_W, va_P z.1.1 vwCl ws H ∧ va_D (zA z) ws ∧ (∀ k i e, μ k i = some e → ∃ n : Nat, ws[n]? = some (ad k i, e)) ∧ ∀ q ∈ ws, ∃ k i, μ k i = some q.2 ∧ ad k i = q.1 := by
  have hF : ∀ q : Nat, ∃ x : Option (Nat × va_E), (∀ y, x = some y → y.1 = q ∧ ∃ k i, μ k i = some y.2 ∧ ad k i = q) ∧ (x = none → ∀ k i e, μ k i = some e → ad k i ≠ q) := by
    intro q
    rcases Classical.em (∃ k i e, μ k i = some e ∧ ad k i = q) with ⟨k, i, e, h1, h2⟩ | hn
    · exact ⟨some (q, e), (fun y hy => by cases hy; exact ⟨rfl, k, i, h1, h2⟩), fun hx => by cases hx⟩
    · exact ⟨none, (fun y hy => by cases hy), fun _ k i e h1 h2 => hn ⟨k, i, e, h1, h2⟩⟩
  obtain ⟨F, hF⟩ := Classical.axiomOfChoice hF
  have hm : ∀ y, y ∈ (List.range H.size).filterMap F → F y.1 = some y ∧ ∃ k i, μ k i = some y.2 ∧ ad k i = y.1 := by
    intro y hy
    obtain ⟨q, -, hq⟩ := List.mem_filterMap.mp hy
    obtain ⟨e1, k, i, h1, h2⟩ := (hF q).1 y hq
    subst e1
    exact ⟨hq, k, i, h1, h2⟩
  have hnd : ∀ (l : List Nat), l.Nodup → ((l.filterMap F).map Prod.fst).Nodup := by
    intro l
    induction l with
    | nil => intro _; exact List.nodup_nil
    | cons a t ih =>
      intro hl
      obtain ⟨h1, h2⟩ := List.nodup_cons.mp hl
      cases ha : F a with
      | none => rw [List.filterMap_cons_none ha]; exact ih h2
      | some y =>
        rw [List.filterMap_cons_some ha, List.map_cons]
        refine List.nodup_cons.mpr ⟨fun hy => ?_, ih h2⟩
        obtain ⟨w, hw, e1⟩ := List.mem_map.mp hy
        obtain ⟨b, hb, hwb⟩ := List.mem_filterMap.mp hw
        have e2 := ((hF b).1 w hwb).1
        have e3 := ((hF a).1 y ha).1
        exact h1 (by rw [← e3, ← e1, e2]; exact hb)
  refine ⟨(List.range H.size).filterMap F, fun n q hq => ?_, ⟨fun i j p q hp hq hpq => ?_, fun n q hq => ?_⟩, fun k i e he => ?_, fun q hq => (hm q hq).2⟩
  · obtain ⟨-, k, i, h1, h2⟩ := hm q (List.mem_of_getElem? hq)
    have := (h.1 k i _ h1).1
    rw [h2] at this
    exact this
  · have hN := hnd (List.range H.size) List.nodup_range
    have g1 : (((List.range H.size).filterMap F).map Prod.fst)[i]? = some p.1 := by rw [List.getElem?_map, hp]; rfl
    have g2 : (((List.range H.size).filterMap F).map Prod.fst)[j]? = some p.1 := by rw [List.getElem?_map, hq, hpq]; rfl
    have l1 := (List.getElem?_eq_some_iff.mp g1).1
    exact (List.getElem?_inj l1 hN).mp (g1.trans g2.symm)
  · obtain ⟨-, k, i, h1, h2⟩ := hm q (List.mem_of_getElem? hq)
    have := (h.1 k i _ h1).2
    rw [h2] at this
    exact this
  · have hlt := h.lt he
    cases hx : F (ad k i) with
    | none => exact absurd rfl ((hF (ad k i)).2 hx k i e he)
    | some y =>
      obtain ⟨e1, k', i', h1, h2⟩ := (hF (ad k i)).1 y hx
      obtain ⟨rfl, rfl⟩ := h.2 k' i' k i (by rw [h1]; exact fun q => by cases q) (by rw [he]; exact fun q => by cases q) h2
      rw [he] at h1
      have e2 : y = (ad k' i', e) := Prod.ext e1 (Option.some.inj h1).symm
      subst e2
      exact List.getElem?_of_mem (List.mem_filterMap.mpr ⟨ad k' i', List.mem_range.mpr hlt, hx⟩)
theorem Hv.back {z : Zx} {ad : Nm} {μ : Ce} {H H1 : Heap} {ws : va_W} {n k i : Nat} {e e' : va_E} (h : Hv z ad μ H) (hc : ∀ k i e, μ k i = some e → ∃ n : Nat, ws[n]? = some (ad k i, e)) (hk : μ k i = some e) (hn : ws[n]? = some (ad k i, e)) (hP : va_P z.1.1 vwCl (ws.set n (ad k i, e')) H1) : Hv z ad (up2 μ k i e') H1 := by
  have hl := (List.getElem?_eq_some_iff.mp hn).1
  have hz : ∀ k' i', up2 μ k i e' k' i' ≠ none → μ k' i' ≠ none := by
    intro k' i' hh
    by_cases c : k' = k ∧ i' = i
    · rw [c.1, c.2, hk]; exact fun q => by cases q
    · rwa [up2_n c] at hh
  refine ⟨fun k' i' x hx => ?_, fun a b c d ha hc' => h.2 a b c d (hz a b ha) (hz c d hc')⟩
  by_cases c : k' = k ∧ i' = i
  · obtain ⟨rfl, rfl⟩ := c
    rw [up2_s] at hx
    cases hx
    exact ⟨hP n _ (List.getElem?_set_self hl), (h.1 _ _ _ hk).2⟩
  · rw [up2_n c] at hx
    obtain ⟨j, hj⟩ := hc k' i' x hx
    have hjn : n ≠ j := by
      intro e1
      subst e1
      rw [hn] at hj
      exact c (h.2 k' i' k i (by rw [hx]; exact fun q => by cases q) (by rw [hk]; exact fun q => by cases q) (congrArg Prod.fst (Option.some.inj hj)).symm)
    exact ⟨hP j _ (by rw [List.getElem?_set_ne hjn]; exact hj), (h.1 k' i' x hx).2⟩
theorem Hv.push {z : Zx} {ad : Nm} {μ : Ce} {H H1 : Heap} {ws : va_W} {k i q : Nat} {e : va_E} (h : Hv z ad μ H) (hc : ∀ k i e, μ k i = some e → ∃ n : Nat, ws[n]? = some (ad k i, e)) (hk : μ k i = none) (hP : va_P z.1.1 vwCl (ws ++ [(q, e)]) H1) (hD : va_D (zA z) (ws ++ [(q, e)])) : Hv z (nmu ad k i q) (up2 μ k i e) H1 := by
  have hlast : (ws ++ [(q, e)])[ws.length]? = some (q, e) := by simp
  have hne : ∀ k' i' x, μ k' i' = some x → ad k' i' ≠ q := by
    intro k' i' x hx e1
    obtain ⟨j, hj⟩ := hc k' i' x hx
    have hl := (List.getElem?_eq_some_iff.mp hj).1
    have hj' : (ws ++ [(q, e)])[j]? = some (ad k' i', x) := by rw [List.getElem?_append_left hl]; exact hj
    have := hD.1 j ws.length _ _ hj' hlast e1
    omega
  refine ⟨fun k' i' x hx => ?_, fun a b c d ha hc' hac => ?_⟩
  · by_cases c : k' = k ∧ i' = i
    · obtain ⟨rfl, rfl⟩ := c
      rw [up2_s] at hx
      cases hx
      rw [nmu_s]
      exact ⟨hP _ _ hlast, hD.2 _ _ hlast⟩
    · rw [up2_n c] at hx
      rw [nmu_n c]
      obtain ⟨j, hj⟩ := hc k' i' x hx
      have hl := (List.getElem?_eq_some_iff.mp hj).1
      exact ⟨hP j _ (by rw [List.getElem?_append_left hl]; exact hj), (h.1 k' i' x hx).2⟩
  · by_cases c1 : a = k ∧ b = i <;> by_cases c2 : c = k ∧ d = i
    · exact ⟨c1.1.trans c2.1.symm, c1.2.trans c2.2.symm⟩
    · obtain ⟨rfl, rfl⟩ := c1
      rw [nmu_s, nmu_n c2] at hac
      rw [up2_n c2] at hc'
      obtain ⟨x, hx⟩ := Option.ne_none_iff_exists'.mp hc'
      exact absurd hac.symm (hne _ _ x hx)
    · obtain ⟨rfl, rfl⟩ := c2
      rw [nmu_s, nmu_n c1] at hac
      rw [up2_n c1] at ha
      obtain ⟨x, hx⟩ := Option.ne_none_iff_exists'.mp ha
      exact absurd hac (hne _ _ x hx)
    · rw [nmu_n c1, nmu_n c2] at hac
      rw [up2_n c1] at ha
      rw [up2_n c2] at hc'
      exact h.2 a b c d ha hc' hac
-- the walk's fixed things
abbrev Gx : Type := (Program × Launch × Env × Room × State) × (MethodId × Array Value × List Frame × Method × Code) × (State → Prop)
abbrev gp (g : Gx) : Program := g.1.1
abbrev gl (g : Gx) : Launch := g.1.2.1
abbrev ge (g : Gx) : Env := g.1.2.2.1
abbrev gR (g : Gx) : Room := g.1.2.2.2.1
abbrev gs (g : Gx) : State := g.1.2.2.2.2
abbrev gm (g : Gx) : MethodId := g.2.1.1
abbrev ga (g : Gx) : Array Value := g.2.1.2.1
abbrev gb (g : Gx) : List Frame := g.2.1.2.2.1
abbrev gt (g : Gx) : Method := g.2.1.2.2.2.1
abbrev gc (g : Gx) : Code := g.2.1.2.2.2.2
abbrev gQ (g : Gx) : State → Prop := g.2.2
abbrev Lv : Type := List (Nat × Value)
/-- from this point (place pc, locals lv, stack st, world μ at ad, n cells and k slots made) the walk comes to its end -/
def WW (g : Gx) (z : Zx) (nL n k : Nat) (ad : Nm) (μ : Ce) (pc : Nat) (lv : Lv) (st : List Value) : Prop :=
  ∀ (H : Heap) (locs : List Loc) (ls : Array Slot), Hv z ad μ H → va_S (zA z) (gs g).heap H locs → lv_has ls nL lv →
    W (gp g) (gl g) (ge g) (gR g) (gs g) (gm g) (ga g) (gb g) (gt g) (gc g) H locs n k (gQ g) (F0 (gm g) pc ls st)
/-- q is thrown at this point, an E -/
def WX (g : Gx) (z : Zx) (nL n k : Nat) (ad : Nm) (μ : Ce) (pc : Nat) (lv : Lv) (st : List Value) (E : String) : Prop :=
  ∀ (H : Heap) (locs : List Loc) (ls : Array Slot) (q : Addr) (ce : Cell), Hv z ad μ H → va_S (zA z) (gs g).heap H locs → lv_has ls nL lv → H[q]? = some ce → ce.vm = .none → (gs g).vm.findClass E = some ce.cls →
    vx_W (gp g) (gl g) (ge g) (gR g) (gs g) (gm g) (ga g) (gb g) (gt g) (gc g) H locs n k (gQ g) (F0 (gm g) pc ls st) q
-- contracts
abbrev OkT : Type := Option Value → Nm → Ce → Prop
def okQ (z : Zx) (ok : OkT) : Array Value → State → Outcome → State → Prop := fun _ st o t => ∃ (v : Option Value) (ad : Nm) (μ : Ce), o = .returned v ∧ ok v ad μ ∧ Hv z ad μ t.heap ∧ va_F (zA z) st t
def exQ (z : Zx) (ex : String → Prop) (ad : Nm) (μ : Ce) : String → State → State → Prop := fun E st t => ex E ∧ Hv z ad μ t.heap ∧ va_F (zA z) st t
def exNo : String → Prop := fun _ => False
abbrev rmK (lev mc ms : Nat) : Room := { frames := 12 + lev, cells := mc, slots := ms, locals := 200 + 60 * lev }
/-- method y: from any state with the world μ at ad and these arguments it returns as ok says, or throws an exception that ex names and the world is unchanged -/
def Ko (z : Zx) (l : Launch) (y : MethodName) (b : ByteArray) (nL : Nat) (ret : Option FieldType) (lev mc ms : Nat) (args : List Value) (ad : Nm) (μ : Ce) (ok : OkT) (ex : String → Prop) : Prop :=
  vx_Met l y (Cond.code y b nL ret :: WALL) (rmK lev mc ms) (va_Pc args (fun U => Ev z U ∧ Hv z ad μ U.heap)) (okQ z ok) (exQ z ex ad μ) mc ms (zA z)
/-- what a walk knows all along -/
def Kn (g : Gx) (z : Zx) (cc : ByteArray) (nL : Nat) (y : MethodName) (ret : Option FieldType) (tb : List ExceptionTableEntry) (lev mc ms : Nat) (ad0 : Nm) (μ0 : Ce) (ok : OkT) (ex : String → Prop) : Prop :=
  CallFix (gp g) (gm g) (gc g) cc nL (gs g) (ga g) WALL y.cls ∧ Ev z (gs g) ∧ (gl g).stackTraces = false ∧ (gt g).locks = false ∧ ((gt g).sig.returnType = ret ∧ (gt g).name = y.name) ∧ gR g = rmK lev mc ms ∧
  (gc g).exceptionTable.toList = tb ∧ gQ g = vx_MQ (gb g) (okQ z ok) (exQ z ex ad0 μ0) (ga g) (gs g) mc ms (zA z)
theorem ko_of {z : Zx} {l : Launch} {y : MethodName} {b : ByteArray} {nL : Nat} {ret : Option FieldType} {lev mc ms : Nat} {args : List Value} {ad : Nm} {μ : Ce} {ok : OkT} {ex : String → Prop} (hl : l.stackTraces = false) (hy : plainName y.cls = true) (hn : (lg_sl args).length ≤ nL)
    (body : ∀ g : Gx, gl g = l → Kn g z b nL y ret [] lev mc ms ad μ ok ex → WW g z nL 0 0 ad μ 0 (lv_args 0 args) []) : Ko z l y b nL ret lev mc ms args ad μ ok ex := by
  refine vx_ofW (cc := b) (maxL := nL) (ret := ret) hy rfl ?_
  intro p e s m args' below meth c s₁ B hml ht hv
  obtain ⟨rfl, hE, hM⟩ := hv
  have hts := atoms_spec (ws := Cond.code y b nL ret :: WALL) B.pre
  have K := body ((p, l, e, rmK lev mc ms, s), (m, args.toArray, below, meth, c), vx_MQ below (okQ z ok) (exQ z ex ad μ) args.toArray s mc ms (zA z)) rfl
    ⟨⟨B.exec, B.bytes, hml, findClass_of_methodNamed B.named, fun w hw => hts w (List.mem_cons_of_mem _ hw)⟩, hE, hl, B.notSynchronized, ⟨B.returns, (name_of_methodNamed B.named B.method).1⟩, rfl, List.eq_nil_iff_forall_not_mem.mpr ht, rfl⟩
  have hls := lv_entry args (n := nL) hn
  rw [lg_entry_eq]
  exact K s.heap [] _ hM va_S.rf hls
/-- the same for a method with a table of handlers -/
def KoH (z : Zx) (l : Launch) (y : MethodName) (b : ByteArray) (nL : Nat) (ret : Option FieldType) (hh : List (Nat × Nat × Nat × Nat)) (lev mc ms : Nat) (args : List Value) (ad : Nm) (μ : Ce) (ok : OkT) (ex : String → Prop) : Prop :=
  vx_Met l y (Cond.codeWith y b nL ret hh :: WALL) (rmK lev mc ms) (va_Pc args (fun U => Ev z U ∧ Hv z ad μ U.heap)) (okQ z ok) (exQ z ex ad μ) mc ms (zA z)
theorem koH_of {z : Zx} {l : Launch} {y : MethodName} {b : ByteArray} {nL : Nat} {ret : Option FieldType} {hh : List (Nat × Nat × Nat × Nat)} {lev mc ms : Nat} {args : List Value} {ad : Nm} {μ : Ce} {ok : OkT} {ex : String → Prop} (hl : l.stackTraces = false) (hy : plainName y.cls = true) (hn : (lg_sl args).length ≤ nL)
    (body : ∀ g : Gx, gl g = l → Kn g z b nL y ret (tableOf hh) lev mc ms ad μ ok ex → WW g z nL 0 0 ad μ 0 (lv_args 0 args) []) : KoH z l y b nL ret hh lev mc ms args ad μ ok ex := by
  refine vx_ofWH (cc := b) (maxL := nL) (ret := ret) (hh := hh) hy rfl ?_
  intro p e s m args' below meth c s₁ B hml hv
  obtain ⟨rfl, hE, hM⟩ := hv
  have hts := atoms_spec (ws := Cond.codeWith y b nL ret hh :: WALL) B.pre
  have ht := vx_table (x := y) B (hts _ List.mem_cons_self)
  have K := body ((p, l, e, rmK lev mc ms, s), (m, args.toArray, below, meth, c), vx_MQ below (okQ z ok) (exQ z ex ad μ) args.toArray s mc ms (zA z)) rfl
    ⟨⟨B.exec, B.bytes, hml, findClass_of_methodNamed B.named, fun w hw => hts w (List.mem_cons_of_mem _ hw)⟩, hE, hl, B.notSynchronized, ⟨B.returns, (name_of_methodNamed B.named B.method).1⟩, rfl, ht, rfl⟩
  have hls := lv_entry args (n := nL) hn
  rw [lg_entry_eq]
  exact K s.heap [] _ hM va_S.rf hls
end
section
/-! ROWS over the walk WW (by mkrows.py) -/
section ZR
variable {g : Gx} {z : Zx} {cc : ByteArray} {nL : Nat} {y0 : MethodName} {ret : Option FieldType} {tb : List ExceptionTableEntry} {lev mc ms : Nat} {ad0 ad : Nm} {μ0 μ : Ce} {ok : OkT} {ex : String → Prop} {n k pc : Nat} {lv lv' : Lv} {st : List Value}
theorem r_iload_n (K : Kn g z cc nL y0 ret tb lev mc ms ad0 μ0 ok ex) {j : Fin 4} {i : Nat} {x : Int32} (p : Nat) (hi : (j : Nat) = i) (hv : lv[p]? = some (i, .int x)) (hdg : decode cc pc = .ok (.iload_n j, 1)) (kk : WW g z nL n k ad μ (pc + 1) lv (.int x :: st)) : WW g z nL n k ad μ pc lv st := fun H locs ls M S L => lv_iload_n K.1.1 K.1.2.1 hdg hi (lv_at L p hv) (kk H locs ls M S L)
theorem r_iload (K : Kn g z cc nL y0 ret tb lev mc ms ad0 μ0 ok ex) {i : Nat} {x : Int32} (p : Nat) (hv : lv[p]? = some (i, .int x)) (hdg : decode cc pc = .ok (.iload i, 2)) (kk : WW g z nL n k ad μ (pc + 2) lv (.int x :: st)) : WW g z nL n k ad μ pc lv st := fun H locs ls M S L => lv_iload K.1.1 K.1.2.1 hdg (lv_at L p hv) (kk H locs ls M S L)
theorem r_lload_n (K : Kn g z cc nL y0 ret tb lev mc ms ad0 μ0 ok ex) {j : Fin 4} {i : Nat} {x : Int64} (p : Nat) (hi : (j : Nat) = i) (hv : lv[p]? = some (i, .long x)) (hdg : decode cc pc = .ok (.lload_n j, 1)) (kk : WW g z nL n k ad μ (pc + 1) lv (.long x :: st)) : WW g z nL n k ad μ pc lv st := fun H locs ls M S L => lv_lload_n K.1.1 K.1.2.1 hdg hi (lv_at L p hv) (kk H locs ls M S L)
theorem r_lload (K : Kn g z cc nL y0 ret tb lev mc ms ad0 μ0 ok ex) {i : Nat} {x : Int64} (p : Nat) (hv : lv[p]? = some (i, .long x)) (hdg : decode cc pc = .ok (.lload i, 2)) (kk : WW g z nL n k ad μ (pc + 2) lv (.long x :: st)) : WW g z nL n k ad μ pc lv st := fun H locs ls M S L => lv_lload K.1.1 K.1.2.1 hdg (lv_at L p hv) (kk H locs ls M S L)
theorem r_dload_n (K : Kn g z cc nL y0 ret tb lev mc ms ad0 μ0 ok ex) {j : Fin 4} {i : Nat} {x : UInt64} (p : Nat) (hi : (j : Nat) = i) (hv : lv[p]? = some (i, .double x)) (hdg : decode cc pc = .ok (.dload_n j, 1)) (kk : WW g z nL n k ad μ (pc + 1) lv (.double x :: st)) : WW g z nL n k ad μ pc lv st := fun H locs ls M S L => lv_dload_n K.1.1 K.1.2.1 hdg hi (lv_at L p hv) (kk H locs ls M S L)
theorem r_dload (K : Kn g z cc nL y0 ret tb lev mc ms ad0 μ0 ok ex) {i : Nat} {x : UInt64} (p : Nat) (hv : lv[p]? = some (i, .double x)) (hdg : decode cc pc = .ok (.dload i, 2)) (kk : WW g z nL n k ad μ (pc + 2) lv (.double x :: st)) : WW g z nL n k ad μ pc lv st := fun H locs ls M S L => lv_dload K.1.1 K.1.2.1 hdg (lv_at L p hv) (kk H locs ls M S L)
theorem r_aload_n (K : Kn g z cc nL y0 ret tb lev mc ms ad0 μ0 ok ex) {j : Fin 4} {i x : Nat} (p : Nat) (hi : (j : Nat) = i) (hv : lv[p]? = some (i, .ref x)) (hdg : decode cc pc = .ok (.aload_n j, 1)) (kk : WW g z nL n k ad μ (pc + 1) lv (.ref x :: st)) : WW g z nL n k ad μ pc lv st := fun H locs ls M S L => lv_aload_n K.1.1 K.1.2.1 hdg hi (lv_at L p hv) (kk H locs ls M S L)
theorem r_aload (K : Kn g z cc nL y0 ret tb lev mc ms ad0 μ0 ok ex) {i x : Nat} (p : Nat) (hv : lv[p]? = some (i, .ref x)) (hdg : decode cc pc = .ok (.aload i, 2)) (kk : WW g z nL n k ad μ (pc + 2) lv (.ref x :: st)) : WW g z nL n k ad μ pc lv st := fun H locs ls M S L => lv_aload K.1.1 K.1.2.1 hdg (lv_at L p hv) (kk H locs ls M S L)
theorem r_istore_n (K : Kn g z cc nL y0 ret tb lev mc ms ad0 μ0 ok ex) {j : Fin 4} {i : Nat} {x : Int32} (hi : (j : Nat) = i) (hn : i < nL) (hl : (i, Value.int x) :: lv.filter (fun q => !(q.1 == i) && !(q.1 + 1 == i && q.2.category == 2)) = lv') (hdg : decode cc pc = .ok (.istore_n j, 1)) (kk : WW g z nL n k ad μ (pc + 1) lv' st) : WW g z nL n k ad μ pc lv (.int x :: st) := fun H locs ls M S L => lv_istore_n K.1.1 K.1.2.1 hdg hi L hn hl (fun ls1 L1 => kk H locs ls1 M S L1)
theorem r_istore (K : Kn g z cc nL y0 ret tb lev mc ms ad0 μ0 ok ex) {i : Nat} {x : Int32} (hn : i < nL) (hl : (i, Value.int x) :: lv.filter (fun q => !(q.1 == i) && !(q.1 + 1 == i && q.2.category == 2)) = lv') (hdg : decode cc pc = .ok (.istore i, 2)) (kk : WW g z nL n k ad μ (pc + 2) lv' st) : WW g z nL n k ad μ pc lv (.int x :: st) := fun H locs ls M S L => lv_istore K.1.1 K.1.2.1 hdg L hn hl (fun ls1 L1 => kk H locs ls1 M S L1)
theorem r_astore_n (K : Kn g z cc nL y0 ret tb lev mc ms ad0 μ0 ok ex) {j : Fin 4} {i : Nat} {x : Nat} (hi : (j : Nat) = i) (hn : i < nL) (hl : (i, Value.ref x) :: lv.filter (fun q => !(q.1 == i) && !(q.1 + 1 == i && q.2.category == 2)) = lv') (hdg : decode cc pc = .ok (.astore_n j, 1)) (kk : WW g z nL n k ad μ (pc + 1) lv' st) : WW g z nL n k ad μ pc lv (.ref x :: st) := fun H locs ls M S L => lv_astore_n K.1.1 K.1.2.1 hdg hi L hn hl (fun ls1 L1 => kk H locs ls1 M S L1)
theorem r_astore (K : Kn g z cc nL y0 ret tb lev mc ms ad0 μ0 ok ex) {i : Nat} {x : Nat} (hn : i < nL) (hl : (i, Value.ref x) :: lv.filter (fun q => !(q.1 == i) && !(q.1 + 1 == i && q.2.category == 2)) = lv') (hdg : decode cc pc = .ok (.astore i, 2)) (kk : WW g z nL n k ad μ (pc + 2) lv' st) : WW g z nL n k ad μ pc lv (.ref x :: st) := fun H locs ls M S L => lv_astore K.1.1 K.1.2.1 hdg L hn hl (fun ls1 L1 => kk H locs ls1 M S L1)
theorem r_lstore_n (K : Kn g z cc nL y0 ret tb lev mc ms ad0 μ0 ok ex) {j : Fin 4} {i : Nat} {x : Int64} (hi : (j : Nat) = i) (hn : i + 1 < nL) (hl : (i, Value.long x) :: lv.filter (fun q => !(q.1 == i) && (!(q.1 == i + 1) && !(q.1 + 1 == i && q.2.category == 2))) = lv') (hdg : decode cc pc = .ok (.lstore_n j, 1)) (kk : WW g z nL n k ad μ (pc + 1) lv' st) : WW g z nL n k ad μ pc lv (.long x :: st) := fun H locs ls M S L => lv_lstore_n K.1.1 K.1.2.1 hdg hi L hn hl (fun ls1 L1 => kk H locs ls1 M S L1)
theorem r_lstore (K : Kn g z cc nL y0 ret tb lev mc ms ad0 μ0 ok ex) {i : Nat} {x : Int64} (hn : i + 1 < nL) (hl : (i, Value.long x) :: lv.filter (fun q => !(q.1 == i) && (!(q.1 == i + 1) && !(q.1 + 1 == i && q.2.category == 2))) = lv') (hdg : decode cc pc = .ok (.lstore i, 2)) (kk : WW g z nL n k ad μ (pc + 2) lv' st) : WW g z nL n k ad μ pc lv (.long x :: st) := fun H locs ls M S L => lv_lstore K.1.1 K.1.2.1 hdg L hn hl (fun ls1 L1 => kk H locs ls1 M S L1)
theorem r_dstore_n (K : Kn g z cc nL y0 ret tb lev mc ms ad0 μ0 ok ex) {j : Fin 4} {i : Nat} {x : UInt64} (hi : (j : Nat) = i) (hn : i + 1 < nL) (hl : (i, Value.double x) :: lv.filter (fun q => !(q.1 == i) && (!(q.1 == i + 1) && !(q.1 + 1 == i && q.2.category == 2))) = lv') (hdg : decode cc pc = .ok (.dstore_n j, 1)) (kk : WW g z nL n k ad μ (pc + 1) lv' st) : WW g z nL n k ad μ pc lv (.double x :: st) := fun H locs ls M S L => lv_dstore_n K.1.1 K.1.2.1 hdg hi L hn hl (fun ls1 L1 => kk H locs ls1 M S L1)
theorem r_dstore (K : Kn g z cc nL y0 ret tb lev mc ms ad0 μ0 ok ex) {i : Nat} {x : UInt64} (hn : i + 1 < nL) (hl : (i, Value.double x) :: lv.filter (fun q => !(q.1 == i) && (!(q.1 == i + 1) && !(q.1 + 1 == i && q.2.category == 2))) = lv') (hdg : decode cc pc = .ok (.dstore i, 2)) (kk : WW g z nL n k ad μ (pc + 2) lv' st) : WW g z nL n k ad μ pc lv (.double x :: st) := fun H locs ls M S L => lv_dstore K.1.1 K.1.2.1 hdg L hn hl (fun ls1 L1 => kk H locs ls1 M S L1)
theorem r_iinc (K : Kn g z cc nL y0 ret tb lev mc ms ad0 μ0 ok ex) {i : Nat} {m : Int} {x v : Int32} (p : Nat) (hk : lv[p]? = some (i, .int x)) (hv : x + Int32.ofInt m = v) (hn : i < nL) (hl : (i, Value.int v) :: lv.filter (fun q => !(q.1 == i) && !(q.1 + 1 == i && q.2.category == 2)) = lv') (hdg : decode cc pc = .ok (.iinc i m, 3)) (kk : WW g z nL n k ad μ (pc + 3) lv' st) : WW g z nL n k ad μ pc lv st := fun H locs ls M S L => lv_iinc K.1.1 K.1.2.1 hdg L hk hv hn hl (fun ls1 L1 => kk H locs ls1 M S L1)
theorem r_iconst (K : Kn g z cc nL y0 ret tb lev mc ms ad0 μ0 ok ex) {m : Int} {v : Int32} (hv : Int32.ofInt m = v) (hdg : decode cc pc = .ok (.iconst m, 1)) (kk : WW g z nL n k ad μ (pc + 1) lv (.int v :: st)) : WW g z nL n k ad μ pc lv st := fun H locs ls M S L => lv_iconst K.1.1 K.1.2.1 hdg hv (kk H locs ls M S L)
theorem r_bipush (K : Kn g z cc nL y0 ret tb lev mc ms ad0 μ0 ok ex) {m : Int} {v : Int32} (hv : (Int8.ofInt m).toInt32 = v) (hdg : decode cc pc = .ok (.bipush m, 2)) (kk : WW g z nL n k ad μ (pc + 2) lv (.int v :: st)) : WW g z nL n k ad μ pc lv st := fun H locs ls M S L => lv_bipush K.1.1 K.1.2.1 hdg hv (kk H locs ls M S L)
theorem r_sipush (K : Kn g z cc nL y0 ret tb lev mc ms ad0 μ0 ok ex) {m : Int} {v : Int32} (hv : (Int16.ofInt m).toInt32 = v) (hdg : decode cc pc = .ok (.sipush m, 3)) (kk : WW g z nL n k ad μ (pc + 3) lv (.int v :: st)) : WW g z nL n k ad μ pc lv st := fun H locs ls M S L => lv_sipush K.1.1 K.1.2.1 hdg hv (kk H locs ls M S L)
theorem r_lconst (K : Kn g z cc nL y0 ret tb lev mc ms ad0 μ0 ok ex) {m : Fin 2} {v : Int64} (hv : Int64.ofNat (m : Nat) = v) (hdg : decode cc pc = .ok (.lconst m, 1)) (kk : WW g z nL n k ad μ (pc + 1) lv (.long v :: st)) : WW g z nL n k ad μ pc lv st := fun H locs ls M S L => lv_lconst K.1.1 K.1.2.1 hdg hv (kk H locs ls M S L)
theorem r_null (K : Kn g z cc nL y0 ret tb lev mc ms ad0 μ0 ok ex)  (hdg : decode cc pc = .ok (.aconst_null, 1)) (kk : WW g z nL n k ad μ (pc + 1) lv (.null :: st)) : WW g z nL n k ad μ pc lv st := fun H locs ls M S L => lv_null K.1.1 K.1.2.1 hdg (kk H locs ls M S L)
theorem r_ldc (K : Kn g z cc nL y0 ret tb lev mc ms ad0 μ0 ok ex) {index : Nat} {v : Int32} (hc : Cond.constant y0.cls index v ∈ WALL) (hdg : decode cc pc = .ok (.ldc index, 2)) (kk : WW g z nL n k ad μ (pc + 2) lv (.int v :: st)) : WW g z nL n k ad μ pc lv st := fun H locs ls M S L => lv_ldc K.1.1 K.1.2.1 K.1.2.2.2.1 (K.1.2.2.2.2 _ hc) hdg (kk H locs ls M S L)
theorem r_ldcw (K : Kn g z cc nL y0 ret tb lev mc ms ad0 μ0 ok ex) {index : Nat} {v : Int32} (hc : Cond.constant y0.cls index v ∈ WALL) (hdg : decode cc pc = .ok (.ldc_w index, 3)) (kk : WW g z nL n k ad μ (pc + 3) lv (.int v :: st)) : WW g z nL n k ad μ pc lv st := fun H locs ls M S L => lv_ldcw K.1.1 K.1.2.1 K.1.2.2.2.1 (K.1.2.2.2.2 _ hc) hdg (kk H locs ls M S L)
theorem r_iadd (K : Kn g z cc nL y0 ret tb lev mc ms ad0 μ0 ok ex) {x y v : Int32} (hv : x + y = v) (hdg : decode cc pc = .ok (.iadd, 1)) (kk : WW g z nL n k ad μ (pc + 1) lv (.int v :: st)) : WW g z nL n k ad μ pc lv (.int y :: .int x :: st) := by subst hv; exact fun H locs ls M S L => lv_iadd K.1.1 K.1.2.1 hdg (kk H locs ls M S L)
theorem r_isub (K : Kn g z cc nL y0 ret tb lev mc ms ad0 μ0 ok ex) {x y v : Int32} (hv : x - y = v) (hdg : decode cc pc = .ok (.isub, 1)) (kk : WW g z nL n k ad μ (pc + 1) lv (.int v :: st)) : WW g z nL n k ad μ pc lv (.int y :: .int x :: st) := by subst hv; exact fun H locs ls M S L => lv_isub K.1.1 K.1.2.1 hdg (kk H locs ls M S L)
theorem r_imul (K : Kn g z cc nL y0 ret tb lev mc ms ad0 μ0 ok ex) {x y v : Int32} (hv : x * y = v) (hdg : decode cc pc = .ok (.imul, 1)) (kk : WW g z nL n k ad μ (pc + 1) lv (.int v :: st)) : WW g z nL n k ad μ pc lv (.int y :: .int x :: st) := by subst hv; exact fun H locs ls M S L => lv_imul K.1.1 K.1.2.1 hdg (kk H locs ls M S L)
theorem r_iand (K : Kn g z cc nL y0 ret tb lev mc ms ad0 μ0 ok ex) {x y v : Int32} (hv : x &&& y = v) (hdg : decode cc pc = .ok (.iand, 1)) (kk : WW g z nL n k ad μ (pc + 1) lv (.int v :: st)) : WW g z nL n k ad μ pc lv (.int y :: .int x :: st) := by subst hv; exact fun H locs ls M S L => lv_iand K.1.1 K.1.2.1 hdg (kk H locs ls M S L)
theorem r_idiv (K : Kn g z cc nL y0 ret tb lev mc ms ad0 μ0 ok ex) {x y v : Int32} (hne : ¬ y = 0) (hv : x / y = v) (hdg : decode cc pc = .ok (.idiv, 1)) (kk : WW g z nL n k ad μ (pc + 1) lv (.int v :: st)) : WW g z nL n k ad μ pc lv (.int y :: .int x :: st) := by subst hv; exact fun H locs ls M S L => lv_idiv K.1.1 K.1.2.1 hdg hne (kk H locs ls M S L)
theorem r_irem (K : Kn g z cc nL y0 ret tb lev mc ms ad0 μ0 ok ex) {x y v : Int32} (hne : ¬ y = 0) (hv : x - x / y * y = v) (hdg : decode cc pc = .ok (.irem, 1)) (kk : WW g z nL n k ad μ (pc + 1) lv (.int v :: st)) : WW g z nL n k ad μ pc lv (.int y :: .int x :: st) := by subst hv; exact fun H locs ls M S L => lv_irem K.1.1 K.1.2.1 hdg hne (kk H locs ls M S L)
theorem r_ineg (K : Kn g z cc nL y0 ret tb lev mc ms ad0 μ0 ok ex) {x v : Int32} (hv : -x = v) (hdg : decode cc pc = .ok (.ineg, 1)) (kk : WW g z nL n k ad μ (pc + 1) lv (.int v :: st)) : WW g z nL n k ad μ pc lv (.int x :: st) := by subst hv; exact fun H locs ls M S L => lv_ineg K.1.1 K.1.2.1 hdg (kk H locs ls M S L)
theorem r_ishl (K : Kn g z cc nL y0 ret tb lev mc ms ad0 μ0 ok ex) {x y v : Int32} (hv : x <<< (y &&& 31) = v) (hdg : decode cc pc = .ok (.ishl, 1)) (kk : WW g z nL n k ad μ (pc + 1) lv (.int v :: st)) : WW g z nL n k ad μ pc lv (.int y :: .int x :: st) := by subst hv; exact fun H locs ls M S L => lv_ishl K.1.1 K.1.2.1 hdg (kk H locs ls M S L)
theorem r_ishr (K : Kn g z cc nL y0 ret tb lev mc ms ad0 μ0 ok ex) {x y v : Int32} (hv : x >>> (y &&& 31) = v) (hdg : decode cc pc = .ok (.ishr, 1)) (kk : WW g z nL n k ad μ (pc + 1) lv (.int v :: st)) : WW g z nL n k ad μ pc lv (.int y :: .int x :: st) := by subst hv; exact fun H locs ls M S L => lv_ishr K.1.1 K.1.2.1 hdg (kk H locs ls M S L)
theorem r_ladd (K : Kn g z cc nL y0 ret tb lev mc ms ad0 μ0 ok ex) {x y v : Int64} (hv : x + y = v) (hdg : decode cc pc = .ok (.ladd, 1)) (kk : WW g z nL n k ad μ (pc + 1) lv (.long v :: st)) : WW g z nL n k ad μ pc lv (.long y :: .long x :: st) := by subst hv; exact fun H locs ls M S L => lv_ladd K.1.1 K.1.2.1 hdg (kk H locs ls M S L)
theorem r_i2l (K : Kn g z cc nL y0 ret tb lev mc ms ad0 μ0 ok ex) {x : Int32} {v : Int64} (hv : x.toInt64 = v) (hdg : decode cc pc = .ok (.i2l, 1)) (kk : WW g z nL n k ad μ (pc + 1) lv (.long v :: st)) : WW g z nL n k ad μ pc lv (.int x :: st) := fun H locs ls M S L => lv_i2l K.1.1 K.1.2.1 hdg hv (kk H locs ls M S L)
theorem r_i2c (K : Kn g z cc nL y0 ret tb lev mc ms ad0 μ0 ok ex) {x v : Int32} (hv : (x.toUInt32 % 65536).toInt32 = v) (hdg : decode cc pc = .ok (.i2c, 1)) (kk : WW g z nL n k ad μ (pc + 1) lv (.int v :: st)) : WW g z nL n k ad μ pc lv (.int x :: st) := fun H locs ls M S L => lv_i2c K.1.1 K.1.2.1 hdg hv (kk H locs ls M S L)
theorem r_i2b (K : Kn g z cc nL y0 ret tb lev mc ms ad0 μ0 ok ex) {x v : Int32} (hv : x.toInt8.toInt32 = v) (hdg : decode cc pc = .ok (.i2b, 1)) (kk : WW g z nL n k ad μ (pc + 1) lv (.int v :: st)) : WW g z nL n k ad μ pc lv (.int x :: st) := fun H locs ls M S L => lv_i2b K.1.1 K.1.2.1 hdg hv (kk H locs ls M S L)
theorem r_i2d (K : Kn g z cc nL y0 ret tb lev mc ms ad0 μ0 ok ex) {x : Int32} (hdg : decode cc pc = .ok (.i2d, 1)) (kk : WW g z nL n k ad μ (pc + 1) lv (.double (FP.i2d x) :: st)) : WW g z nL n k ad μ pc lv (.int x :: st) := fun H locs ls M S L => lv_i2d K.1.1 K.1.2.1 hdg (kk H locs ls M S L)
theorem r_l2d (K : Kn g z cc nL y0 ret tb lev mc ms ad0 μ0 ok ex) {x : Int64} (hdg : decode cc pc = .ok (.l2d, 1)) (kk : WW g z nL n k ad μ (pc + 1) lv (.double (FP.l2d x) :: st)) : WW g z nL n k ad μ pc lv (.long x :: st) := fun H locs ls M S L => lv_l2d K.1.1 K.1.2.1 hdg (kk H locs ls M S L)
theorem r_ddiv (K : Kn g z cc nL y0 ret tb lev mc ms ad0 μ0 ok ex) {x y : UInt64} (hne : vf_n64 (FP.ddiv x y)) (hdg : decode cc pc = .ok (.ddiv, 1)) (kk : WW g z nL n k ad μ (pc + 1) lv (.double (FP.ddiv x y) :: st)) : WW g z nL n k ad μ pc lv (.double y :: .double x :: st) := fun H locs ls M S L => lv_ddiv K.1.1 K.1.2.1 hdg hne (kk H locs ls M S L)
theorem r_dcmp (K : Kn g z cc nL y0 ret tb lev mc ms ad0 μ0 ok ex) {x y : UInt64} {op : CmpOp} (hdg : decode cc pc = .ok (.dcmp op, 1)) (kk : WW g z nL n k ad μ (pc + 1) lv (.int (Op.cmpValue (FP.dcmp x y) op) :: st)) : WW g z nL n k ad μ pc lv (.double y :: .double x :: st) := fun H locs ls M S L => lv_dcmp K.1.1 K.1.2.1 hdg (kk H locs ls M S L)
theorem r_dup (K : Kn g z cc nL y0 ret tb lev mc ms ad0 μ0 ok ex) {va : Value} (hva : va.category = 1) (hdg : decode cc pc = .ok (.dup, 1)) (kk : WW g z nL n k ad μ (pc + 1) lv (va :: va :: st)) : WW g z nL n k ad μ pc lv (va :: st) := fun H locs ls M S L => lv_dup K.1.1 K.1.2.1 hdg hva (kk H locs ls M S L)
theorem r_pop (K : Kn g z cc nL y0 ret tb lev mc ms ad0 μ0 ok ex) {va : Value} (hva : va.category = 1) (hdg : decode cc pc = .ok (.pop, 1)) (kk : WW g z nL n k ad μ (pc + 1) lv st) : WW g z nL n k ad μ pc lv (va :: st) := fun H locs ls M S L => lv_pop K.1.1 K.1.2.1 hdg hva (kk H locs ls M S L)
theorem r_dup2 (K : Kn g z cc nL y0 ret tb lev mc ms ad0 μ0 ok ex) {va vb : Value} (hva : va.category = 1) (hvb : vb.category = 1) (hdg : decode cc pc = .ok (.dup2, 1)) (kk : WW g z nL n k ad μ (pc + 1) lv (va :: vb :: va :: vb :: st)) : WW g z nL n k ad μ pc lv (va :: vb :: st) := fun H locs ls M S L => lv_dup2_11 K.1.1 K.1.2.1 hdg hva hvb (kk H locs ls M S L)
theorem r_dup_x1 (K : Kn g z cc nL y0 ret tb lev mc ms ad0 μ0 ok ex) {va vb : Value} (hva : va.category = 1) (hvb : vb.category = 1) (hdg : decode cc pc = .ok (.dup_x1, 1)) (kk : WW g z nL n k ad μ (pc + 1) lv (va :: vb :: va :: st)) : WW g z nL n k ad μ pc lv (va :: vb :: st) := fun H locs ls M S L => lv_dup_x1 K.1.1 K.1.2.1 hdg hva hvb (kk H locs ls M S L)
theorem r_if_eq (K : Kn g z cc nL y0 ret tb lev mc ms ad0 μ0 ok ex) {x : Int32} {off : Int} (tgt : Nat) (C : Prop) (hc : x = 0 ↔ C) (hdg : decode cc pc = .ok (.ifCond .eq off, 3)) (ht : (pc : Int) + off = (tgt : Int)) (kt : C → WW g z nL n k ad μ tgt lv st) (kf : ¬ C → WW g z nL n k ad μ (pc + 3) lv st) : WW g z nL n k ad μ pc lv (.int x :: st) := fun H locs ls M S L => lv_if_eq K.1.1 K.1.2.1 hdg ht (fun h => kt (hc.mp h) H locs ls M S L) (fun h => kf (fun q => h (hc.mpr q)) H locs ls M S L)
theorem r_icmp_eq (K : Kn g z cc nL y0 ret tb lev mc ms ad0 μ0 ok ex) {x y : Int32} {off : Int} (tgt : Nat) (C : Prop) (hc : x = y ↔ C) (hdg : decode cc pc = .ok (.if_icmp .eq off, 3)) (ht : (pc : Int) + off = (tgt : Int)) (kt : C → WW g z nL n k ad μ tgt lv st) (kf : ¬ C → WW g z nL n k ad μ (pc + 3) lv st) : WW g z nL n k ad μ pc lv (.int y :: .int x :: st) := fun H locs ls M S L => lv_icmp_eq K.1.1 K.1.2.1 hdg ht (fun h => kt (hc.mp h) H locs ls M S L) (fun h => kf (fun q => h (hc.mpr q)) H locs ls M S L)
theorem r_if_ne (K : Kn g z cc nL y0 ret tb lev mc ms ad0 μ0 ok ex) {x : Int32} {off : Int} (tgt : Nat) (C : Prop) (hc : x = 0 ↔ C) (hdg : decode cc pc = .ok (.ifCond .ne off, 3)) (ht : (pc : Int) + off = (tgt : Int)) (kt : ¬ C → WW g z nL n k ad μ tgt lv st) (kf : C → WW g z nL n k ad μ (pc + 3) lv st) : WW g z nL n k ad μ pc lv (.int x :: st) := fun H locs ls M S L => lv_if_ne K.1.1 K.1.2.1 hdg ht (fun h => kt (fun q => h (hc.mpr q)) H locs ls M S L) (fun h => kf (hc.mp h) H locs ls M S L)
theorem r_icmp_ne (K : Kn g z cc nL y0 ret tb lev mc ms ad0 μ0 ok ex) {x y : Int32} {off : Int} (tgt : Nat) (C : Prop) (hc : x = y ↔ C) (hdg : decode cc pc = .ok (.if_icmp .ne off, 3)) (ht : (pc : Int) + off = (tgt : Int)) (kt : ¬ C → WW g z nL n k ad μ tgt lv st) (kf : C → WW g z nL n k ad μ (pc + 3) lv st) : WW g z nL n k ad μ pc lv (.int y :: .int x :: st) := fun H locs ls M S L => lv_icmp_ne K.1.1 K.1.2.1 hdg ht (fun h => kt (fun q => h (hc.mpr q)) H locs ls M S L) (fun h => kf (hc.mp h) H locs ls M S L)
theorem r_if_lt (K : Kn g z cc nL y0 ret tb lev mc ms ad0 μ0 ok ex) {x : Int32} {off : Int} (tgt : Nat) (C : Prop) (hc : x < 0 ↔ C) (hdg : decode cc pc = .ok (.ifCond .lt off, 3)) (ht : (pc : Int) + off = (tgt : Int)) (kt : C → WW g z nL n k ad μ tgt lv st) (kf : ¬ C → WW g z nL n k ad μ (pc + 3) lv st) : WW g z nL n k ad μ pc lv (.int x :: st) := fun H locs ls M S L => lv_if_lt K.1.1 K.1.2.1 hdg ht (fun h => kt (hc.mp h) H locs ls M S L) (fun h => kf (fun q => h (hc.mpr q)) H locs ls M S L)
theorem r_icmp_lt (K : Kn g z cc nL y0 ret tb lev mc ms ad0 μ0 ok ex) {x y : Int32} {off : Int} (tgt : Nat) (C : Prop) (hc : x < y ↔ C) (hdg : decode cc pc = .ok (.if_icmp .lt off, 3)) (ht : (pc : Int) + off = (tgt : Int)) (kt : C → WW g z nL n k ad μ tgt lv st) (kf : ¬ C → WW g z nL n k ad μ (pc + 3) lv st) : WW g z nL n k ad μ pc lv (.int y :: .int x :: st) := fun H locs ls M S L => lv_icmp_lt K.1.1 K.1.2.1 hdg ht (fun h => kt (hc.mp h) H locs ls M S L) (fun h => kf (fun q => h (hc.mpr q)) H locs ls M S L)
theorem r_if_ge (K : Kn g z cc nL y0 ret tb lev mc ms ad0 μ0 ok ex) {x : Int32} {off : Int} (tgt : Nat) (C : Prop) (hc : 0 ≤ x ↔ C) (hdg : decode cc pc = .ok (.ifCond .ge off, 3)) (ht : (pc : Int) + off = (tgt : Int)) (kt : C → WW g z nL n k ad μ tgt lv st) (kf : ¬ C → WW g z nL n k ad μ (pc + 3) lv st) : WW g z nL n k ad μ pc lv (.int x :: st) := fun H locs ls M S L => lv_if_ge K.1.1 K.1.2.1 hdg ht (fun h => kt (hc.mp h) H locs ls M S L) (fun h => kf (fun q => h (hc.mpr q)) H locs ls M S L)
theorem r_icmp_ge (K : Kn g z cc nL y0 ret tb lev mc ms ad0 μ0 ok ex) {x y : Int32} {off : Int} (tgt : Nat) (C : Prop) (hc : y ≤ x ↔ C) (hdg : decode cc pc = .ok (.if_icmp .ge off, 3)) (ht : (pc : Int) + off = (tgt : Int)) (kt : C → WW g z nL n k ad μ tgt lv st) (kf : ¬ C → WW g z nL n k ad μ (pc + 3) lv st) : WW g z nL n k ad μ pc lv (.int y :: .int x :: st) := fun H locs ls M S L => lv_icmp_ge K.1.1 K.1.2.1 hdg ht (fun h => kt (hc.mp h) H locs ls M S L) (fun h => kf (fun q => h (hc.mpr q)) H locs ls M S L)
theorem r_if_gt (K : Kn g z cc nL y0 ret tb lev mc ms ad0 μ0 ok ex) {x : Int32} {off : Int} (tgt : Nat) (C : Prop) (hc : 0 < x ↔ C) (hdg : decode cc pc = .ok (.ifCond .gt off, 3)) (ht : (pc : Int) + off = (tgt : Int)) (kt : C → WW g z nL n k ad μ tgt lv st) (kf : ¬ C → WW g z nL n k ad μ (pc + 3) lv st) : WW g z nL n k ad μ pc lv (.int x :: st) := fun H locs ls M S L => lv_if_gt K.1.1 K.1.2.1 hdg ht (fun h => kt (hc.mp h) H locs ls M S L) (fun h => kf (fun q => h (hc.mpr q)) H locs ls M S L)
theorem r_icmp_gt (K : Kn g z cc nL y0 ret tb lev mc ms ad0 μ0 ok ex) {x y : Int32} {off : Int} (tgt : Nat) (C : Prop) (hc : y < x ↔ C) (hdg : decode cc pc = .ok (.if_icmp .gt off, 3)) (ht : (pc : Int) + off = (tgt : Int)) (kt : C → WW g z nL n k ad μ tgt lv st) (kf : ¬ C → WW g z nL n k ad μ (pc + 3) lv st) : WW g z nL n k ad μ pc lv (.int y :: .int x :: st) := fun H locs ls M S L => lv_icmp_gt K.1.1 K.1.2.1 hdg ht (fun h => kt (hc.mp h) H locs ls M S L) (fun h => kf (fun q => h (hc.mpr q)) H locs ls M S L)
theorem r_if_le (K : Kn g z cc nL y0 ret tb lev mc ms ad0 μ0 ok ex) {x : Int32} {off : Int} (tgt : Nat) (C : Prop) (hc : x ≤ 0 ↔ C) (hdg : decode cc pc = .ok (.ifCond .le off, 3)) (ht : (pc : Int) + off = (tgt : Int)) (kt : C → WW g z nL n k ad μ tgt lv st) (kf : ¬ C → WW g z nL n k ad μ (pc + 3) lv st) : WW g z nL n k ad μ pc lv (.int x :: st) := fun H locs ls M S L => lv_if_le K.1.1 K.1.2.1 hdg ht (fun h => kt (hc.mp h) H locs ls M S L) (fun h => kf (fun q => h (hc.mpr q)) H locs ls M S L)
theorem r_icmp_le (K : Kn g z cc nL y0 ret tb lev mc ms ad0 μ0 ok ex) {x y : Int32} {off : Int} (tgt : Nat) (C : Prop) (hc : x ≤ y ↔ C) (hdg : decode cc pc = .ok (.if_icmp .le off, 3)) (ht : (pc : Int) + off = (tgt : Int)) (kt : C → WW g z nL n k ad μ tgt lv st) (kf : ¬ C → WW g z nL n k ad μ (pc + 3) lv st) : WW g z nL n k ad μ pc lv (.int y :: .int x :: st) := fun H locs ls M S L => lv_icmp_le K.1.1 K.1.2.1 hdg ht (fun h => kt (hc.mp h) H locs ls M S L) (fun h => kf (fun q => h (hc.mpr q)) H locs ls M S L)
theorem r_goto (K : Kn g z cc nL y0 ret tb lev mc ms ad0 μ0 ok ex) {off : Int} (tgt : Nat) (hdg : decode cc pc = .ok (.goto off, 3)) (ht : (pc : Int) + off = (tgt : Int)) (kk : WW g z nL n k ad μ tgt lv st) : WW g z nL n k ad μ pc lv st := fun H locs ls M S L => lv_goto K.1.1 K.1.2.1 hdg ht (kk H locs ls M S L)
theorem r_lcmp (K : Kn g z cc nL y0 ret tb lev mc ms ad0 μ0 ok ex) {x y : Int64} (hdg : decode cc pc = .ok (.lcmp, 1)) (kk : WW g z nL n k ad μ (pc + 1) lv (.int (lg_cmp x y) :: st)) : WW g z nL n k ad μ pc lv (.long y :: .long x :: st) := fun H locs ls M S L => W.lcmp K.1.1 K.1.2.1 hdg (kk H locs ls M S L)
theorem r_tableIn (K : Kn g z cc nL y0 ret tb lev mc ms ad0 μ0 ok ex) {dflt lo hi : Int} {offs : Array Int} {len : Nat} {x : Int32} {off : Int} (tgt : Nat) (hdg : decode cc pc = .ok (.tableswitch dflt lo hi offs, len)) (h1 : ¬ x.toInt < lo) (h2 : ¬ hi < x.toInt) (ho : offs[(x.toInt - lo).toNat]? = some off) (ht : (pc : Int) + off = (tgt : Int)) (kk : WW g z nL n k ad μ tgt lv st) : WW g z nL n k ad μ pc lv (.int x :: st) := fun H locs ls M S L => lv_tableIn K.1.1 K.1.2.1 hdg h1 h2 ho ht (kk H locs ls M S L)
theorem r_tableOut (K : Kn g z cc nL y0 ret tb lev mc ms ad0 μ0 ok ex) {dflt lo hi : Int} {offs : Array Int} {len : Nat} {x : Int32} (tgt : Nat) (hdg : decode cc pc = .ok (.tableswitch dflt lo hi offs, len)) (h : x.toInt < lo ∨ hi < x.toInt) (ht : (pc : Int) + dflt = (tgt : Int)) (kk : WW g z nL n k ad μ tgt lv st) : WW g z nL n k ad μ pc lv (.int x :: st) := fun H locs ls M S L => lv_tableOut K.1.1 K.1.2.1 hdg h ht (kk H locs ls M S L)
theorem r_acmp_eq (K : Kn g z cc nL y0 ret tb lev mc ms ad0 μ0 ok ex) {a b : Nat} {off : Int} (tgt : Nat) (hdg : decode cc pc = .ok (.if_acmp .eq off, 3)) (ht : (pc : Int) + off = (tgt : Int)) (kt : a = b → WW g z nL n k ad μ tgt lv st) (kf : ¬ a = b → WW g z nL n k ad μ (pc + 3) lv st) : WW g z nL n k ad μ pc lv (.ref b :: .ref a :: st) := fun H locs ls M S L => lv_acmp_eq (rx := some a) (ry := some b) K.1.1 K.1.2.1 hdg ht (fun h => kt (Option.some.inj h) H locs ls M S L) (fun h => kf (fun q => h (congrArg some q)) H locs ls M S L)
theorem r_acmp_ne (K : Kn g z cc nL y0 ret tb lev mc ms ad0 μ0 ok ex) {a b : Nat} {off : Int} (tgt : Nat) (hdg : decode cc pc = .ok (.if_acmp .ne off, 3)) (ht : (pc : Int) + off = (tgt : Int)) (kt : ¬ a = b → WW g z nL n k ad μ tgt lv st) (kf : a = b → WW g z nL n k ad μ (pc + 3) lv st) : WW g z nL n k ad μ pc lv (.ref b :: .ref a :: st) := fun H locs ls M S L => lv_acmp_ne (rx := some a) (ry := some b) K.1.1 K.1.2.1 hdg ht (fun h => kt (fun q => h (congrArg some q)) H locs ls M S L) (fun h => kf (Option.some.inj h) H locs ls M S L)
theorem r_eq {ad' : Nm} {μ' : Ce} {st' : List Value} (h1 : ad = ad') (h2 : μ = μ') (h3 : lv = lv') (h4 : st = st') (kk : WW g z nL n k ad' μ' pc lv' st') : WW g z nL n k ad μ pc lv st := by subst h1; subst h2; subst h3; subst h4; exact kk
theorem r_mu {μ' : Ce} (h : μ = μ') (kk : WW g z nL n k ad μ' pc lv st) : WW g z nL n k ad μ pc lv st := by subst h; exact kk
theorem r_lv (ps : List Nat) (h : lv_pick lv ps = lv') (kk : WW g z nL n k ad μ pc lv' st) : WW g z nL n k ad μ pc lv st := fun H locs ls M S L => kk H locs ls M S (lv_sub L ps h)
theorem r_wide {n' k' : Nat} (h1 : n ≤ n') (h2 : k ≤ k') (kk : WW g z nL n' k' ad μ pc lv st) : WW g z nL n k ad μ pc lv st := fun H locs ls M S L => W.widen h1 h2 (kk H locs ls M S L)
end ZR
end
section
/-! ROWS of memory, calls, ends, throws -/
def FdZ (own : String) (index ci fk : Nat) (ft : FieldType) (fin : Bool) : Prop := ∃ (C : String) (T : u_T) (N : Nat) (ty : Nat → FieldType) (ref : String), vwCl[ci]? = some (C, T, N) ∧ fk < N ∧ (∀ w ∈ u_ws C T N, w ∈ WALL) ∧ Cond.fieldLink own index ref (T fk).2.1 (T fk).2.2.1 ∈ WALL ∧ (ref = (T fk).1 ∨ Cond.sameField ref (T fk).1 (T fk).2.1 (T fk).2.2.1 ∈ WALL) ∧ (∀ k, k < N → parseFieldDescriptor (T k).2.2.1 = some (ty k)) ∧ (∀ a, a < N → ∀ b, b < N → a ≠ b → (T a).2.1 ≠ (T b).2.1) ∧ ty fk = ft ∧ (T fk).2.2.2 = fin
theorem cA_eq {s : State} {c1 c2 : ClassId} {ty : FieldType} (h1 : va_RA s c1 ty) (h2 : va_RA s c2 ty) : c1 = c2 := by
  cases ty with
  | object C =>
    obtain ⟨-, -, -, -, -, a1⟩ := h1
    obtain ⟨-, -, -, -, -, a2⟩ := h2
    exact Option.some.inj (a1.symm.trans a2)
  | _ => exact Option.some.inj (h1.symm.trans h2)
theorem Hv.kept {z : Zx} {ad : Nm} {μ : Ce} {H H1 : Heap} (h : Hv z ad μ H) (hq : ∀ q : Nat, q < H.size → H1[q]? = H[q]?) : Hv z ad μ H1 := ⟨fun k i e he => ⟨(h.1 k i e he).1.kept (hq _ (h.lt he)), (h.1 k i e he).2⟩, h.2⟩
theorem koBlind {z : Zx} {as : List Value} {ad : Nm} {μ : Ce} : FrameBlind (va_Pc as (fun U => Ev z U ∧ Hv z ad μ U.heap)) := fun _ _ _ _ q => ⟨q.1, q.2.1.calling, q.2.2⟩
section ZM
variable {g : Gx} {z : Zx} {cc : ByteArray} {nL : Nat} {y0 : MethodName} {ret : Option FieldType} {tb : List ExceptionTableEntry} {lev mc ms : Nat} {ad0 ad : Nm} {μ0 μ : Ce} {ok : OkT} {ex : String → Prop} {n k pc : Nat} {lv lv' : Lv} {st : List Value}
theorem kE (K : Kn g z cc nL y0 ret tb lev mc ms ad0 μ0 ok ex) : Ev z (gs g) := K.2.1
theorem kK (K : Kn g z cc nL y0 ret tb lev mc ms ad0 μ0 ok ex) : va_K z.1.1 vwCl (tysZ z) (gs g) := K.2.1.1
theorem kR (K : Kn g z cc nL y0 ret tb lev mc ms ad0 μ0 ok ex) : gR g = rmK lev mc ms := K.2.2.2.2.2.1
theorem kQ (K : Kn g z cc nL y0 ret tb lev mc ms ad0 μ0 ok ex) : gQ g = vx_MQ (gb g) (okQ z ok) (exQ z ex ad0 μ0) (ga g) (gs g) mc ms (zA z) := K.2.2.2.2.2.2.2
theorem kA (K : Kn g z cc nL y0 ret tb lev mc ms ad0 μ0 ok ex) : ∀ q, (gs g).heap.size ≤ q → zA z q := fun q h => Nat.le_trans K.2.1.2.2.2.2.2.2.2.2.2 h
theorem kW (K : Kn g z cc nL y0 ret tb lev mc ms ad0 μ0 ok ex) {w : Cond} (h : w ∈ WALL) : w.before (ga g) (gs g) = true := K.1.2.2.2.2 w h
theorem kw' {w : Cond} (hw : ∀ w ∈ WALL, w.before (ga g) (gs g) = true) (C : String) (T : u_T) (N : Nat) (h : ∀ w ∈ u_ws C T N, w ∈ WALL) (hh : w ∈ u_ws C T N) : w.before (ga g) (gs g) = true := hw w (h w hh)
/-- a field read -/
theorem r_get (K : Kn g z cc nL y0 ret tb lev mc ms ad0 μ0 ok ex) {a ki ii ci fk index : Nat} {fs : List Value} {ft : FieldType} {fin : Bool} {v : Value} (F : FdZ y0.cls index ci fk ft fin) (hμ : μ ki ii = some (.inr (ci, fs))) (ha : ad ki ii = a) (hv : fs[fk]? = some v) (hdg : decode cc pc = .ok (.getfield index, 3))
    (kk : WW g z nL n k ad μ (pc + 3) lv (v :: st)) : WW g z nL n k ad μ pc lv (.ref a :: st) := by
  intro H locs ls M S L
  subst ha
  obtain ⟨C, T, N, ty, ref, f1, f2, f3, f4, f5, -⟩ := F
  refine va_get (cc := cc) K.1.1 K.1.2.1 (own := y0.cls) (ref := ref) (C := C) (T := T) (N := N) (ci := ci) (index := index) (Ts := WALL) K.1.2.2.2.2 f3 K.1.2.2.2.1 (kK K) (M.one hμ) 0 rfl f1 fk f2 (kW K f4) ?_ hv hdg (kk H locs ls M S L)
  rcases f5 with rfl | h
  · exact fun _ q => q
  · exact u_same (kW K h)
/-- a field written -/
theorem r_put (K : Kn g z cc nL y0 ret tb lev mc ms ad0 μ0 ok ex) {a ki ii ci fk index : Nat} {fs fs' : List Value} {ft : FieldType} {v : Value} (F : FdZ y0.cls index ci fk ft false) (hμ : μ ki ii = some (.inr (ci, fs))) (ha : ad ki ii = a) (hn : narrow ft v = v) (hfit : fits ft v = true) (hl : fk < fs.length) (hfs : fs.set fk v = fs') (hdg : decode cc pc = .ok (.putfield index, 3))
    (kk : WW g z nL n k ad (up2 μ ki ii (.inr (ci, fs'))) (pc + 3) lv st) : WW g z nL n k ad μ pc lv (v :: .ref a :: st) := by
  intro H locs ls M S L
  subst ha; subst hfs
  obtain ⟨C, T, N, ty, ref, f1, f2, f3, f4, f5, f6, f7, f8, f9⟩ := F
  obtain ⟨ws, hP, hD, hcov, -⟩ := M.list
  obtain ⟨q0, hq0⟩ := hcov ki ii _ hμ
  refine va_put (cc := cc) K.1.1 K.1.2.1 (own := y0.cls) (ref := ref) (C := C) (T := T) (N := N) (ci := ci) (index := index) (Ts := WALL) K.1.2.2.2.2 f3 ty f6 f7 K.1.2.2.2.1 (kK K) hP hD S q0 hq0 f1 fk f2 (kW K f4) ?_ f9 (by rw [f6 fk f2, f8]) hn hfit hl hdg (fun H1 locs1 hP1 _ hS1 => kk H1 locs1 ls (M.back hcov hμ hq0 hP1) hS1 L)
  rcases f5 with rfl | h
  · exact fun _ q => q
  · exact u_same (kW K h)
/-- a final field written, in a constructor -/
theorem r_putF (K : Kn g z cc nL y0 ret tb lev mc ms ad0 μ0 ok ex) {a ki ii ci fk index : Nat} {fs fs' : List Value} {ft : FieldType} {v : Value} (F : FdZ y0.cls index ci fk ft true) (hin : y0.name = "<init>") (hown : ∀ C T N, vwCl[ci]? = some (C, T, N) → (T fk).1 = y0.cls) (hμ : μ ki ii = some (.inr (ci, fs))) (ha : ad ki ii = a) (hn : narrow ft v = v) (hfit : fits ft v = true) (hl : fk < fs.length) (hfs : fs.set fk v = fs') (hdg : decode cc pc = .ok (.putfield index, 3))
    (kk : WW g z nL n k ad (up2 μ ki ii (.inr (ci, fs'))) (pc + 3) lv st) : WW g z nL n k ad μ pc lv (v :: .ref a :: st) := by
  intro H locs ls M S L
  subst ha; subst hfs
  obtain ⟨C, T, N, ty, ref, f1, f2, f3, f4, f5, f6, f7, f8, f9⟩ := F
  obtain ⟨ws, hP, hD, hcov, -⟩ := M.list
  obtain ⟨q0, hq0⟩ := hcov ki ii _ hμ
  refine va_putF (cc := cc) K.1.1 K.1.2.1 (own := y0.cls) (ref := ref) (C := C) (T := T) (N := N) (ci := ci) (index := index) (Ts := WALL) K.1.2.2.2.2 f3 ty f6 f7 K.1.2.2.2.1 (kK K) hP hD S q0 hq0 f1 fk f2 (kW K f4) ?_ f9 (K.2.2.2.2.1.2.trans hin) (hown C T N f1) (by rw [f6 fk f2, f8]) hn hfit hl hdg (fun H1 locs1 hP1 _ hS1 => kk H1 locs1 ls (M.back hcov hμ hq0 hP1) hS1 L)
  rcases f5 with rfl | h
  · exact fun _ q => q
  · exact u_same (kW K h)
theorem r_iald (K : Kn g z cc nL y0 ret tb lev mc ms ad0 μ0 ok ex) {a ki ii len j : Nat} {f : Nat → Int32} {x : Int32} {v : Int32} (hμ : μ ki ii = some (aI z len f)) (ha : ad ki ii = a) (hx : x = nI j) (hj : j < len) (hlen : len < 2 ^ 31) (hv : f j = v) (hdg : decode cc pc = .ok (.iaload, 1)) (kk : WW g z nL n k ad μ (pc + 1) lv (.int v :: st)) : WW g z nL n k ad μ pc lv (.int x :: .ref a :: st) := by
  intro H locs ls M S L
  subst ha; subst hv; subst hx
  refine va_iald K.1.1 K.1.2.1 (kK K) (M.one hμ) 0 0 rfl rfl (vp_in_nI hj hlen) hdg ?_
  rw [nI_clamp (by omega)]
  exact kk H locs ls M S L
theorem r_zald (K : Kn g z cc nL y0 ret tb lev mc ms ad0 μ0 ok ex) {a ki ii len j : Nat} {f : Nat → Int32} {x : Int32} {v : Int32} (hμ : μ ki ii = some (aZ z len f)) (ha : ad ki ii = a) (hx : x = nI j) (hj : j < len) (hlen : len < 2 ^ 31) (hv : f j = v) (hdg : decode cc pc = .ok (.baload, 1)) (kk : WW g z nL n k ad μ (pc + 1) lv (.int v :: st)) : WW g z nL n k ad μ pc lv (.int x :: .ref a :: st) := by
  intro H locs ls M S L
  subst ha; subst hv; subst hx
  refine va_zald K.1.1 K.1.2.1 (kK K) (M.one hμ) 0 1 rfl rfl (vp_in_nI hj hlen) hdg ?_
  rw [nI_clamp (by omega)]
  exact kk H locs ls M S L
theorem r_bald (K : Kn g z cc nL y0 ret tb lev mc ms ad0 μ0 ok ex) {a ki ii len j : Nat} {f : Nat → Int32} {x : Int32} {v : Int32} (hμ : μ ki ii = some (aB z len f)) (ha : ad ki ii = a) (hx : x = nI j) (hj : j < len) (hlen : len < 2 ^ 31) (hv : f j = v) (hdg : decode cc pc = .ok (.baload, 1)) (kk : WW g z nL n k ad μ (pc + 1) lv (.int v :: st)) : WW g z nL n k ad μ pc lv (.int x :: .ref a :: st) := by
  intro H locs ls M S L
  subst ha; subst hv; subst hx
  refine va_bald K.1.1 K.1.2.1 (kK K) (M.one hμ) 0 2 rfl rfl (vp_in_nI hj hlen) hdg ?_
  rw [nI_clamp (by omega)]
  exact kk H locs ls M S L
theorem r_cald (K : Kn g z cc nL y0 ret tb lev mc ms ad0 μ0 ok ex) {a ki ii len j : Nat} {f : Nat → Int32} {x : Int32} {v : Int32} (hμ : μ ki ii = some (aC z len f)) (ha : ad ki ii = a) (hx : x = nI j) (hj : j < len) (hlen : len < 2 ^ 31) (hv : f j = v) (hdg : decode cc pc = .ok (.caload, 1)) (kk : WW g z nL n k ad μ (pc + 1) lv (.int v :: st)) : WW g z nL n k ad μ pc lv (.int x :: .ref a :: st) := by
  intro H locs ls M S L
  subst ha; subst hv; subst hx
  refine va_cald K.1.1 K.1.2.1 (kK K) (M.one hμ) 0 5 rfl rfl (vp_in_nI hj hlen) hdg ?_
  rw [nI_clamp (by omega)]
  exact kk H locs ls M S L
theorem r_lald (K : Kn g z cc nL y0 ret tb lev mc ms ad0 μ0 ok ex) {a ki ii len j : Nat} {f : Nat → Int64} {x : Int32} {v : Int64} (hμ : μ ki ii = some (aJ z len f)) (ha : ad ki ii = a) (hx : x = nI j) (hj : j < len) (hlen : len < 2 ^ 31) (hv : f j = v) (hdg : decode cc pc = .ok (.laload, 1)) (kk : WW g z nL n k ad μ (pc + 1) lv (.long v :: st)) : WW g z nL n k ad μ pc lv (.int x :: .ref a :: st) := by
  intro H locs ls M S L
  subst ha; subst hv; subst hx
  refine va_lald K.1.1 K.1.2.1 (kK K) (M.one hμ) 0 3 rfl rfl (vp_in_nI hj hlen) hdg ?_
  rw [nI_clamp (by omega)]
  exact kk H locs ls M S L
theorem r_dald (K : Kn g z cc nL y0 ret tb lev mc ms ad0 μ0 ok ex) {a ki ii len j : Nat} {f : Nat → UInt64} {x : Int32} {v : UInt64} (hμ : μ ki ii = some (aD z len f)) (ha : ad ki ii = a) (hx : x = nI j) (hj : j < len) (hlen : len < 2 ^ 31) (hv : f j = v) (hdg : decode cc pc = .ok (.daload, 1)) (kk : WW g z nL n k ad μ (pc + 1) lv (.double v :: st)) : WW g z nL n k ad μ pc lv (.int x :: .ref a :: st) := by
  intro H locs ls M S L
  subst ha; subst hv; subst hx
  refine va_dald K.1.1 K.1.2.1 (kK K) (M.one hμ) 0 4 rfl rfl (vp_in_nI hj hlen) hdg ?_
  rw [nI_clamp (by omega)]
  exact kk H locs ls M S L
theorem r_iast (K : Kn g z cc nL y0 ret tb lev mc ms ad0 μ0 ok ex) {a ki ii len j : Nat} {f f' : Nat → Int32} {i : Int32} {x : Int32} (hμ : μ ki ii = some (aI z len f)) (ha : ad ki ii = a) (hx : i = nI j) (hj : j < len) (hlen : len < 2 ^ 31) (hf : upd f j x = f') (hdg : decode cc pc = .ok (.iastore, 1)) (kk : WW g z nL n k ad (up2 μ ki ii (aI z len f')) (pc + 1) lv st) : WW g z nL n k ad μ pc lv (.int x :: .int i :: .ref a :: st) := by
  intro H locs ls M S L
  subst ha; subst hf; subst hx
  obtain ⟨ws, hP, hD, hcov, -⟩ := M.list
  obtain ⟨q0, hq0⟩ := hcov ki ii _ hμ
  refine va_iast K.1.1 K.1.2.1 (kK K) hP hD S q0 0 hq0 rfl (vp_in_nI hj hlen) hdg (fun H1 locs1 hP1 _ hS1 => ?_)
  rw [nI_clamp (by omega)] at hP1
  exact kk H1 locs1 ls (M.back hcov hμ hq0 hP1) hS1 L
theorem r_zast (K : Kn g z cc nL y0 ret tb lev mc ms ad0 μ0 ok ex) {a ki ii len j : Nat} {f f' : Nat → Int32} {i : Int32} {x : Int32} (hμ : μ ki ii = some (aZ z len f)) (ha : ad ki ii = a) (hx : i = nI j) (hj : j < len) (hlen : len < 2 ^ 31) (hf : upd f j (vp_nar .boolean x) = f') (hdg : decode cc pc = .ok (.bastore, 1)) (kk : WW g z nL n k ad (up2 μ ki ii (aZ z len f')) (pc + 1) lv st) : WW g z nL n k ad μ pc lv (.int x :: .int i :: .ref a :: st) := by
  intro H locs ls M S L
  subst ha; subst hf; subst hx
  obtain ⟨ws, hP, hD, hcov, -⟩ := M.list
  obtain ⟨q0, hq0⟩ := hcov ki ii _ hμ
  refine va_zast K.1.1 K.1.2.1 (kK K) hP hD S q0 1 hq0 rfl (vp_in_nI hj hlen) hdg (fun H1 locs1 hP1 _ hS1 => ?_)
  rw [nI_clamp (by omega)] at hP1
  exact kk H1 locs1 ls (M.back hcov hμ hq0 hP1) hS1 L
theorem r_bast (K : Kn g z cc nL y0 ret tb lev mc ms ad0 μ0 ok ex) {a ki ii len j : Nat} {f f' : Nat → Int32} {i : Int32} {x : Int32} (hμ : μ ki ii = some (aB z len f)) (ha : ad ki ii = a) (hx : i = nI j) (hj : j < len) (hlen : len < 2 ^ 31) (hf : upd f j (vp_nar .byte x) = f') (hdg : decode cc pc = .ok (.bastore, 1)) (kk : WW g z nL n k ad (up2 μ ki ii (aB z len f')) (pc + 1) lv st) : WW g z nL n k ad μ pc lv (.int x :: .int i :: .ref a :: st) := by
  intro H locs ls M S L
  subst ha; subst hf; subst hx
  obtain ⟨ws, hP, hD, hcov, -⟩ := M.list
  obtain ⟨q0, hq0⟩ := hcov ki ii _ hμ
  refine va_bast K.1.1 K.1.2.1 (kK K) hP hD S q0 2 hq0 rfl (vp_in_nI hj hlen) hdg (fun H1 locs1 hP1 _ hS1 => ?_)
  rw [nI_clamp (by omega)] at hP1
  exact kk H1 locs1 ls (M.back hcov hμ hq0 hP1) hS1 L
theorem r_cast (K : Kn g z cc nL y0 ret tb lev mc ms ad0 μ0 ok ex) {a ki ii len j : Nat} {f f' : Nat → Int32} {i : Int32} {x : Int32} (hμ : μ ki ii = some (aC z len f)) (ha : ad ki ii = a) (hx : i = nI j) (hj : j < len) (hlen : len < 2 ^ 31) (hf : upd f j (vp_nar .char x) = f') (hdg : decode cc pc = .ok (.castore, 1)) (kk : WW g z nL n k ad (up2 μ ki ii (aC z len f')) (pc + 1) lv st) : WW g z nL n k ad μ pc lv (.int x :: .int i :: .ref a :: st) := by
  intro H locs ls M S L
  subst ha; subst hf; subst hx
  obtain ⟨ws, hP, hD, hcov, -⟩ := M.list
  obtain ⟨q0, hq0⟩ := hcov ki ii _ hμ
  refine va_cast K.1.1 K.1.2.1 (kK K) hP hD S q0 5 hq0 rfl (vp_in_nI hj hlen) hdg (fun H1 locs1 hP1 _ hS1 => ?_)
  rw [nI_clamp (by omega)] at hP1
  exact kk H1 locs1 ls (M.back hcov hμ hq0 hP1) hS1 L
theorem r_last (K : Kn g z cc nL y0 ret tb lev mc ms ad0 μ0 ok ex) {a ki ii len j : Nat} {f f' : Nat → Int64} {i : Int32} {x : Int64} (hμ : μ ki ii = some (aJ z len f)) (ha : ad ki ii = a) (hx : i = nI j) (hj : j < len) (hlen : len < 2 ^ 31) (hf : vp_updL f j x = f') (hdg : decode cc pc = .ok (.lastore, 1)) (kk : WW g z nL n k ad (up2 μ ki ii (aJ z len f')) (pc + 1) lv st) : WW g z nL n k ad μ pc lv (.long x :: .int i :: .ref a :: st) := by
  intro H locs ls M S L
  subst ha; subst hf; subst hx
  obtain ⟨ws, hP, hD, hcov, -⟩ := M.list
  obtain ⟨q0, hq0⟩ := hcov ki ii _ hμ
  refine va_last K.1.1 K.1.2.1 (kK K) hP hD S q0 3 hq0 rfl (vp_in_nI hj hlen) hdg (fun H1 locs1 hP1 _ hS1 => ?_)
  rw [nI_clamp (by omega)] at hP1
  exact kk H1 locs1 ls (M.back hcov hμ hq0 hP1) hS1 L
theorem r_dast (K : Kn g z cc nL y0 ret tb lev mc ms ad0 μ0 ok ex) {a ki ii len j : Nat} {f f' : Nat → UInt64} {i : Int32} {x : UInt64} (hμ : μ ki ii = some (aD z len f)) (ha : ad ki ii = a) (hx : i = nI j) (hj : j < len) (hlen : len < 2 ^ 31) (hf : vf_upd f j x = f') (hdg : decode cc pc = .ok (.dastore, 1)) (kk : WW g z nL n k ad (up2 μ ki ii (aD z len f')) (pc + 1) lv st) : WW g z nL n k ad μ pc lv (.double x :: .int i :: .ref a :: st) := by
  intro H locs ls M S L
  subst ha; subst hf; subst hx
  obtain ⟨ws, hP, hD, hcov, -⟩ := M.list
  obtain ⟨q0, hq0⟩ := hcov ki ii _ hμ
  refine va_dast K.1.1 K.1.2.1 (kK K) hP hD S q0 4 hq0 rfl (vp_in_nI hj hlen) hdg (fun H1 locs1 hP1 _ hS1 => ?_)
  rw [nI_clamp (by omega)] at hP1
  exact kk H1 locs1 ls (M.back hcov hμ hq0 hP1) hS1 L
theorem r_aald (K : Kn g z cc nL y0 ret tb lev mc ms ad0 μ0 ok ex) {a ki ii len j q : Nat} {f : Nat → Option Nat} {x : Int32} (hμ : μ ki ii = some (aO z len f)) (ha : ad ki ii = a) (hx : x = nI j) (hj : j < len) (hlen : len < 2 ^ 31) (hv : f j = some q) (hdg : decode cc pc = .ok (.aaload, 1)) (kk : WW g z nL n k ad μ (pc + 1) lv (.ref q :: st)) : WW g z nL n k ad μ pc lv (.int x :: .ref a :: st) := by
  intro H locs ls M S L
  subst ha; subst hx
  refine va_aldq K.1.1 K.1.2.1 (kK K) (M.one hμ) 0 6 rfl rfl (vp_in_nI hj hlen) hdg ?_
  rw [nI_clamp (by omega), hv]
  exact kk H locs ls M S L
theorem r_aast (K : Kn g z cc nL y0 ret tb lev mc ms ad0 μ0 ok ex) {a ki ii kv iv ci len j q : Nat} {f f' : Nat → Option Nat} {vs : List Value} {i : Int32} (hμ : μ ki ii = some (aO z len f)) (ha : ad ki ii = a) (hx : i = nI j) (hj : j < len) (hlen : len < 2 ^ 31) (hμv : μ kv iv = some (.inr (ci, vs))) (hav : ad kv iv = q) (hca : ∀ r : vw_C, vwCl[ci]? = some r → (r.1, "java/lang/Object") ∈ caZ) (hf : va_up f j (some q) = f') (hdg : decode cc pc = .ok (.aastore, 1)) (kk : WW g z nL n k ad (up2 μ ki ii (aO z len f')) (pc + 1) lv st) : WW g z nL n k ad μ pc lv (.ref q :: .int i :: .ref a :: st) := by
  intro H locs ls M S L
  subst ha; subst hf; subst hx; subst hav
  obtain ⟨ws, hP, hD, hcov, -⟩ := M.list
  obtain ⟨q0, hq0⟩ := hcov ki ii _ hμ
  obtain ⟨q1, hq1⟩ := hcov kv iv _ hμv
  obtain ⟨r, hr, -⟩ := (M.1 kv iv _ hμv).1
  refine va_astqO (E := "java/lang/Object") (ci := ci) K.1.1 K.1.2.1 (kK K) hP hD S q0 6 q1 hq0 rfl ((kE K).2.2.1.2.2.1 _ (hca r hr)) hq1 hr (vp_in_nI hj hlen) hdg (fun H1 locs1 hP1 _ hS1 => ?_)
  rw [nI_clamp (by omega)] at hP1
  exact kk H1 locs1 ls (M.back hcov hμ hq0 hP1) hS1 L
theorem r_aastN (K : Kn g z cc nL y0 ret tb lev mc ms ad0 μ0 ok ex) {a ki ii len j : Nat} {f f' : Nat → Option Nat} {i : Int32} (hμ : μ ki ii = some (aO z len f)) (ha : ad ki ii = a) (hx : i = nI j) (hj : j < len) (hlen : len < 2 ^ 31) (hf : va_up f j none = f') (hdg : decode cc pc = .ok (.aastore, 1)) (kk : WW g z nL n k ad (up2 μ ki ii (aO z len f')) (pc + 1) lv st) : WW g z nL n k ad μ pc lv (.null :: .int i :: .ref a :: st) := by
  intro H locs ls M S L
  subst ha; subst hf; subst hx
  obtain ⟨ws, hP, hD, hcov, -⟩ := M.list
  obtain ⟨q0, hq0⟩ := hcov ki ii _ hμ
  refine va_astqN K.1.1 K.1.2.1 (kK K) hP hD S q0 6 hq0 rfl (vp_in_nI hj hlen) hdg (fun H1 locs1 hP1 _ hS1 => ?_)
  rw [nI_clamp (by omega)] at hP1
  exact kk H1 locs1 ls (M.back hcov hμ hq0 hP1) hS1 L
theorem r_alenI (K : Kn g z cc nL y0 ret tb lev mc ms ad0 μ0 ok ex) {a ki ii len : Nat} {f : Nat → Int32} (hμ : μ ki ii = some (aI z len f)) (ha : ad ki ii = a) (hdg : decode cc pc = .ok (.arraylength, 1)) (kk : WW g z nL n k ad μ (pc + 1) lv (.int (nI len) :: st)) : WW g z nL n k ad μ pc lv (.ref a :: st) := by
  intro H locs ls M S L
  subst ha
  exact va_alen K.1.1 K.1.2.1 (kK K) (M.one hμ) 0 0 rfl rfl rfl hdg (kk H locs ls M S L)
theorem r_alenB (K : Kn g z cc nL y0 ret tb lev mc ms ad0 μ0 ok ex) {a ki ii len : Nat} {f : Nat → Int32} (hμ : μ ki ii = some (aB z len f)) (ha : ad ki ii = a) (hdg : decode cc pc = .ok (.arraylength, 1)) (kk : WW g z nL n k ad μ (pc + 1) lv (.int (nI len) :: st)) : WW g z nL n k ad μ pc lv (.ref a :: st) := by
  intro H locs ls M S L
  subst ha
  exact va_alen K.1.1 K.1.2.1 (kK K) (M.one hμ) 0 2 rfl rfl rfl hdg (kk H locs ls M S L)
theorem r_alenO (K : Kn g z cc nL y0 ret tb lev mc ms ad0 μ0 ok ex) {a ki ii len : Nat} {f : Nat → Option Nat} (hμ : μ ki ii = some (aO z len f)) (ha : ad ki ii = a) (hdg : decode cc pc = .ok (.arraylength, 1)) (kk : WW g z nL n k ad μ (pc + 1) lv (.int (nI len) :: st)) : WW g z nL n k ad μ pc lv (.ref a :: st) := by
  intro H locs ls M S L
  subst ha
  exact va_alen K.1.1 K.1.2.1 (kK K) (M.one hμ) 0 6 rfl rfl rfl hdg (kk H locs ls M S L)
theorem r_newaI (K : Kn g z cc nL y0 ret tb lev mc ms ad0 μ0 ok ex) {x : Int32} {len : Nat} (ki ii : Nat) (hμ : μ ki ii = none) (hw : Cond.arrayClass .int ∈ WALL) (hx : x = nI len) (hlen : len ≤ 65536) (hc : n + 1 ≤ mc) (hs : k + len ≤ ms) (hdg : decode cc pc = .ok (.newarray .int, 2)) (kk : ∀ q : Nat, WW g z nL (n + 1) (k + len) (nmu ad ki ii q) (up2 μ ki ii (aI z len (fun _ => 0))) (pc + 2) lv (.ref q :: st)) : WW g z nL n k ad μ pc lv (.int x :: st) := by
  intro H locs ls M S L
  subst hx
  obtain ⟨ws, hP, hD, hcov, -⟩ := M.list
  refine va_newa (atype := .int) (ty := .int) (a0 := (len, .inl (fun _ => 0))) K.1.1 K.1.2.1 (kW K hw) rfl (kK K) hP hD S (kA K) (fun cA => rfl) (nI_pos (by omega)) (nI_clamp (by omega)) (by simp only [componentBytes]; omega) (by rw [kR K]; exact hc) (by rw [kR K]; exact hs) hdg (fun q cA H1 hK1 hP1 hD1 hS1 => ?_)
  have e1 : cA = z.1.2 0 := cA_eq (hK1.2 7 (cA, .int) rfl).2 (hK1.2 0 (z.1.2 0, .int) rfl).2
  subst e1
  exact kk q H1 locs ls (M.push hcov hμ hP1 hD1) hS1 L
theorem r_newaZ (K : Kn g z cc nL y0 ret tb lev mc ms ad0 μ0 ok ex) {x : Int32} {len : Nat} (ki ii : Nat) (hμ : μ ki ii = none) (hw : Cond.arrayClass .boolean ∈ WALL) (hx : x = nI len) (hlen : len ≤ 65536) (hc : n + 1 ≤ mc) (hs : k + len ≤ ms) (hdg : decode cc pc = .ok (.newarray .boolean, 2)) (kk : ∀ q : Nat, WW g z nL (n + 1) (k + len) (nmu ad ki ii q) (up2 μ ki ii (aZ z len (fun _ => 0))) (pc + 2) lv (.ref q :: st)) : WW g z nL n k ad μ pc lv (.int x :: st) := by
  intro H locs ls M S L
  subst hx
  obtain ⟨ws, hP, hD, hcov, -⟩ := M.list
  refine va_newa (atype := .boolean) (ty := .boolean) (a0 := (len, .inl (fun _ => 0))) K.1.1 K.1.2.1 (kW K hw) rfl (kK K) hP hD S (kA K) (fun cA => rfl) (nI_pos (by omega)) (nI_clamp (by omega)) (by simp only [componentBytes]; omega) (by rw [kR K]; exact hc) (by rw [kR K]; exact hs) hdg (fun q cA H1 hK1 hP1 hD1 hS1 => ?_)
  have e1 : cA = z.1.2 1 := cA_eq (hK1.2 7 (cA, .boolean) rfl).2 (hK1.2 1 (z.1.2 1, .boolean) rfl).2
  subst e1
  exact kk q H1 locs ls (M.push hcov hμ hP1 hD1) hS1 L
theorem r_newaB (K : Kn g z cc nL y0 ret tb lev mc ms ad0 μ0 ok ex) {x : Int32} {len : Nat} (ki ii : Nat) (hμ : μ ki ii = none) (hw : Cond.arrayClass .byte ∈ WALL) (hx : x = nI len) (hlen : len ≤ 65536) (hc : n + 1 ≤ mc) (hs : k + len ≤ ms) (hdg : decode cc pc = .ok (.newarray .byte, 2)) (kk : ∀ q : Nat, WW g z nL (n + 1) (k + len) (nmu ad ki ii q) (up2 μ ki ii (aB z len (fun _ => 0))) (pc + 2) lv (.ref q :: st)) : WW g z nL n k ad μ pc lv (.int x :: st) := by
  intro H locs ls M S L
  subst hx
  obtain ⟨ws, hP, hD, hcov, -⟩ := M.list
  refine va_newa (atype := .byte) (ty := .byte) (a0 := (len, .inl (fun _ => 0))) K.1.1 K.1.2.1 (kW K hw) rfl (kK K) hP hD S (kA K) (fun cA => rfl) (nI_pos (by omega)) (nI_clamp (by omega)) (by simp only [componentBytes]; omega) (by rw [kR K]; exact hc) (by rw [kR K]; exact hs) hdg (fun q cA H1 hK1 hP1 hD1 hS1 => ?_)
  have e1 : cA = z.1.2 2 := cA_eq (hK1.2 7 (cA, .byte) rfl).2 (hK1.2 2 (z.1.2 2, .byte) rfl).2
  subst e1
  exact kk q H1 locs ls (M.push hcov hμ hP1 hD1) hS1 L
theorem r_newaJ (K : Kn g z cc nL y0 ret tb lev mc ms ad0 μ0 ok ex) {x : Int32} {len : Nat} (ki ii : Nat) (hμ : μ ki ii = none) (hw : Cond.arrayClass .long ∈ WALL) (hx : x = nI len) (hlen : len ≤ 65536) (hc : n + 1 ≤ mc) (hs : k + len ≤ ms) (hdg : decode cc pc = .ok (.newarray .long, 2)) (kk : ∀ q : Nat, WW g z nL (n + 1) (k + len) (nmu ad ki ii q) (up2 μ ki ii (aJ z len (fun _ => 0))) (pc + 2) lv (.ref q :: st)) : WW g z nL n k ad μ pc lv (.int x :: st) := by
  intro H locs ls M S L
  subst hx
  obtain ⟨ws, hP, hD, hcov, -⟩ := M.list
  refine va_newa (atype := .long) (ty := .long) (a0 := (len, .inr (.inl (fun _ => 0)))) K.1.1 K.1.2.1 (kW K hw) rfl (kK K) hP hD S (kA K) (fun cA => rfl) (nI_pos (by omega)) (nI_clamp (by omega)) (by simp only [componentBytes]; omega) (by rw [kR K]; exact hc) (by rw [kR K]; exact hs) hdg (fun q cA H1 hK1 hP1 hD1 hS1 => ?_)
  have e1 : cA = z.1.2 3 := cA_eq (hK1.2 7 (cA, .long) rfl).2 (hK1.2 3 (z.1.2 3, .long) rfl).2
  subst e1
  exact kk q H1 locs ls (M.push hcov hμ hP1 hD1) hS1 L
theorem r_newaD (K : Kn g z cc nL y0 ret tb lev mc ms ad0 μ0 ok ex) {x : Int32} {len : Nat} (ki ii : Nat) (hμ : μ ki ii = none) (hw : Cond.arrayClass .double ∈ WALL) (hx : x = nI len) (hlen : len ≤ 65536) (hc : n + 1 ≤ mc) (hs : k + len ≤ ms) (hdg : decode cc pc = .ok (.newarray .double, 2)) (kk : ∀ q : Nat, WW g z nL (n + 1) (k + len) (nmu ad ki ii q) (up2 μ ki ii (aD z len (fun _ => 0))) (pc + 2) lv (.ref q :: st)) : WW g z nL n k ad μ pc lv (.int x :: st) := by
  intro H locs ls M S L
  subst hx
  obtain ⟨ws, hP, hD, hcov, -⟩ := M.list
  refine va_newa (atype := .double) (ty := .double) (a0 := (len, .inr (.inr (.inr (.inl (fun _ => 0)))))) K.1.1 K.1.2.1 (kW K hw) rfl (kK K) hP hD S (kA K) (fun cA => rfl) (nI_pos (by omega)) (nI_clamp (by omega)) (by simp only [componentBytes]; omega) (by rw [kR K]; exact hc) (by rw [kR K]; exact hs) hdg (fun q cA H1 hK1 hP1 hD1 hS1 => ?_)
  have e1 : cA = z.1.2 4 := cA_eq (hK1.2 7 (cA, .double) rfl).2 (hK1.2 4 (z.1.2 4, .double) rfl).2
  subst e1
  exact kk q H1 locs ls (M.push hcov hμ hP1 hD1) hS1 L
theorem r_newaC (K : Kn g z cc nL y0 ret tb lev mc ms ad0 μ0 ok ex) {x : Int32} {len : Nat} (ki ii : Nat) (hμ : μ ki ii = none) (hw : Cond.arrayClass .char ∈ WALL) (hx : x = nI len) (hlen : len ≤ 65536) (hc : n + 1 ≤ mc) (hs : k + len ≤ ms) (hdg : decode cc pc = .ok (.newarray .char, 2)) (kk : ∀ q : Nat, WW g z nL (n + 1) (k + len) (nmu ad ki ii q) (up2 μ ki ii (aC z len (fun _ => 0))) (pc + 2) lv (.ref q :: st)) : WW g z nL n k ad μ pc lv (.int x :: st) := by
  intro H locs ls M S L
  subst hx
  obtain ⟨ws, hP, hD, hcov, -⟩ := M.list
  refine va_newa (atype := .char) (ty := .char) (a0 := (len, .inl (fun _ => 0))) K.1.1 K.1.2.1 (kW K hw) rfl (kK K) hP hD S (kA K) (fun cA => rfl) (nI_pos (by omega)) (nI_clamp (by omega)) (by simp only [componentBytes]; omega) (by rw [kR K]; exact hc) (by rw [kR K]; exact hs) hdg (fun q cA H1 hK1 hP1 hD1 hS1 => ?_)
  have e1 : cA = z.1.2 5 := cA_eq (hK1.2 7 (cA, .char) rfl).2 (hK1.2 5 (z.1.2 5, .char) rfl).2
  subst e1
  exact kk q H1 locs ls (M.push hcov hμ hP1 hD1) hS1 L
theorem r_newq (K : Kn g z cc nL y0 ret tb lev mc ms ad0 μ0 ok ex) {x : Int32} {len index : Nat} (ki ii : Nat) (hμ : μ ki ii = none) (hl : Cond.classLink y0.cls index "java/lang/Object" ∈ WALL) (hx : x = nI len) (hlen : len ≤ 65536) (hc : n + 1 ≤ mc) (hs : k + len ≤ ms) (hdg : decode cc pc = .ok (.anewarray index, 3)) (kk : ∀ q : Nat, WW g z nL (n + 1) (k + len) (nmu ad ki ii q) (up2 μ ki ii (aO z len (fun _ => none))) (pc + 3) lv (.ref q :: st)) : WW g z nL n k ad μ pc lv (.int x :: st) := by
  intro H locs ls M S L
  subst hx
  obtain ⟨ws, hP, hD, hcov, -⟩ := M.list
  refine va_newq (C := "java/lang/Object") K.1.1 K.1.2.1 K.1.2.2.2.1 (kW K hl) (kE K).2.2.2.2.2.2.2.2.1.2.2 (kK K) hP hD S (kA K) (nI_pos (by omega)) (nI_clamp (by omega)) (by omega) (by rw [kR K]; exact hc) (by rw [kR K]; exact hs) hdg (fun q cA H1 hK1 hP1 hD1 hS1 => ?_)
  have e1 : cA = z.1.2 6 := cA_eq (hK1.2 7 (cA, .object "java/lang/Object") rfl).2 (hK1.2 6 (z.1.2 6, .object "java/lang/Object") rfl).2
  subst e1
  exact kk q H1 locs ls (M.push hcov hμ hP1 hD1) hS1 L
/-- what 'new' needs of a class -/
def NwZ (own : String) (index ci N : Nat) (fs : List Value) : Prop := ∃ (C : String) (T : u_T) (ty : Nat → FieldType), vwCl[ci]? = some (C, T, N) ∧ (∀ w ∈ u_ws C T N, w ∈ WALL) ∧ (∀ k, k < N → parseFieldDescriptor (T k).2.2.1 = some (ty k)) ∧ (∀ j, j < N → defaultValue (ty j) = vp_V fs j) ∧ Cond.classLink own index C ∈ WALL ∧ Cond.instantiable C N ∈ WALL ∧ Cond.initialized C ∈ WALL
theorem r_new (K : Kn g z cc nL y0 ret tb lev mc ms ad0 μ0 ok ex) {index ci N : Nat} {fs : List Value} (ki ii : Nat) (F : NwZ y0.cls index ci N fs) (hμ : μ ki ii = none) (hc : n + 1 ≤ mc) (hs : k + N ≤ ms) (hdg : decode cc pc = .ok (.new index, 3)) (kk : ∀ q : Nat, WW g z nL (n + 1) (k + N) (nmu ad ki ii q) (up2 μ ki ii (.inr (ci, fs))) (pc + 3) lv (.ref q :: st)) : WW g z nL n k ad μ pc lv st := by
  intro H locs ls M S L
  obtain ⟨C, T, ty, f1, f2, f3, f4, f5, f6, f7⟩ := F
  obtain ⟨ws, hP, hD, hcov, -⟩ := M.list
  exact va_new (c0 := gc g) (cc := cc) K.1.1 K.1.2.1 (own := y0.cls) (C := C) (T := T) (N := N) (ci := ci) (index := index) (Ts := WALL) K.1.2.2.2.2 f2 ty f3 K.1.2.2.2.1 (kW K f5) (kW K f6) (kW K f7) (kK K) hP hD S (kA K) f1 f4 (by rw [kR K]; exact hc) (by rw [kR K]; exact hs) hdg (fun q H1 hP1 hD1 hS1 => kk q H1 locs ls (M.push hcov hμ hP1 hD1) hS1 L)
theorem r_castY (K : Kn g z cc nL y0 ret tb lev mc ms ad0 μ0 ok ex) {a ki ii ci index : Nat} {fs : List Value} {nm : String} (hl : Cond.classLink y0.cls index nm ∈ WALL) (hca : ∀ r : vw_C, vwCl[ci]? = some r → (r.1, nm) ∈ caZ) (hμ : μ ki ii = some (.inr (ci, fs))) (ha : ad ki ii = a) (hdg : decode cc pc = .ok (.checkcast index, 3)) (kk : WW g z nL n k ad μ (pc + 3) lv (.ref a :: st)) : WW g z nL n k ad μ pc lv (.ref a :: st) := by
  intro H locs ls M S L
  subst ha
  obtain ⟨r, hr, -⟩ := (M.1 ki ii _ hμ).1
  exact va_castY K.1.1 K.1.2.1 K.1.2.2.2.1 (kW K hl) ((kE K).2.2.1.2.2.1 _ (hca r hr)) (va_recv (kK K) (M.one hμ) hr (q0 := 0) rfl) hdg (kk H locs ls M S L)
theorem r_gets (K : Kn g z cc nL y0 ret tb lev mc ms ad0 μ0 ok ex) {C nme d ref : String} {v : Value} {index : Nat} (hZ : va_Z C nme d v (zA z) (gs g) (gs g).heap) (hl : Cond.fieldLink y0.cls index C nme d ∈ WALL) (hdg : decode cc pc = .ok (.getstatic index, 3)) (kk : WW g z nL n k ad μ (pc + 3) lv (v :: st)) : WW g z nL n k ad μ pc lv st := fun H locs ls M S L => va_gets K.1.1 K.1.2.1 hZ S K.1.2.2.2.1 (kW K hl) (fun _ q => q) hdg (kk H locs ls M S L)
theorem r_objInit (K : Kn g z cc nL y0 ret tb lev mc ms ad0 μ0 ok ex) {a idx : Nat} (hl : Cond.methodLink y0.cls idx Lib.objectInit ∈ WALL) (h2 : Cond.instanceMethod Lib.objectInit ∈ WALL) (h3 : Cond.code Lib.objectInit ⟨#[0xb1]⟩ 1 none ∈ WALL) (hst : (st.map fun v => v.category).sum ≤ 8) (hdg : decode cc pc = .ok (.invokespecial idx, 3)) (kk : WW g z nL n k ad μ (pc + 3) lv st) : WW g z nL n k ad μ pc lv (.ref a :: st) := fun H locs ls M S L => W.objInit K.1.1 K.1.2.1 K.1.2.2.2.1 (kW K hl) (kW K h2) (kW K h3) rfl (by rw [K.1.2.2.1]; exact L.1) rfl hdg (by rw [kR K]; show 1 ≤ 12 + lev; omega) (by rw [kR K]; show 2 * 0 + _ + 12 ≤ 200 + 60 * lev; omega) (kk H locs ls M S L)
theorem r_mmin (K : Kn g z cc nL y0 ret tb lev mc ms ad0 μ0 ok ex) {x y v : Int32} {index : Nat} (hl : Cond.methodLink y0.cls index Lib.Math.min.name ∈ WALL) (h2 : Cond.static Lib.Math.min.name ∈ WALL) (h3 : Cond.initialized "java/lang/Math" ∈ WALL) (h4 : Cond.code Lib.Math.min.name Lib.Math.min.code 2 (some .int) ∈ WALL) (hst : (st.map fun v => v.category).sum ≤ 8) (hv : (if y < x then y else x) = v) (hn : n ≤ mc) (hk : k ≤ ms) (hdg : decode cc pc = .ok (.invokestatic index, 3)) (kk : WW g z nL n k ad μ (pc + 3) lv (.int v :: st)) : WW g z nL n k ad μ pc lv (.int y :: .int x :: st) := by
  intro H locs ls M S L
  subst hv
  exact va_mmin K.1.1 K.1.2.1 (K.1.2.2.1.trans L.1.symm) K.1.2.2.2.1 (kW K hl) (kW K h2) (kW K h3) (kW K h4) (by rw [kR K]; show 1 ≤ 12 + lev; omega) (by rw [kR K]; show _ + 13 ≤ 200 + 60 * lev; omega) (by rw [kR K]; exact hn) (by rw [kR K]; exact hk) hdg (kk H locs ls M S L)
theorem r_mmax (K : Kn g z cc nL y0 ret tb lev mc ms ad0 μ0 ok ex) {x y v : Int32} {index : Nat} (hl : Cond.methodLink y0.cls index Lib.Math.max.name ∈ WALL) (h2 : Cond.static Lib.Math.max.name ∈ WALL) (h3 : Cond.initialized "java/lang/Math" ∈ WALL) (h4 : Cond.code Lib.Math.max.name Lib.Math.max.code 2 (some .int) ∈ WALL) (hst : (st.map fun v => v.category).sum ≤ 8) (hv : (if x < y then y else x) = v) (hn : n ≤ mc) (hk : k ≤ ms) (hdg : decode cc pc = .ok (.invokestatic index, 3)) (kk : WW g z nL n k ad μ (pc + 3) lv (.int v :: st)) : WW g z nL n k ad μ pc lv (.int y :: .int x :: st) := by
  intro H locs ls M S L
  subst hv
  exact va_mmax K.1.1 K.1.2.1 (K.1.2.2.1.trans L.1.symm) K.1.2.2.2.1 (kW K hl) (kW K h2) (kW K h3) (kW K h4) (by rw [kR K]; show 1 ≤ 12 + lev; omega) (by rw [kR K]; show _ + 13 ≤ 200 + 60 * lev; omega) (by rw [kR K]; exact hn) (by rw [kR K]; exact hk) hdg (kk H locs ls M S L)
end ZM
end
section
/-! CALLS, ENDS, THROWS -/
/-- words and facts of a call of y (not static) -/
def CwZ (own : String) (index : Nat) (y : MethodName) (b : ByteArray) (nL : Nat) (ret : Option FieldType) (nargs : Nat) : Prop :=
  Cond.methodLink own index y ∈ WALL ∧ Cond.initialized y.cls ∈ WALL ∧ Cond.code y b nL ret ∈ WALL ∧ (y.cls ≠ "java/lang/invoke/MethodHandle" ∧ y.cls ≠ "java/lang/invoke/VarHandle" ∧ (parseMethodDescriptor y.desc).map (fun d => d.parameters.length) = some nargs)
section ZC
variable {g : Gx} {z : Zx} {cc : ByteArray} {nL : Nat} {y0 : MethodName} {ret : Option FieldType} {tb : List ExceptionTableEntry} {lev mc ms : Nat} {ad0 ad : Nm} {μ0 μ : Ce} {ok : OkT} {ex : String → Prop} {n k pc : Nat} {lv lv' : Lv} {st st0 : List Value}
variable {y : MethodName} {b' : ByteArray} {nL' : Nat} {ret' : Option FieldType} {lev' mc' ms' : Nat} {ok' : OkT} {ex' : String → Prop} {As : List Value} {index : Nat}
theorem kCB (K : Kn g z cc nL y0 ret tb lev mc ms ad0 μ0 ok ex) {nargs : Nat} (C : CwZ y0.cls index y b' nL' ret' nargs) (hlev : lev' < lev) (hnl : nL' ≤ 41) : CallB (gR g) (gs g) (ga g) y0.cls index y b' nL' ret' (Cond.code y b' nL' ret' :: WALL) (rmK lev' mc' ms') mc' ms' nargs := by
  refine callB_of nargs (Ts := WALL) (ws' := WALL) K.1.2.2.2.2 (gi_wall (gi_cons C.2.2.1)) rfl rfl rfl (kW K C.2.1) (kW K C.1) C.2.2.2 ?_
  rw [kR K]
  exact ⟨by show 12 + lev' + 1 ≤ 12 + lev; omega, by show 8 + (nL' + 11) + (200 + 60 * lev') ≤ 200 + 60 * lev; omega⟩
/-- what comes back from a callee's run -/
theorem kBack {H : Heap} {locs : List Loc} {ls : Array Slot} {a : Array Value} {a0 : Nm} {m0 : Ce} (S : va_S (zA z) (gs g).heap H locs) (L : lv_has ls nL lv)
    (hr : vx_Run (gp g) (gl g) (ge g) (gR g) (gs g) (gm g) (ga g) (gb g) (gt g) (gc g) H locs n k mc' ms' (F0 (gm g) pc ls st0) st (okQ z ok' a) (exQ z ex' a0 m0) (zA z))
    (kx : ∀ E, ex' E → WX g z nL (n + mc') (k + ms') a0 m0 pc lv st E)
    (kk : ∀ v ad' μ', ok' v ad' μ' → WW g z nL (n + mc') (k + ms') ad' μ' (pc + 3) lv (v.toList ++ st)) :
    W (gp g) (gl g) (ge g) (gR g) (gs g) (gm g) (ga g) (gb g) (gt g) (gc g) H locs n k (gQ g) (F0 (gm g) pc ls st0) := by
  intro T hT X
  rcases hr T hT X with ⟨v, st₀, t, T', Lc, h0, X', hL, e1, e2, ⟨v', ad', μ', hv, hok, hM, hF⟩, stp⟩ | ⟨q, st₀, t, T', Lc, E, ce, h0, X', hL, e1, e2, ⟨hx, hM, hF⟩, hce, hcv, hcl, stp⟩
  · cases hv
    obtain ⟨k1, k2, k3⟩ := vx_keep h0 e1 S (fun _ _ h => h) (fun _ h => h) hL hF
    obtain ⟨t2, a1, b1⟩ := kk v ad' μ' hok T'.heap (locs ++ Lc) ls (by rw [e1]; exact hM) k3 L T' rfl X'
    exact ⟨t2, stp t2 a1, b1⟩
  · obtain ⟨k1, k2, k3⟩ := vx_keep h0 e1 S (fun _ _ h => h) (fun _ h => h) hL hF
    obtain ⟨t2, a1, b1⟩ := kx E hx T'.heap (locs ++ Lc) ls q ce (by rw [e1]; exact hM) k3 L (by rw [e1]; exact hce) hcv hcl T' rfl X'
    exact ⟨t2, stp.trans a1, b1⟩
/-- an exception leaves -/
theorem wx_out (K : Kn g z cc nL y0 ret [] lev mc ms ad0 μ0 ok ex) {E : String} (hE : ex E) (hn : n ≤ mc) (hk : k ≤ ms) : WX g z nL n k ad0 μ0 pc lv st E := by
  intro H locs ls q ce M S L hce hv hcl
  rw [kQ K]
  exact vx_out (fun x hx => by rw [K.2.2.2.2.2.2.1] at hx; exact absurd hx List.not_mem_nil) K.2.2.2.1 hce hv hcl (fun t ht _ => ⟨hE, by rw [ht]; exact M, S.F ht⟩) S.2.2 hn hk
theorem kPreS (K : Kn g z cc nL y0 ret tb lev mc ms ad0 μ0 ok ex) {H : Heap} {locs : List Loc} {as : List Value} (M : Hv z ad μ H) (S : va_S (zA z) (gs g).heap H locs) : PreS (gs g) H (va_Pc as (fun U => Ev z U ∧ Hv z ad μ U.heap)) as :=
  ⟨koBlind, fun U hU hW => ⟨rfl, (kE K).at S hU hW, by rw [hU]; exact M⟩⟩
/-- invokevirtual: the callee returns, or throws what kx takes on -/
theorem r_callVh (K : Kn g z cc nL y0 ret tb lev mc ms ad0 μ0 ok ex) {a ki ii ci : Nat} {fs : List Value} (hM : Ko z (gl g) y b' nL' ret' lev' mc' ms' (.ref a :: As) ad μ ok' ex') (C : CwZ y0.cls index y b' nL' ret' As.length) (hi : Cond.instanceMethod y ∈ WALL) (hse : Cond.selects y.cls y y ∈ WALL) (hlev : lev' < lev) (hnl : nL' ≤ 41) (hμ : μ ki ii = some (.inr (ci, fs))) (ha : ad ki ii = a) (hci : (vwCl[ci]?).map (·.1) = some y.cls) (hst : st0 = As.reverse ++ .ref a :: st) (hcat : (st.map fun v => v.category).sum ≤ 8) (hn : n + mc' ≤ mc) (hk : k + ms' ≤ ms) (hdg : decode cc pc = .ok (.invokevirtual index, 3))
    (kx : ∀ E, ex' E → WX g z nL (n + mc') (k + ms') ad μ pc lv st E)
    (kk : ∀ v ad' μ', ok' v ad' μ' → WW g z nL (n + mc') (k + ms') ad' μ' (pc + 3) lv (v.toList ++ st)) : WW g z nL n k ad μ pc lv st0 := by
  intro H locs ls M S L
  subst ha
  obtain ⟨r, hr, -⟩ := (M.1 ki ii _ hμ).1
  have hrc : r.1 = y.cls := by
    have : vwCl[ci]? = some r := hr
    rw [this] at hci
    exact Option.some.inj hci
  have hrecv := va_recv (kK K) (M.one hμ) hr (q0 := 0) rfl
  rw [hrc] at hrecv
  exact kBack S L (vx_runV (Ts := WALL) (As := As) (C := y.cls) (rest := st) K.1 hM ⟨kCB K C hlev hnl, kW K hi, kW K hse⟩ ⟨koBlind, hrecv, (kPreS K M S).2⟩ rfl rfl L.1 hst (lv_room hcat) hdg (by rw [kR K]; exact ⟨hn, hk⟩)) kx kk
theorem r_callV (K : Kn g z cc nL y0 ret tb lev mc ms ad0 μ0 ok ex) {a ki ii ci : Nat} {fs : List Value} (hM : Ko z (gl g) y b' nL' ret' lev' mc' ms' (.ref a :: As) ad μ ok' exNo) (C : CwZ y0.cls index y b' nL' ret' As.length) (hi : Cond.instanceMethod y ∈ WALL) (hse : Cond.selects y.cls y y ∈ WALL) (hlev : lev' < lev) (hnl : nL' ≤ 41) (hμ : μ ki ii = some (.inr (ci, fs))) (ha : ad ki ii = a) (hci : (vwCl[ci]?).map (·.1) = some y.cls) (hst : st0 = As.reverse ++ .ref a :: st) (hcat : (st.map fun v => v.category).sum ≤ 8) (hn : n + mc' ≤ mc) (hk : k + ms' ≤ ms) (hdg : decode cc pc = .ok (.invokevirtual index, 3))
    (kk : ∀ v ad' μ', ok' v ad' μ' → WW g z nL (n + mc') (k + ms') ad' μ' (pc + 3) lv (v.toList ++ st)) : WW g z nL n k ad μ pc lv st0 :=
  r_callVh K hM C hi hse hlev hnl hμ ha hci hst hcat hn hk hdg (fun _ h => h.elim) kk
theorem r_callVx (K : Kn g z cc nL y0 ret [] lev mc ms ad0 μ0 ok ex) {a ki ii ci : Nat} {fs : List Value} (hM : Ko z (gl g) y b' nL' ret' lev' mc' ms' (.ref a :: As) ad0 μ0 ok' ex') (hx : ∀ E, ex' E → ex E) (C : CwZ y0.cls index y b' nL' ret' As.length) (hi : Cond.instanceMethod y ∈ WALL) (hse : Cond.selects y.cls y y ∈ WALL) (hlev : lev' < lev) (hnl : nL' ≤ 41) (hμ : μ0 ki ii = some (.inr (ci, fs))) (ha : ad0 ki ii = a) (hci : (vwCl[ci]?).map (·.1) = some y.cls) (hst : st0 = As.reverse ++ .ref a :: st) (hcat : (st.map fun v => v.category).sum ≤ 8) (hn : n + mc' ≤ mc) (hk : k + ms' ≤ ms) (hdg : decode cc pc = .ok (.invokevirtual index, 3))
    (kk : ∀ v ad' μ', ok' v ad' μ' → WW g z nL (n + mc') (k + ms') ad' μ' (pc + 3) lv (v.toList ++ st)) : WW g z nL n k ad0 μ0 pc lv st0 :=
  r_callVh K hM C hi hse hlev hnl hμ ha hci hst hcat hn hk hdg (fun _ h => wx_out K (hx _ h) hn hk) kk
/-- invokestatic -/
theorem r_callSh (K : Kn g z cc nL y0 ret tb lev mc ms ad0 μ0 ok ex) (hM : Ko z (gl g) y b' nL' ret' lev' mc' ms' As ad μ ok' ex') (C : CwZ y0.cls index y b' nL' ret' As.length) (hsm : Cond.static y ∈ WALL) (hlev : lev' < lev) (hnl : nL' ≤ 41) (hst : st0 = As.reverse ++ st) (hcat : (st.map fun v => v.category).sum ≤ 8) (hn : n + mc' ≤ mc) (hk : k + ms' ≤ ms) (hdg : decode cc pc = .ok (.invokestatic index, 3))
    (kx : ∀ E, ex' E → WX g z nL (n + mc') (k + ms') ad μ pc lv st E)
    (kk : ∀ v ad' μ', ok' v ad' μ' → WW g z nL (n + mc') (k + ms') ad' μ' (pc + 3) lv (v.toList ++ st)) : WW g z nL n k ad μ pc lv st0 := by
  intro H locs ls M S L
  exact kBack S L (vx_runS (Ts := WALL) (As := As) (rest := st) K.1 hM ⟨kCB K C hlev hnl, kW K hsm⟩ (kPreS K M S) rfl rfl L.1 hst (lv_room hcat) hdg (by rw [kR K]; exact ⟨hn, hk⟩)) kx kk
theorem r_callS (K : Kn g z cc nL y0 ret tb lev mc ms ad0 μ0 ok ex) (hM : Ko z (gl g) y b' nL' ret' lev' mc' ms' As ad μ ok' exNo) (C : CwZ y0.cls index y b' nL' ret' As.length) (hsm : Cond.static y ∈ WALL) (hlev : lev' < lev) (hnl : nL' ≤ 41) (hst : st0 = As.reverse ++ st) (hcat : (st.map fun v => v.category).sum ≤ 8) (hn : n + mc' ≤ mc) (hk : k + ms' ≤ ms) (hdg : decode cc pc = .ok (.invokestatic index, 3))
    (kk : ∀ v ad' μ', ok' v ad' μ' → WW g z nL (n + mc') (k + ms') ad' μ' (pc + 3) lv (v.toList ++ st)) : WW g z nL n k ad μ pc lv st0 :=
  r_callSh K hM C hsm hlev hnl hst hcat hn hk hdg (fun _ h => h.elim) kk
theorem r_callSx (K : Kn g z cc nL y0 ret [] lev mc ms ad0 μ0 ok ex) (hM : Ko z (gl g) y b' nL' ret' lev' mc' ms' As ad0 μ0 ok' ex') (hx : ∀ E, ex' E → ex E) (C : CwZ y0.cls index y b' nL' ret' As.length) (hsm : Cond.static y ∈ WALL) (hlev : lev' < lev) (hnl : nL' ≤ 41) (hst : st0 = As.reverse ++ st) (hcat : (st.map fun v => v.category).sum ≤ 8) (hn : n + mc' ≤ mc) (hk : k + ms' ≤ ms) (hdg : decode cc pc = .ok (.invokestatic index, 3))
    (kk : ∀ v ad' μ', ok' v ad' μ' → WW g z nL (n + mc') (k + ms') ad' μ' (pc + 3) lv (v.toList ++ st)) : WW g z nL n k ad0 μ0 pc lv st0 :=
  r_callSh K hM C hsm hlev hnl hst hcat hn hk hdg (fun _ h => wx_out K (hx _ h) hn hk) kk
/-- invokespecial of a constructor -/
theorem r_callI (K : Kn g z cc nL y0 ret tb lev mc ms ad0 μ0 ok ex) {a : Nat} (hM : Ko z (gl g) y b' nL' none lev' mc' ms' (.ref a :: As) ad μ ok' exNo) (C : CwZ y0.cls index y b' nL' none As.length) (hi : Cond.instanceMethod y ∈ WALL) (hy : y.name = "<init>") (hlev : lev' < lev) (hnl : nL' ≤ 41) (hst : st0 = As.reverse ++ .ref a :: st) (hcat : (st.map fun v => v.category).sum ≤ 8) (hn : n + mc' ≤ mc) (hk : k + ms' ≤ ms) (hdg : decode cc pc = .ok (.invokespecial index, 3))
    (kk : ∀ v ad' μ', ok' v ad' μ' → WW g z nL (n + mc') (k + ms') ad' μ' (pc + 3) lv (v.toList ++ st)) : WW g z nL n k ad μ pc lv st0 := by
  intro H locs ls M S L
  exact kBack S L (vx_runI (Ts := WALL) (As := As) (rest := st) K.1 hM ⟨kCB K C hlev hnl, hy, kW K hi⟩ (kPreS K M S) rfl rfl L.1 hst (lv_room hcat) hdg (by rw [kR K]; exact ⟨hn, hk⟩)) (fun _ h => h.elim) kk
-- ends
theorem r_iret (K : Kn g z cc nL y0 (some .int) tb lev mc ms ad0 μ0 ok ex) {v : Int32} (hn : n ≤ mc) (hk : k ≤ ms) (h : ok (some (.int v)) ad μ) (hdg : decode cc pc = .ok (.ireturn, 1)) : WW g z nL n k ad μ pc lv [.int v] := by
  intro H locs ls M S L
  rw [kQ K]
  exact vx_ret (W.widen hn hk (W.iret K.1.1 K.1.2.1 K.2.2.2.2.1.1 (fun t ht _ => ⟨_, ad, μ, rfl, h, by rw [ht]; exact M, S.F ht⟩) S.2.2 hdg K.2.2.2.1))
theorem r_zret (K : Kn g z cc nL y0 (some .boolean) tb lev mc ms ad0 μ0 ok ex) {v : Int32} (hv : narrow .boolean (.int v) = .int v) (hn : n ≤ mc) (hk : k ≤ ms) (h : ok (some (.int v)) ad μ) (hdg : decode cc pc = .ok (.ireturn, 1)) : WW g z nL n k ad μ pc lv [.int v] := by
  intro H locs ls M S L
  rw [kQ K]
  exact vx_ret (W.widen hn hk (W.zret K.1.1 K.1.2.1 K.2.2.2.2.1.1 hv (fun t ht _ => ⟨_, ad, μ, rfl, h, by rw [ht]; exact M, S.F ht⟩) S.2.2 hdg K.2.2.2.1))
theorem r_cret (K : Kn g z cc nL y0 (some .char) tb lev mc ms ad0 μ0 ok ex) {v : Int32} (hv : narrow .char (.int v) = .int v) (hn : n ≤ mc) (hk : k ≤ ms) (h : ok (some (.int v)) ad μ) (hdg : decode cc pc = .ok (.ireturn, 1)) : WW g z nL n k ad μ pc lv [.int v] := by
  intro H locs ls M S L
  rw [kQ K]
  exact vx_ret (W.widen hn hk (W.zret K.1.1 K.1.2.1 K.2.2.2.2.1.1 hv (fun t ht _ => ⟨_, ad, μ, rfl, h, by rw [ht]; exact M, S.F ht⟩) S.2.2 hdg K.2.2.2.1))
theorem r_vret (K : Kn g z cc nL y0 none tb lev mc ms ad0 μ0 ok ex) (hn : n ≤ mc) (hk : k ≤ ms) (h : ok none ad μ) (hdg : decode cc pc = .ok (.return_, 1)) : WW g z nL n k ad μ pc lv [] := by
  intro H locs ls M S L
  rw [kQ K]
  exact vx_ret (W.widen hn hk (W.vret K.1.1 K.1.2.1 K.2.2.2.2.1.1 (fun t ht _ => ⟨_, ad, μ, rfl, h, by rw [ht]; exact M, S.F ht⟩) S.2.2 hdg K.2.2.2.1))
theorem r_lret (K : Kn g z cc nL y0 (some .long) tb lev mc ms ad0 μ0 ok ex) {v : Int64} (hn : n ≤ mc) (hk : k ≤ ms) (h : ok (some (.long v)) ad μ) (hdg : decode cc pc = .ok (.lreturn, 1)) : WW g z nL n k ad μ pc lv [.long v] := by
  intro H locs ls M S L
  rw [kQ K]
  exact vx_ret (W.widen hn hk (W.lret K.1.1 K.1.2.1 K.2.2.2.2.1.1 (fun t ht _ => ⟨_, ad, μ, rfl, h, by rw [ht]; exact M, S.F ht⟩) S.2.2 hdg K.2.2.2.1))
theorem r_dret (K : Kn g z cc nL y0 (some .double) tb lev mc ms ad0 μ0 ok ex) {v : UInt64} (hn : n ≤ mc) (hk : k ≤ ms) (h : ok (some (.double v)) ad μ) (hdg : decode cc pc = .ok (.dreturn, 1)) : WW g z nL n k ad μ pc lv [.double v] := by
  intro H locs ls M S L
  rw [kQ K]
  exact vx_ret (W.widen hn hk (W.dret K.1.1 K.1.2.1 K.2.2.2.2.1.1 (fun t ht _ => ⟨_, ad, μ, rfl, h, by rw [ht]; exact M, S.F ht⟩) S.2.2 hdg K.2.2.2.1))
theorem r_aret {rt : FieldType} (K : Kn g z cc nL y0 (some rt) tb lev mc ms ad0 μ0 ok ex) (hrt : (∃ nm, rt = .object nm) ∨ ∃ t, rt = .array t) {v : Value} (hv : v = .null ∨ ∃ a, v = .ref a) (hn : n ≤ mc) (hk : k ≤ ms) (h : ok (some v) ad μ) (hdg : decode cc pc = .ok (.areturn, 1)) : WW g z nL n k ad μ pc lv [v] := by
  intro H locs ls M S L
  rw [kQ K]
  exact vx_ret (W.widen hn hk (W.aret K.1.1 K.1.2.1 K.2.2.2.2.1.1 hrt hv (fun t ht _ => ⟨_, ad, μ, rfl, h, by rw [ht]; exact M, S.F ht⟩) S.2.2 hdg K.2.2.2.1))
theorem otX {w : Cond} (h : w ∈ WALL ++ xtZ) : vx_ot w = true := by
  show (w.onTables || goodWord w) = true
  rcases List.mem_append.mp h with h | h
  · rw [(List.mem_filter.mp h).2, Bool.or_true]
  · rcases List.mem_append.mp h with h | h
    · obtain ⟨q, -, rfl⟩ := List.mem_map.mp h; rfl
    · obtain ⟨q, -, rfl⟩ := List.mem_map.mp h; rfl
theorem kWX (K : Kn g z cc nL y0 ret tb lev mc ms ad0 μ0 ok ex) {w : Cond} (h : w ∈ WALL ++ xtZ) : w.before (ga g) (gs g) = true := by
  rcases List.mem_append.mp h with h | h
  · exact kW K h
  · rcases List.mem_append.mp h with h | h
    · obtain ⟨q, hq, rfl⟩ := List.mem_map.mp h
      exact va_Nw.use rfl ((kE K).2.2.1.2.2.1 q hq)
    · obtain ⟨q, hq, rfl⟩ := List.mem_map.mp h
      exact va_Nw.use rfl ((kE K).2.2.1.2.2.2 q hq)
/-- throw new E("text"), text by a short index -/
theorem r_throwS (K : Kn g z cc nL y0 ret [] lev mc ms ad0 μ0 ok ex) {ik is ic : Nat} {cls text : String} {names : List String} (hy : y0.cls = RX5) (hcls : Bundle.fit cls = true) (hnames : ∀ q ∈ names, Bundle.fit q = true) (hlen : names.length ≤ 5) (hk1 : Cond.classLink y0.cls ik cls ∈ WALL) (hk2 : Cond.initialized cls ∈ WALL) (hat : ∀ w ∈ vx_atS y0.cls ic cls names, w ∈ WALL ++ xtZ) (hs : (is, text) ∈ strsZ)
    (d0 : decode cc pc = .ok (.new ik, 3)) (d3 : decode cc (pc + 3) = .ok (.dup, 1)) (d4 : decode cc (pc + 4) = .ok (.ldc is, 2)) (d6 : decode cc (pc + 6) = .ok (.invokespecial ic, 3)) (d9 : decode cc (pc + 9) = .ok (.athrow, 1)) (hx : ex cls) (hst : (st.map fun v => v.category).sum ≤ 8) (hn : n + 1 ≤ mc) (hk : k + 6 ≤ ms) : WW g z nL n k ad0 μ0 pc lv st := by
  intro H locs ls M S L
  rw [kQ K]
  obtain ⟨sa, hsa⟩ := (kE K).2.2.1.1 _ hs
  refine vx_throwS (A := zA z) (own := y0.cls) (text := text) (names := names) (sa := sa) K.1.1 K.1.2.1 K.2.2.1 K.1.2.2.2.1 hcls hnames (kW K hk1) (kW K hk2) (by rw [hy]; exact hsa) (fun w hw => kWX K (hat w hw)) ?_ (kE K).2.1.1 (kE K).2.1.2 S (L.1.trans K.1.2.2.1.symm) d0 d3 d4 d6 d9 (fun x hx9 => by rw [K.2.2.2.2.2.2.1] at hx9; exact absurd hx9 List.not_mem_nil) (by rw [kR K]; show names.length + 3 < 12 + lev; omega) (by rw [kR K]; show _ + (13 * (names.length + 1) + 43) ≤ 200 + 60 * lev; omega) (by rw [kR K]; exact hn) (by rw [kR K]; exact hk) K.2.2.2.1 (fun t _ h1 h2 => ⟨hx, M.kept h2, Nat.le_trans S.1 h1, fun q h3 h4 => (h2 q (Nat.lt_of_lt_of_le h3 S.1)).trans (S.2.1 q h3 h4)⟩) S.2.2 hn hk
  intro w hw
  have hw2 : w ∈ WALL ++ xtZ := by
    rcases List.mem_cons.mp hw with rfl | hw
    · exact List.mem_append_left _ hk1
    · rcases List.mem_cons.mp hw with rfl | hw
      · exact List.mem_append_left _ hk2
      · exact hat w hw
  exact otX hw2
theorem r_throwSW (K : Kn g z cc nL y0 ret [] lev mc ms ad0 μ0 ok ex) {ik is ic : Nat} {cls text : String} {names : List String} (hy : y0.cls = RX5) (hcls : Bundle.fit cls = true) (hnames : ∀ q ∈ names, Bundle.fit q = true) (hlen : names.length ≤ 5) (hk1 : Cond.classLink y0.cls ik cls ∈ WALL) (hk2 : Cond.initialized cls ∈ WALL) (hat : ∀ w ∈ vx_atS y0.cls ic cls names, w ∈ WALL ++ xtZ) (hs : (is, text) ∈ strsZ)
    (d0 : decode cc pc = .ok (.new ik, 3)) (d3 : decode cc (pc + 3) = .ok (.dup, 1)) (d4 : decode cc (pc + 4) = .ok (.ldc_w is, 3)) (d7 : decode cc (pc + 7) = .ok (.invokespecial ic, 3)) (d10 : decode cc (pc + 10) = .ok (.athrow, 1)) (hx : ex cls) (hst : (st.map fun v => v.category).sum ≤ 8) (hn : n + 1 ≤ mc) (hk : k + 6 ≤ ms) : WW g z nL n k ad0 μ0 pc lv st := by
  intro H locs ls M S L
  rw [kQ K]
  obtain ⟨sa, hsa⟩ := (kE K).2.2.1.1 _ hs
  refine vx_throwSW (A := zA z) (own := y0.cls) (text := text) (names := names) (sa := sa) K.1.1 K.1.2.1 K.2.2.1 K.1.2.2.2.1 hcls hnames (kW K hk1) (kW K hk2) (by rw [hy]; exact hsa) (fun w hw => kWX K (hat w hw)) ?_ (kE K).2.1.1 (kE K).2.1.2 S (L.1.trans K.1.2.2.1.symm) d0 d3 d4 d7 d10 (fun x hx9 => by rw [K.2.2.2.2.2.2.1] at hx9; exact absurd hx9 List.not_mem_nil) (by rw [kR K]; show names.length + 3 < 12 + lev; omega) (by rw [kR K]; show _ + (13 * (names.length + 1) + 43) ≤ 200 + 60 * lev; omega) (by rw [kR K]; exact hn) (by rw [kR K]; exact hk) K.2.2.2.1 (fun t _ h1 h2 => ⟨hx, M.kept h2, Nat.le_trans S.1 h1, fun q h3 h4 => (h2 q (Nat.lt_of_lt_of_le h3 S.1)).trans (S.2.1 q h3 h4)⟩) S.2.2 hn hk
  intro w hw
  have hw2 : w ∈ WALL ++ xtZ := by
    rcases List.mem_cons.mp hw with rfl | hw
    · exact List.mem_append_left _ hk1
    · rcases List.mem_cons.mp hw with rfl | hw
      · exact List.mem_append_left _ hk2
      · exact hat w hw
  exact otX hw2
end ZC
end
section
/-! WORDS (by mkwords.py): each word of the tables, that it is in WALL; fields, calls, classes -/
theorem in_t1 {w : Cond} (h : w ∈ tables_1_1) : w ∈ lw_tbl := List.mem_append_right _ (List.mem_append_left _ h)
theorem wl1 {w : Cond} (i : Nat) (h : tables_1_1[i]? = some w) (g : goodWord w = true) : w ∈ WALL := List.mem_filter.mpr ⟨in_t1 (List.mem_of_getElem? h), g⟩
theorem in_t2 {w : Cond} (h : w ∈ tables_1_2) : w ∈ lw_tbl := List.mem_append_right _ (List.mem_append_right _ (List.mem_append_left _ h))
theorem wl2 {w : Cond} (i : Nat) (h : tables_1_2[i]? = some w) (g : goodWord w = true) : w ∈ WALL := List.mem_filter.mpr ⟨in_t2 (List.mem_of_getElem? h), g⟩
theorem in_t3 {w : Cond} (h : w ∈ tables_1_3) : w ∈ lw_tbl := List.mem_append_right _ (List.mem_append_right _ (List.mem_append_right _ (List.mem_append_left _ h)))
theorem wl3 {w : Cond} (i : Nat) (h : tables_1_3[i]? = some w) (g : goodWord w = true) : w ∈ WALL := List.mem_filter.mpr ⟨in_t3 (List.mem_of_getElem? h), g⟩
theorem in_t4 {w : Cond} (h : w ∈ tables_1_4) : w ∈ lw_tbl := List.mem_append_right _ (List.mem_append_right _ (List.mem_append_right _ (List.mem_append_right _ (List.mem_append_left _ h))))
theorem wl4 {w : Cond} (i : Nat) (h : tables_1_4[i]? = some w) (g : goodWord w = true) : w ∈ WALL := List.mem_filter.mpr ⟨in_t4 (List.mem_of_getElem? h), g⟩
theorem in_t5 {w : Cond} (h : w ∈ tables_1_5) : w ∈ lw_tbl := List.mem_append_right _ (List.mem_append_right _ (List.mem_append_right _ (List.mem_append_right _ (List.mem_append_right _ (List.mem_append_left _ h)))))
theorem wl5 {w : Cond} (i : Nat) (h : tables_1_5[i]? = some w) (g : goodWord w = true) : w ∈ WALL := List.mem_filter.mpr ⟨in_t5 (List.mem_of_getElem? h), g⟩
theorem in_t6 {w : Cond} (h : w ∈ tables_1_6) : w ∈ lw_tbl := List.mem_append_right _ (List.mem_append_right _ (List.mem_append_right _ (List.mem_append_right _ (List.mem_append_right _ (List.mem_append_right _ (List.mem_append_left _ h))))))
theorem wl6 {w : Cond} (i : Nat) (h : tables_1_6[i]? = some w) (g : goodWord w = true) : w ∈ WALL := List.mem_filter.mpr ⟨in_t6 (List.mem_of_getElem? h), g⟩
theorem in_t7 {w : Cond} (h : w ∈ tables_1_7) : w ∈ lw_tbl := List.mem_append_right _ (List.mem_append_right _ (List.mem_append_right _ (List.mem_append_right _ (List.mem_append_right _ (List.mem_append_right _ (List.mem_append_right _ (List.mem_append_left _ h)))))))
theorem wl7 {w : Cond} (i : Nat) (h : tables_1_7[i]? = some w) (g : goodWord w = true) : w ∈ WALL := List.mem_filter.mpr ⟨in_t7 (List.mem_of_getElem? h), g⟩
theorem in_t8 {w : Cond} (h : w ∈ tables_1_8) : w ∈ lw_tbl := List.mem_append_right _ (List.mem_append_right _ (List.mem_append_right _ (List.mem_append_right _ (List.mem_append_right _ (List.mem_append_right _ (List.mem_append_right _ (List.mem_append_right _ (h))))))))
theorem wl8 {w : Cond} (i : Nat) (h : tables_1_8[i]? = some w) (g : goodWord w = true) : w ∈ WALL := List.mem_filter.mpr ⟨in_t8 (List.mem_of_getElem? h), g⟩
theorem wd_0 : Cond.selects "StormBasin" ⟨"StormBasin", "tryPastRain", "(II)I"⟩ ⟨"StormBasin", "tryPastRain", "(II)I"⟩ ∈ WALL := wl 0 (by decide +kernel) rfl
theorem wd_1 : Cond.selects "StormBasin" ⟨"StormBasin", "moveWater", "(LStormBasin$Water;III)V"⟩ ⟨"StormBasin", "moveWater", "(LStormBasin$Water;III)V"⟩ ∈ WALL := wl 1 (by decide +kernel) rfl
theorem wd_2 : Cond.selects "StormBasin" ⟨"StormBasin", "openingBy", "(LStormBasin$Water;I)I"⟩ ⟨"StormBasin", "openingBy", "(LStormBasin$Water;I)I"⟩ ∈ WALL := wl 2 (by decide +kernel) rfl
theorem wd_3 : Cond.selects "StormBasin" ⟨"StormBasin", "holdsBy", "(LStormBasin$Water;LStormBasin$Rule;)Z"⟩ ⟨"StormBasin", "holdsBy", "(LStormBasin$Water;LStormBasin$Rule;)Z"⟩ ∈ WALL := wl 3 (by decide +kernel) rfl
theorem wd_4 : Cond.selects "StormBasin" ⟨"StormBasin", "levelBy", "(LStormBasin$Water;I)I"⟩ ⟨"StormBasin", "levelBy", "(LStormBasin$Water;I)I"⟩ ∈ WALL := wl 4 (by decide +kernel) rfl
theorem wd_5 : Cond.selects "StormBasin" ⟨"StormBasin", "wetCellsBy", "(LStormBasin$Water;)I"⟩ ⟨"StormBasin", "wetCellsBy", "(LStormBasin$Water;)I"⟩ ∈ WALL := wl 5 (by decide +kernel) rfl
theorem wd_6 : Cond.selects "java/lang/Throwable" ⟨"java/lang/Throwable", "fillInStackTrace", "(I)Ljava/lang/Throwable;"⟩ ⟨"java/lang/Throwable", "fillInStackTrace", "(I)Ljava/lang/Throwable;"⟩ ∈ WALL := wl 6 (by decide +kernel) rfl
theorem wd_7 : Cond.selects "StormBasin" ⟨"StormBasin", "requireBeforeFirstHour", "()V"⟩ ⟨"StormBasin", "requireBeforeFirstHour", "()V"⟩ ∈ WALL := wl 7 (by decide +kernel) rfl
theorem wd_8 : Cond.selects "java/util/ArrayList" ⟨"java/util/ArrayList", "add", "(Ljava/lang/Object;[Ljava/lang/Object;I)V"⟩ ⟨"java/util/ArrayList", "add", "(Ljava/lang/Object;[Ljava/lang/Object;I)V"⟩ ∈ WALL := wl 8 (by decide +kernel) rfl
theorem wd_9 : Cond.selects "java/util/ArrayList" ⟨"java/util/ArrayList", "grow", "()[Ljava/lang/Object;"⟩ ⟨"java/util/ArrayList", "grow", "()[Ljava/lang/Object;"⟩ ∈ WALL := wl 9 (by decide +kernel) rfl
theorem wd_10 : Cond.selects "java/util/ArrayList" ⟨"java/util/ArrayList", "grow", "(I)[Ljava/lang/Object;"⟩ ⟨"java/util/ArrayList", "grow", "(I)[Ljava/lang/Object;"⟩ ∈ WALL := wl 10 (by decide +kernel) rfl
theorem wd_11 : Cond.selects "StormBasin" ⟨"StormBasin", "basinOf", "(I)LStormBasin$Basin;"⟩ ⟨"StormBasin", "basinOf", "(I)LStormBasin$Basin;"⟩ ∈ WALL := wl 11 (by decide +kernel) rfl
theorem wd_12 : Cond.selects "StormBasin" ⟨"StormBasin", "requireBasin", "(I)V"⟩ ⟨"StormBasin", "requireBasin", "(I)V"⟩ ∈ WALL := wl 12 (by decide +kernel) rfl
theorem wd_13 : Cond.selects "StormBasin$Street" ⟨"StormBasin$Street", "volumeBefore", "(I)I"⟩ ⟨"StormBasin$Street", "volumeBefore", "(I)I"⟩ ∈ WALL := wl 13 (by decide +kernel) rfl
theorem wd_14 : Cond.selects "StormBasin$Street" ⟨"StormBasin$Street", "cellsAhead", "(II)I"⟩ ⟨"StormBasin$Street", "cellsAhead", "(II)I"⟩ ∈ WALL := wl 14 (by decide +kernel) rfl
theorem wd_15 : Cond.selects "StormBasin" ⟨"StormBasin", "requireRule", "(I)V"⟩ ⟨"StormBasin", "requireRule", "(I)V"⟩ ∈ WALL := wl 15 (by decide +kernel) rfl
theorem wd_16 : Cond.selects "java/util/ArrayList" ⟨"java/util/ArrayList", "fastRemove", "([Ljava/lang/Object;I)V"⟩ ⟨"java/util/ArrayList", "fastRemove", "([Ljava/lang/Object;I)V"⟩ ∈ WALL := wl 16 (by decide +kernel) rfl
theorem wd_17 : Cond.selects "StormBasin" ⟨"StormBasin", "passOneHour", "()V"⟩ ⟨"StormBasin", "passOneHour", "()V"⟩ ∈ WALL := wl 17 (by decide +kernel) rfl
theorem wd_18 : Cond.selects "StormBasin" ⟨"StormBasin", "streetWith", "(II)LStormBasin$Street;"⟩ ⟨"StormBasin", "streetWith", "(II)LStormBasin$Street;"⟩ ∈ WALL := wl 18 (by decide +kernel) rfl
theorem wd_19 : Cond.selects "StormBasin$Street" ⟨"StormBasin$Street", "cellsUpTo", "(I)I"⟩ ⟨"StormBasin$Street", "cellsUpTo", "(I)I"⟩ ∈ WALL := wl 19 (by decide +kernel) rfl
theorem wd_20 : Cond.selects "StormBasin$Street" ⟨"StormBasin$Street", "lowestCell", "()I"⟩ ⟨"StormBasin$Street", "lowestCell", "()I"⟩ ∈ WALL := wl 20 (by decide +kernel) rfl
theorem wd_21 : Cond.selects "StormBasin" ⟨"StormBasin", "requireHour", "(I)V"⟩ ⟨"StormBasin", "requireHour", "(I)V"⟩ ∈ WALL := wl 21 (by decide +kernel) rfl
theorem wd_22 : Cond.selects "StormBasin" ⟨"StormBasin", "houseOf", "(I)LStormBasin$House;"⟩ ⟨"StormBasin", "houseOf", "(I)LStormBasin$House;"⟩ ∈ WALL := wl 22 (by decide +kernel) rfl
theorem wd_23 : Cond.selects "StormBasinModel" ⟨"StormBasinModel", "isNone", "(I)Z"⟩ ⟨"StormBasinModel", "isNone", "(I)Z"⟩ ∈ WALL := wl 23 (by decide +kernel) rfl
theorem wd_24 : Cond.selects "StormBasinModel" ⟨"StormBasinModel", "fails", "(I)Z"⟩ ⟨"StormBasinModel", "fails", "(I)Z"⟩ ∈ WALL := wl 24 (by decide +kernel) rfl
theorem wd_25 : Cond.selects "StormBasinModel" ⟨"StormBasinModel", "tells", "(I)I"⟩ ⟨"StormBasinModel", "tells", "(I)I"⟩ ∈ WALL := wl 25 (by decide +kernel) rfl
theorem wd_26 : Cond.selects "StormBasinModel" ⟨"StormBasinModel", "holds", "(I)I"⟩ ⟨"StormBasinModel", "holds", "(I)I"⟩ ∈ WALL := wl 26 (by decide +kernel) rfl
theorem wd_27 : Cond.selects "StormBasinModel" ⟨"StormBasinModel", "isNoRule", "(I)Z"⟩ ⟨"StormBasinModel", "isNoRule", "(I)Z"⟩ ∈ WALL := wl 27 (by decide +kernel) rfl
theorem wd_28 : Cond.selects "StormBasinModel" ⟨"StormBasinModel", "isTrue", "(I[I)Z"⟩ ⟨"StormBasinModel", "isTrue", "(I[I)Z"⟩ ∈ WALL := wl 28 (by decide +kernel) rfl
theorem wd_29 : Cond.selects "StormBasinModel" ⟨"StormBasinModel", "opening", "(I[I)I"⟩ ⟨"StormBasinModel", "opening", "(I[I)I"⟩ ∈ WALL := wl 29 (by decide +kernel) rfl
theorem wd_30 : Cond.selects "StormBasinModel" ⟨"StormBasinModel", "flows", "([I[I)I"⟩ ⟨"StormBasinModel", "flows", "([I[I)I"⟩ ∈ WALL := wl 30 (by decide +kernel) rfl
theorem wd_31 : Cond.selects "StormBasinModel" ⟨"StormBasinModel", "held", "()I"⟩ ⟨"StormBasinModel", "held", "()I"⟩ ∈ WALL := wl 31 (by decide +kernel) rfl
theorem wd_32 : Cond.selects "StormBasinModel" ⟨"StormBasinModel", "deep", "(II)I"⟩ ⟨"StormBasinModel", "deep", "(II)I"⟩ ∈ WALL := wl 32 (by decide +kernel) rfl
theorem wd_33 : Cond.selects "StormBasinModel" ⟨"StormBasinModel", "isNoCell", "(II)Z"⟩ ⟨"StormBasinModel", "isNoCell", "(II)Z"⟩ ∈ WALL := wl 33 (by decide +kernel) rfl
theorem wd_34 : Cond.selects "StormBasinModel" ⟨"StormBasinModel", "depth", "(III)I"⟩ ⟨"StormBasinModel", "depth", "(III)I"⟩ ∈ WALL := wl 34 (by decide +kernel) rfl
theorem wd_35 : Cond.selects "StormBasinModel" ⟨"StormBasinModel", "heightOf", "(II)I"⟩ ⟨"StormBasinModel", "heightOf", "(II)I"⟩ ∈ WALL := wl 35 (by decide +kernel) rfl
theorem wd_36 : Cond.selects "StormBasinModel" ⟨"StormBasinModel", "upTo", "(II)I"⟩ ⟨"StormBasinModel", "upTo", "(II)I"⟩ ∈ WALL := wl 36 (by decide +kernel) rfl
theorem wd_37 : Cond.selects "StormBasinModel" ⟨"StormBasinModel", "then", "(III)I"⟩ ⟨"StormBasinModel", "then", "(III)I"⟩ ∈ WALL := wl 37 (by decide +kernel) rfl
theorem wd_38 : Cond.selects "StormBasinModel" ⟨"StormBasinModel", "wet", "(II)I"⟩ ⟨"StormBasinModel", "wet", "(II)I"⟩ ∈ WALL := wl 38 (by decide +kernel) rfl
theorem wd_39 : Cond.selects "StormBasinModel" ⟨"StormBasinModel", "isNoHour", "(II)Z"⟩ ⟨"StormBasinModel", "isNoHour", "(II)Z"⟩ ∈ WALL := wl 39 (by decide +kernel) rfl
theorem wd_40 : Cond.selects "StormBasinModel" ⟨"StormBasinModel", "isNoHouse", "(I)Z"⟩ ⟨"StormBasinModel", "isNoHouse", "(I)Z"⟩ ∈ WALL := wl 40 (by decide +kernel) rfl
theorem wd_41 : Cond.selects "StormBasinModel" ⟨"StormBasinModel", "worth", "(II)I"⟩ ⟨"StormBasinModel", "worth", "(II)I"⟩ ∈ WALL := wl 41 (by decide +kernel) rfl
theorem wd_42 : Cond.selects "StormBasinModel" ⟨"StormBasinModel", "pays", "(II)I"⟩ ⟨"StormBasinModel", "pays", "(II)I"⟩ ∈ WALL := wl 42 (by decide +kernel) rfl
theorem wd_43 : Cond.selects "StormBasinModel" ⟨"StormBasinModel", "allPaid", "()J"⟩ ⟨"StormBasinModel", "allPaid", "()J"⟩ ∈ WALL := wl 43 (by decide +kernel) rfl
theorem wd_44 : Cond.selects "StormBasinModel" ⟨"StormBasinModel", "trial", "(II)I"⟩ ⟨"StormBasinModel", "trial", "(II)I"⟩ ∈ WALL := wl 44 (by decide +kernel) rfl
theorem wd_45 : Cond.selects "StormBasinModel" ⟨"StormBasinModel", "putsNumber", "(I)V"⟩ ⟨"StormBasinModel", "putsNumber", "(I)V"⟩ ∈ WALL := wl 45 (by decide +kernel) rfl
theorem wd_46 : Cond.selects "StormBasinModel" ⟨"StormBasinModel", "puts", "(C)V"⟩ ⟨"StormBasinModel", "puts", "(C)V"⟩ ∈ WALL := wl 46 (by decide +kernel) rfl
theorem wd_47 : (Jvm.Cond.initialized "StormBasinLaw") ∈ WALL := wl1 0 (by decide +kernel) rfl
theorem wd_48 : (Jvm.Cond.initialized "StormBasin") ∈ WALL := wl1 1 (by decide +kernel) rfl
theorem wd_49 : (Jvm.Cond.initialized "java/util/AbstractCollection") ∈ WALL := wl1 2 (by decide +kernel) rfl
theorem wd_50 : (Jvm.Cond.initialized "java/util/AbstractList") ∈ WALL := wl1 3 (by decide +kernel) rfl
theorem wd_51 : (Jvm.Cond.initialized "java/util/ArrayList") ∈ WALL := wl1 4 (by decide +kernel) rfl
theorem wd_52 : (Jvm.Cond.initialized "StormBasin$Water") ∈ WALL := wl1 5 (by decide +kernel) rfl
theorem wd_53 : (Jvm.Cond.initialized "java/lang/AbstractStringBuilder") ∈ WALL := wl1 6 (by decide +kernel) rfl
theorem wd_54 : (Jvm.Cond.initialized "java/lang/StringBuilder") ∈ WALL := wl1 7 (by decide +kernel) rfl
theorem wd_55 : (Jvm.Cond.initialized "java/lang/String") ∈ WALL := wl1 8 (by decide +kernel) rfl
theorem wd_56 : (Jvm.Cond.initialized "java/lang/StringUTF16") ∈ WALL := wl1 9 (by decide +kernel) rfl
theorem wd_57 : (Jvm.Cond.initialized "StormBasinModel") ∈ WALL := wl1 10 (by decide +kernel) rfl
theorem wd_58 : (Jvm.Cond.initialized "java/lang/Throwable") ∈ WALL := wl1 11 (by decide +kernel) rfl
theorem wd_59 : (Jvm.Cond.initialized "java/lang/Exception") ∈ WALL := wl1 12 (by decide +kernel) rfl
theorem wd_60 : (Jvm.Cond.initialized "java/lang/RuntimeException") ∈ WALL := wl1 13 (by decide +kernel) rfl
theorem wd_61 : (Jvm.Cond.initialized "java/lang/IndexOutOfBoundsException") ∈ WALL := wl1 14 (by decide +kernel) rfl
theorem wd_62 : (Jvm.Cond.initialized "java/lang/ArrayIndexOutOfBoundsException") ∈ WALL := wl1 15 (by decide +kernel) rfl
theorem wd_63 : (Jvm.Cond.initialized "java/lang/IllegalArgumentException") ∈ WALL := wl1 16 (by decide +kernel) rfl
theorem wd_64 : (Jvm.Cond.initialized "java/lang/IllegalStateException") ∈ WALL := wl1 17 (by decide +kernel) rfl
theorem wd_65 : (Jvm.Cond.initialized "StormBasin$Basin") ∈ WALL := wl1 18 (by decide +kernel) rfl
theorem wd_66 : (Jvm.Cond.initialized "StormBasin$Street") ∈ WALL := wl1 19 (by decide +kernel) rfl
theorem wd_67 : (Jvm.Cond.initialized "jdk/internal/util/ArraysSupport") ∈ WALL := wl1 20 (by decide +kernel) rfl
theorem wd_68 : (Jvm.Cond.initialized "java/lang/Math") ∈ WALL := wl1 21 (by decide +kernel) rfl
theorem wd_69 : (Jvm.Cond.initialized "java/util/Arrays") ∈ WALL := wl1 22 (by decide +kernel) rfl
theorem wd_70 : (Jvm.Cond.initialized "java/lang/System") ∈ WALL := wl1 23 (by decide +kernel) rfl
theorem wd_71 : (Jvm.Cond.initialized "java/util/Objects") ∈ WALL := wl1 24 (by decide +kernel) rfl
theorem wd_72 : (Jvm.Cond.initialized "jdk/internal/util/Preconditions") ∈ WALL := wl1 25 (by decide +kernel) rfl
theorem wd_73 : (Jvm.Cond.initialized "StormBasin$Rule") ∈ WALL := wl1 26 (by decide +kernel) rfl
theorem wd_74 : (Jvm.Cond.initialized "StormBasin$House") ∈ WALL := wl1 27 (by decide +kernel) rfl
theorem wd_75 : (Jvm.Cond.initialized "java/lang/UnsupportedOperationException") ∈ WALL := wl1 28 (by decide +kernel) rfl
theorem wd_76 : (Jvm.Cond.initialized "java/util/NoSuchElementException") ∈ WALL := wl1 29 (by decide +kernel) rfl
theorem wd_77 : (Jvm.Cond.initialized "java/lang/ArithmeticException") ∈ WALL := wl1 30 (by decide +kernel) rfl
theorem wd_78 : (Jvm.Cond.initialized "java/lang/StringIndexOutOfBoundsException") ∈ WALL := wl1 31 (by decide +kernel) rfl
theorem wd_79 : (Jvm.Cond.initialized "java/lang/StringLatin1") ∈ WALL := wl1 32 (by decide +kernel) rfl
theorem wd_80 : (Jvm.Cond.initialized "java/lang/Number") ∈ WALL := wl1 33 (by decide +kernel) rfl
theorem wd_81 : (Jvm.Cond.initialized "java/lang/Integer") ∈ WALL := wl1 34 (by decide +kernel) rfl
theorem wd_82 : (Jvm.Cond.classLink "StormBasinLaw" (8 : Nat) "StormBasin") ∈ WALL := wl1 35 (by decide +kernel) rfl
theorem wd_83 : (Jvm.Cond.instantiable "StormBasin" (9 : Nat)) ∈ WALL := wl1 36 (by decide +kernel) rfl
theorem wd_84 : (Jvm.Cond.methodLink "StormBasinLaw" (124 : Nat) ({ cls := "StormBasin", name := "<init>", desc := "()V" } : Jvm.MethodName)) ∈ WALL := wl1 37 (by decide +kernel) rfl
theorem wd_85 : (Jvm.Cond.instanceMethod ({ cls := "StormBasin", name := "<init>", desc := "()V" } : Jvm.MethodName)) ∈ WALL := wl1 38 (by decide +kernel) rfl
theorem wd_86 : (Jvm.Cond.code ({ cls := "StormBasin", name := "<init>", desc := "()V" } : Jvm.MethodName) prog_1_method_1_code (1 : Nat) (Option.none : Option Jvm.ClassFile.FieldType)) ∈ WALL := wl1 39 (by decide +kernel) rfl
theorem wd_87 : (Jvm.Cond.methodLink "StormBasin" (1 : Nat) ({ cls := "java/lang/Object", name := "<init>", desc := "()V" } : Jvm.MethodName)) ∈ WALL := wl1 40 (by decide +kernel) rfl
theorem wd_88 : (Jvm.Cond.instanceMethod ({ cls := "java/lang/Object", name := "<init>", desc := "()V" } : Jvm.MethodName)) ∈ WALL := wl1 41 (by decide +kernel) rfl
theorem wd_89 : (Jvm.Cond.code ({ cls := "java/lang/Object", name := "<init>", desc := "()V" } : Jvm.MethodName) object_method_1_code (1 : Nat) (Option.none : Option Jvm.ClassFile.FieldType)) ∈ WALL := wl1 42 (by decide +kernel) rfl
theorem wd_90 : (Jvm.Cond.classLink "StormBasin" (7 : Nat) "java/util/ArrayList") ∈ WALL := wl1 43 (by decide +kernel) rfl
theorem wd_91 : (Jvm.Cond.instantiable "java/util/ArrayList" (3 : Nat)) ∈ WALL := wl1 44 (by decide +kernel) rfl
theorem wd_92 : (Jvm.Cond.methodLink "StormBasin" (9 : Nat) ({ cls := "java/util/ArrayList", name := "<init>", desc := "()V" } : Jvm.MethodName)) ∈ WALL := wl1 45 (by decide +kernel) rfl
theorem wd_93 : (Jvm.Cond.instanceMethod ({ cls := "java/util/ArrayList", name := "<init>", desc := "()V" } : Jvm.MethodName)) ∈ WALL := wl1 46 (by decide +kernel) rfl
theorem wd_94 : (Jvm.Cond.code ({ cls := "java/util/ArrayList", name := "<init>", desc := "()V" } : Jvm.MethodName) prog_38_method_2_code (1 : Nat) (Option.none : Option Jvm.ClassFile.FieldType)) ∈ WALL := wl1 47 (by decide +kernel) rfl
theorem wd_95 : (Jvm.Cond.methodLink "java/util/ArrayList" (1 : Nat) ({ cls := "java/util/AbstractList", name := "<init>", desc := "()V" } : Jvm.MethodName)) ∈ WALL := wl1 48 (by decide +kernel) rfl
theorem wd_96 : (Jvm.Cond.instanceMethod ({ cls := "java/util/AbstractList", name := "<init>", desc := "()V" } : Jvm.MethodName)) ∈ WALL := wl1 49 (by decide +kernel) rfl
theorem wd_97 : (Jvm.Cond.code ({ cls := "java/util/AbstractList", name := "<init>", desc := "()V" } : Jvm.MethodName) prog_37_method_1_code (1 : Nat) (Option.none : Option Jvm.ClassFile.FieldType)) ∈ WALL := wl1 50 (by decide +kernel) rfl
theorem wd_98 : (Jvm.Cond.methodLink "java/util/AbstractList" (1 : Nat) ({ cls := "java/util/AbstractCollection", name := "<init>", desc := "()V" } : Jvm.MethodName)) ∈ WALL := wl1 51 (by decide +kernel) rfl
theorem wd_99 : (Jvm.Cond.instanceMethod ({ cls := "java/util/AbstractCollection", name := "<init>", desc := "()V" } : Jvm.MethodName)) ∈ WALL := wl1 52 (by decide +kernel) rfl
theorem wd_100 : (Jvm.Cond.code ({ cls := "java/util/AbstractCollection", name := "<init>", desc := "()V" } : Jvm.MethodName) prog_36_method_1_code (1 : Nat) (Option.none : Option Jvm.ClassFile.FieldType)) ∈ WALL := wl1 53 (by decide +kernel) rfl
theorem wd_101 : (Jvm.Cond.methodLink "java/util/AbstractCollection" (1 : Nat) ({ cls := "java/lang/Object", name := "<init>", desc := "()V" } : Jvm.MethodName)) ∈ WALL := wl1 54 (by decide +kernel) rfl
theorem wd_102 : (Jvm.Cond.fieldLink "java/util/ArrayList" (39 : Nat) "java/util/ArrayList" "DEFAULTCAPACITY_EMPTY_ELEMENTDATA" "[Ljava/lang/Object;") ∈ WALL := wl1 55 (by decide +kernel) rfl
theorem wd_104 : (Jvm.Cond.fieldLink "java/util/ArrayList" (9 : Nat) "java/util/ArrayList" "elementData" "[Ljava/lang/Object;") ∈ WALL := wl1 57 (by decide +kernel) rfl
theorem wd_105 : (Jvm.Cond.fieldLink "java/util/ArrayList" (48 : Nat) "java/util/ArrayList" "size" "I") ∈ WALL := wl1 58 (by decide +kernel) rfl
theorem wd_106 : (Jvm.Cond.fieldLink "java/util/AbstractList" (7 : Nat) "java/util/AbstractList" "modCount" "I") ∈ WALL := wl1 59 (by decide +kernel) rfl
theorem wd_107 : (Jvm.Cond.fieldLink "java/util/ArrayList" (63 : Nat) "java/util/ArrayList" "modCount" "I") ∈ WALL := wl1 60 (by decide +kernel) rfl
theorem wd_108 : (Jvm.Cond.sameField "java/util/ArrayList" "java/util/AbstractList" "modCount" "I") ∈ WALL := wl1 61 (by decide +kernel) rfl
theorem wd_109 : (Jvm.Cond.lays "java/util/ArrayList" "java/util/ArrayList" "elementData" "[Ljava/lang/Object;") ∈ WALL := wl1 62 (by decide +kernel) rfl
theorem wd_111 : (Jvm.Cond.lays "java/util/ArrayList" "java/util/ArrayList" "size" "I") ∈ WALL := wl1 64 (by decide +kernel) rfl
theorem wd_113 : (Jvm.Cond.lays "java/util/ArrayList" "java/util/AbstractList" "modCount" "I") ∈ WALL := wl1 66 (by decide +kernel) rfl
theorem wd_115 : (Jvm.Cond.superclass "java/util/ArrayList" "java/util/AbstractList") ∈ WALL := wl1 68 (by decide +kernel) rfl
theorem wd_116 : (Jvm.Cond.classLink "StormBasin" (22 : Nat) "StormBasin$Water") ∈ WALL := wl1 69 (by decide +kernel) rfl
theorem wd_117 : (Jvm.Cond.instantiable "StormBasin$Water" (4 : Nat)) ∈ WALL := wl1 70 (by decide +kernel) rfl
theorem wd_118 : (Jvm.Cond.methodLink "StormBasin" (24 : Nat) ({ cls := "StormBasin$Water", name := "<init>", desc := "()V" } : Jvm.MethodName)) ∈ WALL := wl1 71 (by decide +kernel) rfl
theorem wd_119 : (Jvm.Cond.instanceMethod ({ cls := "StormBasin$Water", name := "<init>", desc := "()V" } : Jvm.MethodName)) ∈ WALL := wl1 72 (by decide +kernel) rfl
theorem wd_120 : (Jvm.Cond.code ({ cls := "StormBasin$Water", name := "<init>", desc := "()V" } : Jvm.MethodName) prog_6_method_1_code (1 : Nat) (Option.none : Option Jvm.ClassFile.FieldType)) ∈ WALL := wl1 73 (by decide +kernel) rfl
theorem wd_121 : (Jvm.Cond.methodLink "StormBasin$Water" (3 : Nat) ({ cls := "java/lang/Object", name := "<init>", desc := "()V" } : Jvm.MethodName)) ∈ WALL := wl1 74 (by decide +kernel) rfl
theorem wd_122 : (Jvm.Cond.fieldLink "StormBasin$Water" (9 : Nat) "StormBasin$Water" "inBasin" "[I") ∈ WALL := wl1 75 (by decide +kernel) rfl
theorem wd_123 : (Jvm.Cond.fieldLink "StormBasin" (159 : Nat) "StormBasin$Water" "inBasin" "[I") ∈ WALL := wl1 76 (by decide +kernel) rfl
theorem wd_124 : (Jvm.Cond.fieldLink "StormBasin$Water" (15 : Nat) "StormBasin$Water" "onStreet" "[I") ∈ WALL := wl1 77 (by decide +kernel) rfl
theorem wd_125 : (Jvm.Cond.fieldLink "StormBasin" (166 : Nat) "StormBasin$Water" "onStreet" "[I") ∈ WALL := wl1 78 (by decide +kernel) rfl
theorem wd_126 : (Jvm.Cond.fieldLink "StormBasin$Water" (18 : Nat) "StormBasin$Water" "leaving" "[I") ∈ WALL := wl1 79 (by decide +kernel) rfl
theorem wd_127 : (Jvm.Cond.fieldLink "StormBasin" (330 : Nat) "StormBasin$Water" "leaving" "[I") ∈ WALL := wl1 80 (by decide +kernel) rfl
theorem wd_128 : (Jvm.Cond.fieldLink "StormBasin$Water" (27 : Nat) "StormBasin$Water" "inRiver" "I") ∈ WALL := wl1 81 (by decide +kernel) rfl
theorem wd_129 : (Jvm.Cond.fieldLink "StormBasin" (172 : Nat) "StormBasin$Water" "inRiver" "I") ∈ WALL := wl1 82 (by decide +kernel) rfl
theorem wd_130 : (Jvm.Cond.laysFinal "StormBasin$Water" "StormBasin$Water" "inBasin" "[I") ∈ WALL := wl1 83 (by decide +kernel) rfl
theorem wd_132 : (Jvm.Cond.laysFinal "StormBasin$Water" "StormBasin$Water" "onStreet" "[I") ∈ WALL := wl1 85 (by decide +kernel) rfl
theorem wd_134 : (Jvm.Cond.laysFinal "StormBasin$Water" "StormBasin$Water" "leaving" "[I") ∈ WALL := wl1 87 (by decide +kernel) rfl
theorem wd_136 : (Jvm.Cond.lays "StormBasin$Water" "StormBasin$Water" "inRiver" "I") ∈ WALL := wl1 89 (by decide +kernel) rfl
theorem wd_138 : (Jvm.Cond.superclass "StormBasin$Water" "java/lang/Object") ∈ WALL := wl1 91 (by decide +kernel) rfl
theorem wd_139 : (Jvm.Cond.arrayClass Jvm.ClassFile.FieldType.int) ∈ WALL := wl1 92 (by decide +kernel) rfl
theorem wd_140 : (Jvm.Cond.classLink "StormBasin" (32 : Nat) "java/lang/StringBuilder") ∈ WALL := wl1 93 (by decide +kernel) rfl
theorem wd_141 : (Jvm.Cond.instantiable "java/lang/StringBuilder" (4 : Nat)) ∈ WALL := wl1 94 (by decide +kernel) rfl
theorem wd_142 : (Jvm.Cond.methodLink "StormBasin" (34 : Nat) ({ cls := "java/lang/StringBuilder", name := "<init>", desc := "()V" } : Jvm.MethodName)) ∈ WALL := wl1 95 (by decide +kernel) rfl
theorem wd_143 : (Jvm.Cond.instanceMethod ({ cls := "java/lang/StringBuilder", name := "<init>", desc := "()V" } : Jvm.MethodName)) ∈ WALL := wl1 96 (by decide +kernel) rfl
theorem wd_144 : (Jvm.Cond.code ({ cls := "java/lang/StringBuilder", name := "<init>", desc := "()V" } : Jvm.MethodName) prog_27_method_1_code (1 : Nat) (Option.none : Option Jvm.ClassFile.FieldType)) ∈ WALL := wl1 97 (by decide +kernel) rfl
theorem wd_145 : (Jvm.Cond.methodLink "java/lang/StringBuilder" (1 : Nat) ({ cls := "java/lang/AbstractStringBuilder", name := "<init>", desc := "(I)V" } : Jvm.MethodName)) ∈ WALL := wl1 98 (by decide +kernel) rfl
theorem wd_146 : (Jvm.Cond.instanceMethod ({ cls := "java/lang/AbstractStringBuilder", name := "<init>", desc := "(I)V" } : Jvm.MethodName)) ∈ WALL := wl1 99 (by decide +kernel) rfl
theorem wd_147 : (Jvm.Cond.code ({ cls := "java/lang/AbstractStringBuilder", name := "<init>", desc := "(I)V" } : Jvm.MethodName) prog_10_method_2_code (2 : Nat) (Option.none : Option Jvm.ClassFile.FieldType)) ∈ WALL := wl1 100 (by decide +kernel) rfl
theorem wd_148 : (Jvm.Cond.methodLink "java/lang/AbstractStringBuilder" (3 : Nat) ({ cls := "java/lang/Object", name := "<init>", desc := "()V" } : Jvm.MethodName)) ∈ WALL := wl1 101 (by decide +kernel) rfl
theorem wd_149 : (Jvm.Cond.fieldLink "java/lang/AbstractStringBuilder" (18 : Nat) "java/lang/String" "COMPACT_STRINGS" "Z") ∈ WALL := wl1 102 (by decide +kernel) rfl
theorem wd_151 : (Jvm.Cond.methodLink "java/lang/AbstractStringBuilder" (26 : Nat) ({ cls := "java/lang/StringUTF16", name := "newBytesFor", desc := "(I)[B" } : Jvm.MethodName)) ∈ WALL := wl1 104 (by decide +kernel) rfl
theorem wd_152 : (Jvm.Cond.static ({ cls := "java/lang/StringUTF16", name := "newBytesFor", desc := "(I)[B" } : Jvm.MethodName)) ∈ WALL := wl1 105 (by decide +kernel) rfl
theorem wd_153 : (Jvm.Cond.code ({ cls := "java/lang/StringUTF16", name := "newBytesFor", desc := "(I)[B" } : Jvm.MethodName) prog_30_method_2_code (1 : Nat) (Option.some (Jvm.ClassFile.FieldType.array Jvm.ClassFile.FieldType.byte))) ∈ WALL := wl1 106 (by decide +kernel) rfl
theorem wd_154 : (Jvm.Cond.methodLink "java/lang/StringUTF16" (11 : Nat) ({ cls := "java/lang/StringUTF16", name := "newBytesLength", desc := "(I)I" } : Jvm.MethodName)) ∈ WALL := wl1 107 (by decide +kernel) rfl
theorem wd_155 : (Jvm.Cond.static ({ cls := "java/lang/StringUTF16", name := "newBytesLength", desc := "(I)I" } : Jvm.MethodName)) ∈ WALL := wl1 108 (by decide +kernel) rfl
theorem wd_156 : (Jvm.Cond.code ({ cls := "java/lang/StringUTF16", name := "newBytesLength", desc := "(I)I" } : Jvm.MethodName) prog_30_method_3_code (1 : Nat) (Option.some Jvm.ClassFile.FieldType.int)) ∈ WALL := wl1 109 (by decide +kernel) rfl
theorem wd_157 : (Jvm.Cond.constant "java/lang/StringUTF16" (20 : Nat) (1073741823 : Int32)) ∈ WALL := wl1 110 (by decide +kernel) rfl
theorem wd_158 : (Jvm.Cond.fieldLink "java/lang/AbstractStringBuilder" (15 : Nat) "java/lang/AbstractStringBuilder" "value" "[B") ∈ WALL := wl1 111 (by decide +kernel) rfl
theorem wd_159 : (Jvm.Cond.fieldLink "java/lang/AbstractStringBuilder" (22 : Nat) "java/lang/AbstractStringBuilder" "coder" "B") ∈ WALL := wl1 112 (by decide +kernel) rfl
theorem wd_160 : (Jvm.Cond.fieldLink "java/lang/AbstractStringBuilder" (73 : Nat) "java/lang/AbstractStringBuilder" "maybeLatin1" "Z") ∈ WALL := wl1 113 (by decide +kernel) rfl
theorem wd_161 : (Jvm.Cond.fieldLink "java/lang/String" (1048 : Nat) "java/lang/AbstractStringBuilder" "maybeLatin1" "Z") ∈ WALL := wl1 114 (by decide +kernel) rfl
theorem wd_162 : (Jvm.Cond.fieldLink "java/lang/AbstractStringBuilder" (79 : Nat) "java/lang/AbstractStringBuilder" "count" "I") ∈ WALL := wl1 115 (by decide +kernel) rfl
theorem wd_163 : (Jvm.Cond.lays "java/lang/StringBuilder" "java/lang/AbstractStringBuilder" "value" "[B") ∈ WALL := wl1 116 (by decide +kernel) rfl
theorem wd_165 : (Jvm.Cond.lays "java/lang/StringBuilder" "java/lang/AbstractStringBuilder" "coder" "B") ∈ WALL := wl1 118 (by decide +kernel) rfl
theorem wd_167 : (Jvm.Cond.lays "java/lang/StringBuilder" "java/lang/AbstractStringBuilder" "maybeLatin1" "Z") ∈ WALL := wl1 120 (by decide +kernel) rfl
theorem wd_169 : (Jvm.Cond.lays "java/lang/StringBuilder" "java/lang/AbstractStringBuilder" "count" "I") ∈ WALL := wl1 122 (by decide +kernel) rfl
theorem wd_171 : (Jvm.Cond.superclass "java/lang/StringBuilder" "java/lang/AbstractStringBuilder") ∈ WALL := wl1 124 (by decide +kernel) rfl
theorem wd_172 : (Jvm.Cond.arrayClass Jvm.ClassFile.FieldType.byte) ∈ WALL := wl1 125 (by decide +kernel) rfl
theorem wd_173 : (Jvm.Cond.fieldLink "StormBasin" (10 : Nat) "StormBasin" "basins" "Ljava/util/ArrayList;") ∈ WALL := wl1 126 (by decide +kernel) rfl
theorem wd_174 : (Jvm.Cond.fieldLink "StormBasin" (16 : Nat) "StormBasin" "rules" "Ljava/util/ArrayList;") ∈ WALL := wl1 127 (by decide +kernel) rfl
theorem wd_175 : (Jvm.Cond.fieldLink "StormBasin" (19 : Nat) "StormBasin" "houses" "Ljava/util/ArrayList;") ∈ WALL := wl1 128 (by decide +kernel) rfl
theorem wd_176 : (Jvm.Cond.fieldLink "StormBasin" (25 : Nat) "StormBasin" "present" "LStormBasin$Water;") ∈ WALL := wl1 129 (by decide +kernel) rfl
theorem wd_177 : (Jvm.Cond.fieldLink "StormBasin" (29 : Nat) "StormBasin" "trial" "LStormBasin$Water;") ∈ WALL := wl1 130 (by decide +kernel) rfl
theorem wd_178 : (Jvm.Cond.fieldLink "StormBasin" (35 : Nat) "StormBasin" "line" "Ljava/lang/StringBuilder;") ∈ WALL := wl1 131 (by decide +kernel) rfl
theorem wd_179 : (Jvm.Cond.fieldLink "StormBasin" (151 : Nat) "StormBasin" "clock" "I") ∈ WALL := wl1 132 (by decide +kernel) rfl
theorem wd_180 : (Jvm.Cond.fieldLink "StormBasin" (169 : Nat) "StormBasin" "rainSoFar" "I") ∈ WALL := wl1 133 (by decide +kernel) rfl
theorem wd_181 : (Jvm.Cond.fieldLink "StormBasin" (203 : Nat) "StormBasin" "wetSoFar" "I") ∈ WALL := wl1 134 (by decide +kernel) rfl
theorem wd_182 : (Jvm.Cond.laysFinal "StormBasin" "StormBasin" "basins" "Ljava/util/ArrayList;") ∈ WALL := wl1 135 (by decide +kernel) rfl
theorem wd_184 : (Jvm.Cond.laysFinal "StormBasin" "StormBasin" "rules" "Ljava/util/ArrayList;") ∈ WALL := wl1 137 (by decide +kernel) rfl
theorem wd_186 : (Jvm.Cond.laysFinal "StormBasin" "StormBasin" "houses" "Ljava/util/ArrayList;") ∈ WALL := wl1 139 (by decide +kernel) rfl
theorem wd_188 : (Jvm.Cond.laysFinal "StormBasin" "StormBasin" "present" "LStormBasin$Water;") ∈ WALL := wl1 141 (by decide +kernel) rfl
theorem wd_190 : (Jvm.Cond.laysFinal "StormBasin" "StormBasin" "trial" "LStormBasin$Water;") ∈ WALL := wl1 143 (by decide +kernel) rfl
theorem wd_192 : (Jvm.Cond.laysFinal "StormBasin" "StormBasin" "line" "Ljava/lang/StringBuilder;") ∈ WALL := wl1 145 (by decide +kernel) rfl
theorem wd_194 : (Jvm.Cond.lays "StormBasin" "StormBasin" "clock" "I") ∈ WALL := wl1 147 (by decide +kernel) rfl
theorem wd_196 : (Jvm.Cond.lays "StormBasin" "StormBasin" "rainSoFar" "I") ∈ WALL := wl1 149 (by decide +kernel) rfl
theorem wd_198 : (Jvm.Cond.lays "StormBasin" "StormBasin" "wetSoFar" "I") ∈ WALL := wl1 151 (by decide +kernel) rfl
theorem wd_200 : (Jvm.Cond.superclass "StormBasin" "java/lang/Object") ∈ WALL := wl1 153 (by decide +kernel) rfl
theorem wd_201 : (Jvm.Cond.methodLink "StormBasinLaw" (142 : Nat) ({ cls := "StormBasin", name := "basinCount", desc := "()I" } : Jvm.MethodName)) ∈ WALL := wl1 154 (by decide +kernel) rfl
theorem wd_202 : (Jvm.Cond.instanceMethod ({ cls := "StormBasin", name := "basinCount", desc := "()I" } : Jvm.MethodName)) ∈ WALL := wl1 155 (by decide +kernel) rfl
theorem wd_203 : (Jvm.Cond.selects "StormBasin" ({ cls := "StormBasin", name := "basinCount", desc := "()I" } : Jvm.MethodName) ({ cls := "StormBasin", name := "basinCount", desc := "()I" } : Jvm.MethodName)) ∈ WALL := wl1 156 (by decide +kernel) rfl
theorem wd_204 : (Jvm.Cond.code ({ cls := "StormBasin", name := "basinCount", desc := "()I" } : Jvm.MethodName) prog_1_method_4_code (1 : Nat) (Option.some Jvm.ClassFile.FieldType.int)) ∈ WALL := wl1 157 (by decide +kernel) rfl
theorem wd_205 : (Jvm.Cond.methodLink "StormBasin" (39 : Nat) ({ cls := "java/util/ArrayList", name := "size", desc := "()I" } : Jvm.MethodName)) ∈ WALL := wl1 158 (by decide +kernel) rfl
theorem wd_206 : (Jvm.Cond.instanceMethod ({ cls := "java/util/ArrayList", name := "size", desc := "()I" } : Jvm.MethodName)) ∈ WALL := wl1 159 (by decide +kernel) rfl
theorem wd_207 : (Jvm.Cond.selects "java/util/ArrayList" ({ cls := "java/util/ArrayList", name := "size", desc := "()I" } : Jvm.MethodName) ({ cls := "java/util/ArrayList", name := "size", desc := "()I" } : Jvm.MethodName)) ∈ WALL := wl1 160 (by decide +kernel) rfl
theorem wd_208 : (Jvm.Cond.code ({ cls := "java/util/ArrayList", name := "size", desc := "()I" } : Jvm.MethodName) prog_38_method_8_code (1 : Nat) (Option.some Jvm.ClassFile.FieldType.int)) ∈ WALL := wl1 161 (by decide +kernel) rfl
theorem wd_209 : (Jvm.Cond.methodLink "StormBasinLaw" (163 : Nat) ({ cls := "StormBasin", name := "ruleCount", desc := "()I" } : Jvm.MethodName)) ∈ WALL := wl1 162 (by decide +kernel) rfl
theorem wd_210 : (Jvm.Cond.instanceMethod ({ cls := "StormBasin", name := "ruleCount", desc := "()I" } : Jvm.MethodName)) ∈ WALL := wl1 163 (by decide +kernel) rfl
theorem wd_211 : (Jvm.Cond.selects "StormBasin" ({ cls := "StormBasin", name := "ruleCount", desc := "()I" } : Jvm.MethodName) ({ cls := "StormBasin", name := "ruleCount", desc := "()I" } : Jvm.MethodName)) ∈ WALL := wl1 164 (by decide +kernel) rfl
theorem wd_212 : (Jvm.Cond.code ({ cls := "StormBasin", name := "ruleCount", desc := "()I" } : Jvm.MethodName) prog_1_method_10_code (1 : Nat) (Option.some Jvm.ClassFile.FieldType.int)) ∈ WALL := wl1 165 (by decide +kernel) rfl
theorem wd_213 : (Jvm.Cond.methodLink "StormBasinLaw" (179 : Nat) ({ cls := "StormBasin", name := "clock", desc := "()I" } : Jvm.MethodName)) ∈ WALL := wl1 166 (by decide +kernel) rfl
theorem wd_214 : (Jvm.Cond.instanceMethod ({ cls := "StormBasin", name := "clock", desc := "()I" } : Jvm.MethodName)) ∈ WALL := wl1 167 (by decide +kernel) rfl
theorem wd_215 : (Jvm.Cond.selects "StormBasin" ({ cls := "StormBasin", name := "clock", desc := "()I" } : Jvm.MethodName) ({ cls := "StormBasin", name := "clock", desc := "()I" } : Jvm.MethodName)) ∈ WALL := wl1 168 (by decide +kernel) rfl
theorem wd_216 : (Jvm.Cond.code ({ cls := "StormBasin", name := "clock", desc := "()I" } : Jvm.MethodName) prog_1_method_15_code (1 : Nat) (Option.some Jvm.ClassFile.FieldType.int)) ∈ WALL := wl1 169 (by decide +kernel) rfl
theorem wd_217 : (Jvm.Cond.methodLink "StormBasinLaw" (192 : Nat) ({ cls := "StormBasin", name := "rainTotal", desc := "()I" } : Jvm.MethodName)) ∈ WALL := wl1 170 (by decide +kernel) rfl
theorem wd_218 : (Jvm.Cond.instanceMethod ({ cls := "StormBasin", name := "rainTotal", desc := "()I" } : Jvm.MethodName)) ∈ WALL := wl1 171 (by decide +kernel) rfl
theorem wd_219 : (Jvm.Cond.selects "StormBasin" ({ cls := "StormBasin", name := "rainTotal", desc := "()I" } : Jvm.MethodName) ({ cls := "StormBasin", name := "rainTotal", desc := "()I" } : Jvm.MethodName)) ∈ WALL := wl1 172 (by decide +kernel) rfl
theorem wd_220 : (Jvm.Cond.code ({ cls := "StormBasin", name := "rainTotal", desc := "()I" } : Jvm.MethodName) prog_1_method_19_code (1 : Nat) (Option.some Jvm.ClassFile.FieldType.int)) ∈ WALL := wl1 173 (by decide +kernel) rfl
theorem wd_221 : (Jvm.Cond.methodLink "StormBasinLaw" (196 : Nat) ({ cls := "StormBasin", name := "riverTotal", desc := "()I" } : Jvm.MethodName)) ∈ WALL := wl1 174 (by decide +kernel) rfl
theorem wd_222 : (Jvm.Cond.instanceMethod ({ cls := "StormBasin", name := "riverTotal", desc := "()I" } : Jvm.MethodName)) ∈ WALL := wl1 175 (by decide +kernel) rfl
theorem wd_223 : (Jvm.Cond.selects "StormBasin" ({ cls := "StormBasin", name := "riverTotal", desc := "()I" } : Jvm.MethodName) ({ cls := "StormBasin", name := "riverTotal", desc := "()I" } : Jvm.MethodName)) ∈ WALL := wl1 176 (by decide +kernel) rfl
theorem wd_224 : (Jvm.Cond.code ({ cls := "StormBasin", name := "riverTotal", desc := "()I" } : Jvm.MethodName) prog_1_method_20_code (1 : Nat) (Option.some Jvm.ClassFile.FieldType.int)) ∈ WALL := wl1 177 (by decide +kernel) rfl
theorem wd_225 : (Jvm.Cond.methodLink "StormBasinLaw" (200 : Nat) ({ cls := "StormBasin", name := "heldTotal", desc := "()I" } : Jvm.MethodName)) ∈ WALL := wl1 178 (by decide +kernel) rfl
theorem wd_226 : (Jvm.Cond.instanceMethod ({ cls := "StormBasin", name := "heldTotal", desc := "()I" } : Jvm.MethodName)) ∈ WALL := wl1 179 (by decide +kernel) rfl
theorem wd_227 : (Jvm.Cond.selects "StormBasin" ({ cls := "StormBasin", name := "heldTotal", desc := "()I" } : Jvm.MethodName) ({ cls := "StormBasin", name := "heldTotal", desc := "()I" } : Jvm.MethodName)) ∈ WALL := wl1 180 (by decide +kernel) rfl
theorem wd_228 : (Jvm.Cond.code ({ cls := "StormBasin", name := "heldTotal", desc := "()I" } : Jvm.MethodName) prog_1_method_21_code (1 : Nat) (Option.some Jvm.ClassFile.FieldType.int)) ∈ WALL := wl1 181 (by decide +kernel) rfl
theorem wd_229 : (Jvm.Cond.methodLink "StormBasin" (175 : Nat) ({ cls := "StormBasin$Water", name := "held", desc := "()I" } : Jvm.MethodName)) ∈ WALL := wl1 182 (by decide +kernel) rfl
theorem wd_230 : (Jvm.Cond.instanceMethod ({ cls := "StormBasin$Water", name := "held", desc := "()I" } : Jvm.MethodName)) ∈ WALL := wl1 183 (by decide +kernel) rfl
theorem wd_231 : (Jvm.Cond.selects "StormBasin$Water" ({ cls := "StormBasin$Water", name := "held", desc := "()I" } : Jvm.MethodName) ({ cls := "StormBasin$Water", name := "held", desc := "()I" } : Jvm.MethodName)) ∈ WALL := wl1 184 (by decide +kernel) rfl
theorem wd_232 : (Jvm.Cond.code ({ cls := "StormBasin$Water", name := "held", desc := "()I" } : Jvm.MethodName) prog_6_method_3_code (3 : Nat) (Option.some Jvm.ClassFile.FieldType.int)) ∈ WALL := wl1 185 (by decide +kernel) rfl
theorem wd_233 : (Jvm.Cond.methodLink "StormBasinLaw" (204 : Nat) ({ cls := "StormBasin", name := "isBalanced", desc := "()Z" } : Jvm.MethodName)) ∈ WALL := wl1 186 (by decide +kernel) rfl
theorem wd_234 : (Jvm.Cond.instanceMethod ({ cls := "StormBasin", name := "isBalanced", desc := "()Z" } : Jvm.MethodName)) ∈ WALL := wl1 187 (by decide +kernel) rfl
theorem wd_235 : (Jvm.Cond.selects "StormBasin" ({ cls := "StormBasin", name := "isBalanced", desc := "()Z" } : Jvm.MethodName) ({ cls := "StormBasin", name := "isBalanced", desc := "()Z" } : Jvm.MethodName)) ∈ WALL := wl1 188 (by decide +kernel) rfl
theorem wd_236 : (Jvm.Cond.code ({ cls := "StormBasin", name := "isBalanced", desc := "()Z" } : Jvm.MethodName) prog_1_method_22_code (1 : Nat) (Option.some Jvm.ClassFile.FieldType.boolean)) ∈ WALL := wl1 189 (by decide +kernel) rfl
theorem wd_237 : (Jvm.Cond.methodLink "StormBasinLaw" (225 : Nat) ({ cls := "StormBasin", name := "floodedSoFar", desc := "()I" } : Jvm.MethodName)) ∈ WALL := wl1 190 (by decide +kernel) rfl
theorem wd_238 : (Jvm.Cond.instanceMethod ({ cls := "StormBasin", name := "floodedSoFar", desc := "()I" } : Jvm.MethodName)) ∈ WALL := wl1 191 (by decide +kernel) rfl
theorem wd_239 : (Jvm.Cond.selects "StormBasin" ({ cls := "StormBasin", name := "floodedSoFar", desc := "()I" } : Jvm.MethodName) ({ cls := "StormBasin", name := "floodedSoFar", desc := "()I" } : Jvm.MethodName)) ∈ WALL := wl1 192 (by decide +kernel) rfl
theorem wd_240 : (Jvm.Cond.code ({ cls := "StormBasin", name := "floodedSoFar", desc := "()I" } : Jvm.MethodName) prog_1_method_28_code (1 : Nat) (Option.some Jvm.ClassFile.FieldType.int)) ∈ WALL := wl1 193 (by decide +kernel) rfl
theorem wd_241 : (Jvm.Cond.methodLink "StormBasinLaw" (233 : Nat) ({ cls := "StormBasin", name := "houseCount", desc := "()I" } : Jvm.MethodName)) ∈ WALL := wl1 194 (by decide +kernel) rfl
theorem wd_242 : (Jvm.Cond.instanceMethod ({ cls := "StormBasin", name := "houseCount", desc := "()I" } : Jvm.MethodName)) ∈ WALL := wl1 195 (by decide +kernel) rfl
theorem wd_243 : (Jvm.Cond.selects "StormBasin" ({ cls := "StormBasin", name := "houseCount", desc := "()I" } : Jvm.MethodName) ({ cls := "StormBasin", name := "houseCount", desc := "()I" } : Jvm.MethodName)) ∈ WALL := wl1 196 (by decide +kernel) rfl
theorem wd_244 : (Jvm.Cond.code ({ cls := "StormBasin", name := "houseCount", desc := "()I" } : Jvm.MethodName) prog_1_method_30_code (1 : Nat) (Option.some Jvm.ClassFile.FieldType.int)) ∈ WALL := wl1 197 (by decide +kernel) rfl
theorem wd_245 : (Jvm.Cond.methodLink "StormBasinLaw" (255 : Nat) ({ cls := "StormBasin", name := "paidTotal", desc := "()J" } : Jvm.MethodName)) ∈ WALL := wl1 198 (by decide +kernel) rfl
theorem wd_246 : (Jvm.Cond.instanceMethod ({ cls := "StormBasin", name := "paidTotal", desc := "()J" } : Jvm.MethodName)) ∈ WALL := wl1 199 (by decide +kernel) rfl
theorem wd_247 : (Jvm.Cond.selects "StormBasin" ({ cls := "StormBasin", name := "paidTotal", desc := "()J" } : Jvm.MethodName) ({ cls := "StormBasin", name := "paidTotal", desc := "()J" } : Jvm.MethodName)) ∈ WALL := wl1 200 (by decide +kernel) rfl
theorem wd_248 : (Jvm.Cond.code ({ cls := "StormBasin", name := "paidTotal", desc := "()J" } : Jvm.MethodName) prog_1_method_37_code (4 : Nat) (Option.some Jvm.ClassFile.FieldType.long)) ∈ WALL := wl1 201 (by decide +kernel) rfl
theorem wd_249 : (Jvm.Cond.methodLink "StormBasin" (127 : Nat) ({ cls := "java/util/ArrayList", name := "get", desc := "(I)Ljava/lang/Object;" } : Jvm.MethodName)) ∈ WALL := wl1 202 (by decide +kernel) rfl
theorem wd_250 : (Jvm.Cond.instanceMethod ({ cls := "java/util/ArrayList", name := "get", desc := "(I)Ljava/lang/Object;" } : Jvm.MethodName)) ∈ WALL := wl1 203 (by decide +kernel) rfl
theorem wd_251 : (Jvm.Cond.selects "java/util/ArrayList" ({ cls := "java/util/ArrayList", name := "get", desc := "(I)Ljava/lang/Object;" } : Jvm.MethodName) ({ cls := "java/util/ArrayList", name := "get", desc := "(I)Ljava/lang/Object;" } : Jvm.MethodName)) ∈ WALL := wl1 204 (by decide +kernel) rfl
theorem wd_252 : (Jvm.Cond.code ({ cls := "java/util/ArrayList", name := "get", desc := "(I)Ljava/lang/Object;" } : Jvm.MethodName) prog_38_method_20_code (2 : Nat) (Option.some (Jvm.ClassFile.FieldType.object "java/lang/Object"))) ∈ WALL := wl1 205 (by decide +kernel) rfl
theorem wd_253 : (Jvm.Cond.methodLink "java/util/ArrayList" (118 : Nat) ({ cls := "java/util/Objects", name := "checkIndex", desc := "(II)I" } : Jvm.MethodName)) ∈ WALL := wl1 206 (by decide +kernel) rfl
theorem wd_254 : (Jvm.Cond.static ({ cls := "java/util/Objects", name := "checkIndex", desc := "(II)I" } : Jvm.MethodName)) ∈ WALL := wl1 207 (by decide +kernel) rfl
theorem wd_255 : (Jvm.Cond.code ({ cls := "java/util/Objects", name := "checkIndex", desc := "(II)I" } : Jvm.MethodName) prog_43_method_17_code (2 : Nat) (Option.some Jvm.ClassFile.FieldType.int)) ∈ WALL := wl1 208 (by decide +kernel) rfl
theorem wd_256 : (Jvm.Cond.methodLink "java/util/Objects" (105 : Nat) ({ cls := "jdk/internal/util/Preconditions", name := "checkIndex", desc := "(IILjava/util/function/BiFunction;)I" } : Jvm.MethodName)) ∈ WALL := wl1 209 (by decide +kernel) rfl
theorem wd_257 : (Jvm.Cond.static ({ cls := "jdk/internal/util/Preconditions", name := "checkIndex", desc := "(IILjava/util/function/BiFunction;)I" } : Jvm.MethodName)) ∈ WALL := wl1 210 (by decide +kernel) rfl
theorem wd_258 : (Jvm.Cond.code ({ cls := "jdk/internal/util/Preconditions", name := "checkIndex", desc := "(IILjava/util/function/BiFunction;)I" } : Jvm.MethodName) prog_47_method_11_code (3 : Nat) (Option.some Jvm.ClassFile.FieldType.int)) ∈ WALL := wl1 211 (by decide +kernel) rfl
theorem wd_259 : (Jvm.Cond.methodLink "java/util/ArrayList" (123 : Nat) ({ cls := "java/util/ArrayList", name := "elementData", desc := "(I)Ljava/lang/Object;" } : Jvm.MethodName)) ∈ WALL := wl1 212 (by decide +kernel) rfl
theorem wd_260 : (Jvm.Cond.instanceMethod ({ cls := "java/util/ArrayList", name := "elementData", desc := "(I)Ljava/lang/Object;" } : Jvm.MethodName)) ∈ WALL := wl1 213 (by decide +kernel) rfl
theorem wd_261 : (Jvm.Cond.selects "java/util/ArrayList" ({ cls := "java/util/ArrayList", name := "elementData", desc := "(I)Ljava/lang/Object;" } : Jvm.MethodName) ({ cls := "java/util/ArrayList", name := "elementData", desc := "(I)Ljava/lang/Object;" } : Jvm.MethodName)) ∈ WALL := wl1 214 (by decide +kernel) rfl
theorem wd_262 : (Jvm.Cond.code ({ cls := "java/util/ArrayList", name := "elementData", desc := "(I)Ljava/lang/Object;" } : Jvm.MethodName) prog_38_method_18_code (2 : Nat) (Option.some (Jvm.ClassFile.FieldType.object "java/lang/Object"))) ∈ WALL := wl1 215 (by decide +kernel) rfl
theorem wd_263 : (Jvm.Cond.classLink "StormBasin" (210 : Nat) "StormBasin$House") ∈ WALL := wl1 216 (by decide +kernel) rfl
theorem wd_264 : (Jvm.Cond.methodLink "StormBasinLaw" (264 : Nat) ({ cls := "StormBasin", name := "floodedWith", desc := "()I" } : Jvm.MethodName)) ∈ WALL := wl1 217 (by decide +kernel) rfl
theorem wd_265 : (Jvm.Cond.instanceMethod ({ cls := "StormBasin", name := "floodedWith", desc := "()I" } : Jvm.MethodName)) ∈ WALL := wl1 218 (by decide +kernel) rfl
theorem wd_266 : (Jvm.Cond.selects "StormBasin" ({ cls := "StormBasin", name := "floodedWith", desc := "()I" } : Jvm.MethodName) ({ cls := "StormBasin", name := "floodedWith", desc := "()I" } : Jvm.MethodName)) ∈ WALL := wl1 219 (by decide +kernel) rfl
theorem wd_267 : (Jvm.Cond.code ({ cls := "StormBasin", name := "floodedWith", desc := "()I" } : Jvm.MethodName) prog_1_method_39_code (1 : Nat) (Option.some Jvm.ClassFile.FieldType.int)) ∈ WALL := wl1 220 (by decide +kernel) rfl
theorem wd_268 : (Jvm.Cond.methodLink "StormBasin" (263 : Nat) ({ cls := "StormBasin", name := "tryPastRain", desc := "(II)I" } : Jvm.MethodName)) ∈ WALL := wl1 221 (by decide +kernel) rfl
theorem wd_270 : (Jvm.Cond.instanceMethod ({ cls := "StormBasin", name := "tryPastRain", desc := "(II)I" } : Jvm.MethodName)) ∈ WALL := wl1 223 (by decide +kernel) rfl
theorem wd_271 : (Jvm.Cond.code ({ cls := "StormBasin", name := "tryPastRain", desc := "(II)I" } : Jvm.MethodName) prog_1_method_55_code (5 : Nat) (Option.some Jvm.ClassFile.FieldType.int)) ∈ WALL := wl1 224 (by decide +kernel) rfl
theorem wd_272 : (Jvm.Cond.methodLink "StormBasin" (327 : Nat) ({ cls := "StormBasin$Water", name := "clear", desc := "()V" } : Jvm.MethodName)) ∈ WALL := wl1 225 (by decide +kernel) rfl
theorem wd_273 : (Jvm.Cond.instanceMethod ({ cls := "StormBasin$Water", name := "clear", desc := "()V" } : Jvm.MethodName)) ∈ WALL := wl1 226 (by decide +kernel) rfl
theorem wd_274 : (Jvm.Cond.selects "StormBasin$Water" ({ cls := "StormBasin$Water", name := "clear", desc := "()V" } : Jvm.MethodName) ({ cls := "StormBasin$Water", name := "clear", desc := "()V" } : Jvm.MethodName)) ∈ WALL := wl1 227 (by decide +kernel) rfl
theorem wd_275 : (Jvm.Cond.code ({ cls := "StormBasin$Water", name := "clear", desc := "()V" } : Jvm.MethodName) prog_6_method_2_code (1 : Nat) (Option.none : Option Jvm.ClassFile.FieldType)) ∈ WALL := wl1 228 (by decide +kernel) rfl
theorem wd_276 : (Jvm.Cond.methodLink "StormBasin$Water" (21 : Nat) ({ cls := "java/util/Arrays", name := "fill", desc := "([II)V" } : Jvm.MethodName)) ∈ WALL := wl1 229 (by decide +kernel) rfl
theorem wd_277 : (Jvm.Cond.static ({ cls := "java/util/Arrays", name := "fill", desc := "([II)V" } : Jvm.MethodName)) ∈ WALL := wl1 230 (by decide +kernel) rfl
theorem wd_278 : (Jvm.Cond.code ({ cls := "java/util/Arrays", name := "fill", desc := "([II)V" } : Jvm.MethodName) prog_39_method_103_code (4 : Nat) (Option.none : Option Jvm.ClassFile.FieldType)) ∈ WALL := wl1 231 (by decide +kernel) rfl
theorem wd_279 : (Jvm.Cond.methodLink "StormBasin" (319 : Nat) ({ cls := "StormBasin", name := "moveWater", desc := "(LStormBasin$Water;III)V" } : Jvm.MethodName)) ∈ WALL := wl1 232 (by decide +kernel) rfl
theorem wd_281 : (Jvm.Cond.instanceMethod ({ cls := "StormBasin", name := "moveWater", desc := "(LStormBasin$Water;III)V" } : Jvm.MethodName)) ∈ WALL := wl1 234 (by decide +kernel) rfl
theorem wd_282 : (Jvm.Cond.code ({ cls := "StormBasin", name := "moveWater", desc := "(LStormBasin$Water;III)V" } : Jvm.MethodName) prog_1_method_56_code (7 : Nat) (Option.none : Option Jvm.ClassFile.FieldType)) ∈ WALL := wl1 235 (by decide +kernel) rfl
theorem wd_283 : (Jvm.Cond.classLink "StormBasin" (71 : Nat) "StormBasin$Basin") ∈ WALL := wl1 236 (by decide +kernel) rfl
theorem wd_284 : (Jvm.Cond.methodLink "StormBasin" (134 : Nat) ({ cls := "StormBasin", name := "openingBy", desc := "(LStormBasin$Water;I)I" } : Jvm.MethodName)) ∈ WALL := wl1 237 (by decide +kernel) rfl
theorem wd_286 : (Jvm.Cond.instanceMethod ({ cls := "StormBasin", name := "openingBy", desc := "(LStormBasin$Water;I)I" } : Jvm.MethodName)) ∈ WALL := wl1 239 (by decide +kernel) rfl
theorem wd_287 : (Jvm.Cond.code ({ cls := "StormBasin", name := "openingBy", desc := "(LStormBasin$Water;I)I" } : Jvm.MethodName) prog_1_method_57_code (5 : Nat) (Option.some Jvm.ClassFile.FieldType.int)) ∈ WALL := wl2 0 (by decide +kernel) rfl
theorem wd_288 : (Jvm.Cond.classLink "StormBasin" (115 : Nat) "StormBasin$Rule") ∈ WALL := wl2 1 (by decide +kernel) rfl
theorem wd_289 : (Jvm.Cond.methodLink "StormBasin" (130 : Nat) ({ cls := "StormBasin", name := "holdsBy", desc := "(LStormBasin$Water;LStormBasin$Rule;)Z" } : Jvm.MethodName)) ∈ WALL := wl2 2 (by decide +kernel) rfl
theorem wd_291 : (Jvm.Cond.instanceMethod ({ cls := "StormBasin", name := "holdsBy", desc := "(LStormBasin$Water;LStormBasin$Rule;)Z" } : Jvm.MethodName)) ∈ WALL := wl2 4 (by decide +kernel) rfl
theorem wd_292 : (Jvm.Cond.code ({ cls := "StormBasin", name := "holdsBy", desc := "(LStormBasin$Water;LStormBasin$Rule;)Z" } : Jvm.MethodName) prog_1_method_58_code (3 : Nat) (Option.some Jvm.ClassFile.FieldType.boolean)) ∈ WALL := wl2 5 (by decide +kernel) rfl
theorem wd_293 : (Jvm.Cond.methodLink "StormBasin" (163 : Nat) ({ cls := "StormBasin", name := "levelBy", desc := "(LStormBasin$Water;I)I" } : Jvm.MethodName)) ∈ WALL := wl2 6 (by decide +kernel) rfl
theorem wd_295 : (Jvm.Cond.instanceMethod ({ cls := "StormBasin", name := "levelBy", desc := "(LStormBasin$Water;I)I" } : Jvm.MethodName)) ∈ WALL := wl2 8 (by decide +kernel) rfl
theorem wd_296 : (Jvm.Cond.code ({ cls := "StormBasin", name := "levelBy", desc := "(LStormBasin$Water;I)I" } : Jvm.MethodName) prog_1_method_59_code (3 : Nat) (Option.some Jvm.ClassFile.FieldType.int)) ∈ WALL := wl2 9 (by decide +kernel) rfl
theorem wd_297 : (Jvm.Cond.methodLink "StormBasin" (336 : Nat) ({ cls := "java/lang/Math", name := "min", desc := "(II)I" } : Jvm.MethodName)) ∈ WALL := wl2 10 (by decide +kernel) rfl
theorem wd_298 : (Jvm.Cond.static ({ cls := "java/lang/Math", name := "min", desc := "(II)I" } : Jvm.MethodName)) ∈ WALL := wl2 11 (by decide +kernel) rfl
theorem wd_299 : (Jvm.Cond.code ({ cls := "java/lang/Math", name := "min", desc := "(II)I" } : Jvm.MethodName) prog_23_method_69_code (2 : Nat) (Option.some Jvm.ClassFile.FieldType.int)) ∈ WALL := wl2 12 (by decide +kernel) rfl
theorem wd_300 : (Jvm.Cond.methodLink "StormBasin" (344 : Nat) ({ cls := "StormBasin$Water", name := "runThroughGate", desc := "(II)V" } : Jvm.MethodName)) ∈ WALL := wl2 13 (by decide +kernel) rfl
theorem wd_301 : (Jvm.Cond.instanceMethod ({ cls := "StormBasin$Water", name := "runThroughGate", desc := "(II)V" } : Jvm.MethodName)) ∈ WALL := wl2 14 (by decide +kernel) rfl
theorem wd_302 : (Jvm.Cond.selects "StormBasin$Water" ({ cls := "StormBasin$Water", name := "runThroughGate", desc := "(II)V" } : Jvm.MethodName) ({ cls := "StormBasin$Water", name := "runThroughGate", desc := "(II)V" } : Jvm.MethodName)) ∈ WALL := wl2 15 (by decide +kernel) rfl
theorem wd_303 : (Jvm.Cond.code ({ cls := "StormBasin$Water", name := "runThroughGate", desc := "(II)V" } : Jvm.MethodName) prog_6_method_4_code (3 : Nat) (Option.none : Option Jvm.ClassFile.FieldType)) ∈ WALL := wl2 16 (by decide +kernel) rfl
theorem wd_304 : (Jvm.Cond.methodLink "StormBasin" (99 : Nat) ({ cls := "StormBasin$Basin", name := "capacity", desc := "()I" } : Jvm.MethodName)) ∈ WALL := wl2 17 (by decide +kernel) rfl
theorem wd_305 : (Jvm.Cond.instanceMethod ({ cls := "StormBasin$Basin", name := "capacity", desc := "()I" } : Jvm.MethodName)) ∈ WALL := wl2 18 (by decide +kernel) rfl
theorem wd_306 : (Jvm.Cond.selects "StormBasin$Basin" ({ cls := "StormBasin$Basin", name := "capacity", desc := "()I" } : Jvm.MethodName) ({ cls := "StormBasin$Basin", name := "capacity", desc := "()I" } : Jvm.MethodName)) ∈ WALL := wl2 19 (by decide +kernel) rfl
theorem wd_307 : (Jvm.Cond.code ({ cls := "StormBasin$Basin", name := "capacity", desc := "()I" } : Jvm.MethodName) prog_2_method_2_code (1 : Nat) (Option.some Jvm.ClassFile.FieldType.int)) ∈ WALL := wl2 20 (by decide +kernel) rfl
theorem wd_308 : (Jvm.Cond.methodLink "StormBasin" (348 : Nat) ({ cls := "StormBasin$Water", name := "settle", desc := "(II)V" } : Jvm.MethodName)) ∈ WALL := wl2 21 (by decide +kernel) rfl
theorem wd_309 : (Jvm.Cond.instanceMethod ({ cls := "StormBasin$Water", name := "settle", desc := "(II)V" } : Jvm.MethodName)) ∈ WALL := wl2 22 (by decide +kernel) rfl
theorem wd_310 : (Jvm.Cond.selects "StormBasin$Water" ({ cls := "StormBasin$Water", name := "settle", desc := "(II)V" } : Jvm.MethodName) ({ cls := "StormBasin$Water", name := "settle", desc := "(II)V" } : Jvm.MethodName)) ∈ WALL := wl2 23 (by decide +kernel) rfl
theorem wd_311 : (Jvm.Cond.code ({ cls := "StormBasin$Water", name := "settle", desc := "(II)V" } : Jvm.MethodName) prog_6_method_5_code (5 : Nat) (Option.none : Option Jvm.ClassFile.FieldType)) ∈ WALL := wl2 24 (by decide +kernel) rfl
theorem wd_312 : (Jvm.Cond.methodLink "StormBasin$Water" (31 : Nat) ({ cls := "java/lang/Math", name := "min", desc := "(II)I" } : Jvm.MethodName)) ∈ WALL := wl2 25 (by decide +kernel) rfl
theorem wd_313 : (Jvm.Cond.methodLink "StormBasin" (323 : Nat) ({ cls := "StormBasin", name := "wetCellsBy", desc := "(LStormBasin$Water;)I" } : Jvm.MethodName)) ∈ WALL := wl2 26 (by decide +kernel) rfl
theorem wd_315 : (Jvm.Cond.instanceMethod ({ cls := "StormBasin", name := "wetCellsBy", desc := "(LStormBasin$Water;)I" } : Jvm.MethodName)) ∈ WALL := wl2 28 (by decide +kernel) rfl
theorem wd_316 : (Jvm.Cond.code ({ cls := "StormBasin", name := "wetCellsBy", desc := "(LStormBasin$Water;)I" } : Jvm.MethodName) prog_1_method_60_code (4 : Nat) (Option.some Jvm.ClassFile.FieldType.int)) ∈ WALL := wl2 29 (by decide +kernel) rfl
theorem wd_317 : (Jvm.Cond.methodLink "StormBasin" (195 : Nat) ({ cls := "StormBasin$Street", name := "countWet", desc := "(I)I" } : Jvm.MethodName)) ∈ WALL := wl2 30 (by decide +kernel) rfl
theorem wd_318 : (Jvm.Cond.instanceMethod ({ cls := "StormBasin$Street", name := "countWet", desc := "(I)I" } : Jvm.MethodName)) ∈ WALL := wl2 31 (by decide +kernel) rfl
theorem wd_319 : (Jvm.Cond.selects "StormBasin$Street" ({ cls := "StormBasin$Street", name := "countWet", desc := "(I)I" } : Jvm.MethodName) ({ cls := "StormBasin$Street", name := "countWet", desc := "(I)I" } : Jvm.MethodName)) ∈ WALL := wl2 32 (by decide +kernel) rfl
theorem wd_320 : (Jvm.Cond.code ({ cls := "StormBasin$Street", name := "countWet", desc := "(I)I" } : Jvm.MethodName) prog_5_method_5_code (4 : Nat) (Option.some Jvm.ClassFile.FieldType.int)) ∈ WALL := wl2 33 (by decide +kernel) rfl
theorem wd_321 : (Jvm.Cond.methodLink "StormBasin$Street" (41 : Nat) ({ cls := "StormBasin$Street", name := "isWet", desc := "(II)Z" } : Jvm.MethodName)) ∈ WALL := wl2 34 (by decide +kernel) rfl
theorem wd_322 : (Jvm.Cond.instanceMethod ({ cls := "StormBasin$Street", name := "isWet", desc := "(II)Z" } : Jvm.MethodName)) ∈ WALL := wl2 35 (by decide +kernel) rfl
theorem wd_323 : (Jvm.Cond.selects "StormBasin$Street" ({ cls := "StormBasin$Street", name := "isWet", desc := "(II)Z" } : Jvm.MethodName) ({ cls := "StormBasin$Street", name := "isWet", desc := "(II)Z" } : Jvm.MethodName)) ∈ WALL := wl2 36 (by decide +kernel) rfl
theorem wd_324 : (Jvm.Cond.code ({ cls := "StormBasin$Street", name := "isWet", desc := "(II)Z" } : Jvm.MethodName) prog_5_method_4_code (3 : Nat) (Option.some Jvm.ClassFile.FieldType.boolean)) ∈ WALL := wl2 37 (by decide +kernel) rfl
theorem wd_325 : (Jvm.Cond.methodLink "StormBasinLaw" (128 : Nat) ({ cls := "StormBasinLaw", name := "addBasin", desc := "(LStormBasin;IIIII[J)I" } : Jvm.MethodName)) ∈ WALL := wl2 38 (by decide +kernel) rfl
theorem wd_326 : (Jvm.Cond.static ({ cls := "StormBasinLaw", name := "addBasin", desc := "(LStormBasin;IIIII[J)I" } : Jvm.MethodName)) ∈ WALL := wl2 39 (by decide +kernel) rfl
theorem wd_327 : (Jvm.Cond.codeWith ({ cls := "StormBasinLaw", name := "addBasin", desc := "(LStormBasin;IIIII[J)I" } : Jvm.MethodName) method_3_code (8 : Nat) (Option.some Jvm.ClassFile.FieldType.int) [((0 : Nat), (16 : Nat), (19 : Nat), (13 : Nat)), ((0 : Nat), (16 : Nat), (23 : Nat), (15 : Nat)), ((0 : Nat), (16 : Nat), (27 : Nat), (17 : Nat))]) ∈ WALL := wl2 40 (by decide +kernel) rfl
theorem wd_328 : (Jvm.Cond.classLink "StormBasinLaw" (13 : Nat) "java/lang/IndexOutOfBoundsException") ∈ WALL := wl2 41 (by decide +kernel) rfl
theorem wd_329 : (Jvm.Cond.instantiable "java/lang/ArrayIndexOutOfBoundsException" (6 : Nat)) ∈ WALL := wl2 42 (by decide +kernel) rfl
theorem wd_330 : (Jvm.Cond.instanceMethod ({ cls := "java/lang/ArrayIndexOutOfBoundsException", name := "<init>", desc := "(Ljava/lang/String;)V" } : Jvm.MethodName)) ∈ WALL := wl2 43 (by decide +kernel) rfl
theorem wd_331 : (Jvm.Cond.code ({ cls := "java/lang/ArrayIndexOutOfBoundsException", name := "<init>", desc := "(Ljava/lang/String;)V" } : Jvm.MethodName) prog_13_method_2_code (2 : Nat) (Option.none : Option Jvm.ClassFile.FieldType)) ∈ WALL := wl2 44 (by decide +kernel) rfl
theorem wd_332 : (Jvm.Cond.methodLink "java/lang/ArrayIndexOutOfBoundsException" (7 : Nat) ({ cls := "java/lang/IndexOutOfBoundsException", name := "<init>", desc := "(Ljava/lang/String;)V" } : Jvm.MethodName)) ∈ WALL := wl2 45 (by decide +kernel) rfl
theorem wd_333 : (Jvm.Cond.instanceMethod ({ cls := "java/lang/IndexOutOfBoundsException", name := "<init>", desc := "(Ljava/lang/String;)V" } : Jvm.MethodName)) ∈ WALL := wl2 46 (by decide +kernel) rfl
theorem wd_334 : (Jvm.Cond.code ({ cls := "java/lang/IndexOutOfBoundsException", name := "<init>", desc := "(Ljava/lang/String;)V" } : Jvm.MethodName) prog_20_method_2_code (2 : Nat) (Option.none : Option Jvm.ClassFile.FieldType)) ∈ WALL := wl2 47 (by decide +kernel) rfl
theorem wd_335 : (Jvm.Cond.methodLink "java/lang/IndexOutOfBoundsException" (7 : Nat) ({ cls := "java/lang/RuntimeException", name := "<init>", desc := "(Ljava/lang/String;)V" } : Jvm.MethodName)) ∈ WALL := wl2 48 (by decide +kernel) rfl
theorem wd_336 : (Jvm.Cond.instanceMethod ({ cls := "java/lang/RuntimeException", name := "<init>", desc := "(Ljava/lang/String;)V" } : Jvm.MethodName)) ∈ WALL := wl2 49 (by decide +kernel) rfl
theorem wd_337 : (Jvm.Cond.code ({ cls := "java/lang/RuntimeException", name := "<init>", desc := "(Ljava/lang/String;)V" } : Jvm.MethodName) prog_25_method_2_code (2 : Nat) (Option.none : Option Jvm.ClassFile.FieldType)) ∈ WALL := wl2 50 (by decide +kernel) rfl
theorem wd_338 : (Jvm.Cond.methodLink "java/lang/RuntimeException" (7 : Nat) ({ cls := "java/lang/Exception", name := "<init>", desc := "(Ljava/lang/String;)V" } : Jvm.MethodName)) ∈ WALL := wl2 51 (by decide +kernel) rfl
theorem wd_339 : (Jvm.Cond.instanceMethod ({ cls := "java/lang/Exception", name := "<init>", desc := "(Ljava/lang/String;)V" } : Jvm.MethodName)) ∈ WALL := wl2 52 (by decide +kernel) rfl
theorem wd_340 : (Jvm.Cond.code ({ cls := "java/lang/Exception", name := "<init>", desc := "(Ljava/lang/String;)V" } : Jvm.MethodName) prog_17_method_2_code (2 : Nat) (Option.none : Option Jvm.ClassFile.FieldType)) ∈ WALL := wl2 53 (by decide +kernel) rfl
theorem wd_341 : (Jvm.Cond.methodLink "java/lang/Exception" (7 : Nat) ({ cls := "java/lang/Throwable", name := "<init>", desc := "(Ljava/lang/String;)V" } : Jvm.MethodName)) ∈ WALL := wl2 54 (by decide +kernel) rfl
theorem wd_342 : (Jvm.Cond.instanceMethod ({ cls := "java/lang/Throwable", name := "<init>", desc := "(Ljava/lang/String;)V" } : Jvm.MethodName)) ∈ WALL := wl2 55 (by decide +kernel) rfl
theorem wd_343 : (Jvm.Cond.code ({ cls := "java/lang/Throwable", name := "<init>", desc := "(Ljava/lang/String;)V" } : Jvm.MethodName) prog_32_method_2_code (2 : Nat) (Option.none : Option Jvm.ClassFile.FieldType)) ∈ WALL := wl2 56 (by decide +kernel) rfl
theorem wd_344 : (Jvm.Cond.methodLink "java/lang/Throwable" (1 : Nat) ({ cls := "java/lang/Object", name := "<init>", desc := "()V" } : Jvm.MethodName)) ∈ WALL := wl2 57 (by decide +kernel) rfl
theorem wd_345 : (Jvm.Cond.fieldLink "java/lang/Throwable" (13 : Nat) "java/lang/Throwable" "UNASSIGNED_STACK" "[Ljava/lang/StackTraceElement;") ∈ WALL := wl2 58 (by decide +kernel) rfl
theorem wd_347 : (Jvm.Cond.fieldLink "java/lang/Throwable" (20 : Nat) "java/lang/Throwable" "SUPPRESSED_SENTINEL" "Ljava/util/List;") ∈ WALL := wl2 60 (by decide +kernel) rfl
theorem wd_349 : (Jvm.Cond.methodLink "java/lang/Throwable" (27 : Nat) ({ cls := "java/lang/Throwable", name := "fillInStackTrace", desc := "()Ljava/lang/Throwable;" } : Jvm.MethodName)) ∈ WALL := wl2 62 (by decide +kernel) rfl
theorem wd_350 : (Jvm.Cond.instanceMethod ({ cls := "java/lang/Throwable", name := "fillInStackTrace", desc := "()Ljava/lang/Throwable;" } : Jvm.MethodName)) ∈ WALL := wl2 63 (by decide +kernel) rfl
theorem wd_351 : (Jvm.Cond.sameMethod "java/lang/Throwable" "java/lang/Throwable" "fillInStackTrace" "()Ljava/lang/Throwable;") ∈ WALL := wl2 64 (by decide +kernel) rfl
theorem wd_352 : (Jvm.Cond.selects "java/lang/ArithmeticException" ({ cls := "java/lang/Throwable", name := "fillInStackTrace", desc := "()Ljava/lang/Throwable;" } : Jvm.MethodName) ({ cls := "java/lang/Throwable", name := "fillInStackTrace", desc := "()Ljava/lang/Throwable;" } : Jvm.MethodName)) ∈ WALL := wl2 65 (by decide +kernel) rfl
theorem wd_353 : (Jvm.Cond.selects "java/lang/ArrayIndexOutOfBoundsException" ({ cls := "java/lang/Throwable", name := "fillInStackTrace", desc := "()Ljava/lang/Throwable;" } : Jvm.MethodName) ({ cls := "java/lang/Throwable", name := "fillInStackTrace", desc := "()Ljava/lang/Throwable;" } : Jvm.MethodName)) ∈ WALL := wl2 66 (by decide +kernel) rfl
theorem wd_354 : (Jvm.Cond.selects "java/lang/IllegalArgumentException" ({ cls := "java/lang/Throwable", name := "fillInStackTrace", desc := "()Ljava/lang/Throwable;" } : Jvm.MethodName) ({ cls := "java/lang/Throwable", name := "fillInStackTrace", desc := "()Ljava/lang/Throwable;" } : Jvm.MethodName)) ∈ WALL := wl2 67 (by decide +kernel) rfl
theorem wd_355 : (Jvm.Cond.selects "java/lang/IllegalStateException" ({ cls := "java/lang/Throwable", name := "fillInStackTrace", desc := "()Ljava/lang/Throwable;" } : Jvm.MethodName) ({ cls := "java/lang/Throwable", name := "fillInStackTrace", desc := "()Ljava/lang/Throwable;" } : Jvm.MethodName)) ∈ WALL := wl2 68 (by decide +kernel) rfl
theorem wd_356 : (Jvm.Cond.selects "java/lang/IndexOutOfBoundsException" ({ cls := "java/lang/Throwable", name := "fillInStackTrace", desc := "()Ljava/lang/Throwable;" } : Jvm.MethodName) ({ cls := "java/lang/Throwable", name := "fillInStackTrace", desc := "()Ljava/lang/Throwable;" } : Jvm.MethodName)) ∈ WALL := wl2 69 (by decide +kernel) rfl
theorem wd_357 : (Jvm.Cond.selects "java/lang/StringIndexOutOfBoundsException" ({ cls := "java/lang/Throwable", name := "fillInStackTrace", desc := "()Ljava/lang/Throwable;" } : Jvm.MethodName) ({ cls := "java/lang/Throwable", name := "fillInStackTrace", desc := "()Ljava/lang/Throwable;" } : Jvm.MethodName)) ∈ WALL := wl2 70 (by decide +kernel) rfl
theorem wd_358 : (Jvm.Cond.selects "java/lang/UnsupportedOperationException" ({ cls := "java/lang/Throwable", name := "fillInStackTrace", desc := "()Ljava/lang/Throwable;" } : Jvm.MethodName) ({ cls := "java/lang/Throwable", name := "fillInStackTrace", desc := "()Ljava/lang/Throwable;" } : Jvm.MethodName)) ∈ WALL := wl2 71 (by decide +kernel) rfl
theorem wd_359 : (Jvm.Cond.selects "java/util/NoSuchElementException" ({ cls := "java/lang/Throwable", name := "fillInStackTrace", desc := "()Ljava/lang/Throwable;" } : Jvm.MethodName) ({ cls := "java/lang/Throwable", name := "fillInStackTrace", desc := "()Ljava/lang/Throwable;" } : Jvm.MethodName)) ∈ WALL := wl2 72 (by decide +kernel) rfl
theorem wd_360 : (Jvm.Cond.codeSync ({ cls := "java/lang/Throwable", name := "fillInStackTrace", desc := "()Ljava/lang/Throwable;" } : Jvm.MethodName) prog_32_method_18_code (1 : Nat) (Option.some (Jvm.ClassFile.FieldType.object "java/lang/Throwable"))) ∈ WALL := wl2 73 (by decide +kernel) rfl
theorem wd_361 : (Jvm.Cond.methodLink "java/lang/Throwable" (202 : Nat) ({ cls := "java/lang/Throwable", name := "fillInStackTrace", desc := "(I)Ljava/lang/Throwable;" } : Jvm.MethodName)) ∈ WALL := wl2 74 (by decide +kernel) rfl
theorem wd_363 : (Jvm.Cond.instanceMethod ({ cls := "java/lang/Throwable", name := "fillInStackTrace", desc := "(I)Ljava/lang/Throwable;" } : Jvm.MethodName)) ∈ WALL := wl2 76 (by decide +kernel) rfl
theorem wd_364 : (Jvm.Cond.instantiable "java/lang/Throwable" (6 : Nat)) ∈ WALL := wl2 77 (by decide +kernel) rfl
theorem wd_365 : (Jvm.Cond.native ({ cls := "java/lang/Throwable", name := "fillInStackTrace", desc := "(I)Ljava/lang/Throwable;" } : Jvm.MethodName)) ∈ WALL := wl2 78 (by decide +kernel) rfl
theorem wd_366 : (Jvm.Cond.fieldLink "java/lang/Throwable" (198 : Nat) "java/lang/Throwable" "backtrace" "Ljava/lang/Object;") ∈ WALL := wl2 79 (by decide +kernel) rfl
theorem wd_367 : (Jvm.Cond.fieldLink "java/lang/Throwable" (31 : Nat) "java/lang/Throwable" "detailMessage" "Ljava/lang/String;") ∈ WALL := wl2 80 (by decide +kernel) rfl
theorem wd_368 : (Jvm.Cond.fieldLink "java/lang/Throwable" (7 : Nat) "java/lang/Throwable" "cause" "Ljava/lang/Throwable;") ∈ WALL := wl2 81 (by decide +kernel) rfl
theorem wd_369 : (Jvm.Cond.fieldLink "java/lang/Throwable" (17 : Nat) "java/lang/Throwable" "stackTrace" "[Ljava/lang/StackTraceElement;") ∈ WALL := wl2 82 (by decide +kernel) rfl
theorem wd_370 : (Jvm.Cond.fieldLink "java/lang/Throwable" (24 : Nat) "java/lang/Throwable" "suppressedExceptions" "Ljava/util/List;") ∈ WALL := wl2 83 (by decide +kernel) rfl
theorem wd_371 : (Jvm.Cond.lays "java/lang/ArrayIndexOutOfBoundsException" "java/lang/Throwable" "backtrace" "Ljava/lang/Object;") ∈ WALL := wl2 84 (by decide +kernel) rfl
theorem wd_373 : (Jvm.Cond.lays "java/lang/ArrayIndexOutOfBoundsException" "java/lang/Throwable" "detailMessage" "Ljava/lang/String;") ∈ WALL := wl2 86 (by decide +kernel) rfl
theorem wd_375 : (Jvm.Cond.lays "java/lang/ArrayIndexOutOfBoundsException" "java/lang/Throwable" "cause" "Ljava/lang/Throwable;") ∈ WALL := wl2 88 (by decide +kernel) rfl
theorem wd_377 : (Jvm.Cond.lays "java/lang/ArrayIndexOutOfBoundsException" "java/lang/Throwable" "stackTrace" "[Ljava/lang/StackTraceElement;") ∈ WALL := wl2 90 (by decide +kernel) rfl
theorem wd_379 : (Jvm.Cond.lays "java/lang/ArrayIndexOutOfBoundsException" "java/lang/Throwable" "depth" "I") ∈ WALL := wl2 92 (by decide +kernel) rfl
theorem wd_381 : (Jvm.Cond.lays "java/lang/ArrayIndexOutOfBoundsException" "java/lang/Throwable" "suppressedExceptions" "Ljava/util/List;") ∈ WALL := wl2 94 (by decide +kernel) rfl
theorem wd_383 : (Jvm.Cond.superclass "java/lang/ArrayIndexOutOfBoundsException" "java/lang/IndexOutOfBoundsException") ∈ WALL := wl2 96 (by decide +kernel) rfl
theorem wd_393 : (Jvm.Cond.selects "java/lang/ArrayIndexOutOfBoundsException" ({ cls := "java/lang/Throwable", name := "fillInStackTrace", desc := "(I)Ljava/lang/Throwable;" } : Jvm.MethodName) ({ cls := "java/lang/Throwable", name := "fillInStackTrace", desc := "(I)Ljava/lang/Throwable;" } : Jvm.MethodName)) ∈ WALL := wl2 106 (by decide +kernel) rfl
theorem wd_394 : (Jvm.Cond.lays "java/lang/Throwable" "java/lang/Throwable" "cause" "Ljava/lang/Throwable;") ∈ WALL := wl2 107 (by decide +kernel) rfl
theorem wd_395 : (Jvm.Cond.lays "java/lang/Throwable" "java/lang/Throwable" "stackTrace" "[Ljava/lang/StackTraceElement;") ∈ WALL := wl2 108 (by decide +kernel) rfl
theorem wd_396 : (Jvm.Cond.lays "java/lang/Throwable" "java/lang/Throwable" "suppressedExceptions" "Ljava/util/List;") ∈ WALL := wl2 109 (by decide +kernel) rfl
theorem wd_397 : (Jvm.Cond.lays "java/lang/Throwable" "java/lang/Throwable" "detailMessage" "Ljava/lang/String;") ∈ WALL := wl2 110 (by decide +kernel) rfl
theorem wd_398 : (Jvm.Cond.lays "java/lang/Throwable" "java/lang/Throwable" "backtrace" "Ljava/lang/Object;") ∈ WALL := wl2 111 (by decide +kernel) rfl
theorem wd_399 : (Jvm.Cond.fieldLink "java/lang/Throwable" (198 : Nat) "java/lang/Throwable" "backtrace" "Ljava/lang/Object;") ∈ WALL := wl2 112 (by decide +kernel) rfl
theorem wd_400 : (Jvm.Cond.superclass "java/lang/Throwable" "java/lang/Object") ∈ WALL := wl2 113 (by decide +kernel) rfl
theorem wd_401 : (Jvm.Cond.instanceMethod ({ cls := "java/lang/Throwable", name := "<init>", desc := "()V" } : Jvm.MethodName)) ∈ WALL := wl2 114 (by decide +kernel) rfl
theorem wd_402 : (Jvm.Cond.code ({ cls := "java/lang/Throwable", name := "<init>", desc := "()V" } : Jvm.MethodName) prog_32_method_1_code (1 : Nat) (Option.none : Option Jvm.ClassFile.FieldType)) ∈ WALL := wl2 115 (by decide +kernel) rfl
theorem wd_403 : (Jvm.Cond.instantiable "java/lang/String" (4 : Nat)) ∈ WALL := wl2 116 (by decide +kernel) rfl
theorem wd_404 : (Jvm.Cond.laysFinal "java/lang/String" "java/lang/String" "value" "[B") ∈ WALL := wl2 117 (by decide +kernel) rfl
theorem wd_406 : (Jvm.Cond.laysFinal "java/lang/String" "java/lang/String" "coder" "B") ∈ WALL := wl2 119 (by decide +kernel) rfl
theorem wd_408 : (Jvm.Cond.classLink "StormBasinLaw" (15 : Nat) "java/lang/IllegalArgumentException") ∈ WALL := wl2 121 (by decide +kernel) rfl
theorem wd_409 : (Jvm.Cond.classLink "StormBasinLaw" (17 : Nat) "java/lang/IllegalStateException") ∈ WALL := wl2 122 (by decide +kernel) rfl
theorem wd_410 : (Jvm.Cond.methodLink "StormBasinLaw" (7 : Nat) ({ cls := "StormBasin", name := "addBasin", desc := "(IIIII)I" } : Jvm.MethodName)) ∈ WALL := wl2 123 (by decide +kernel) rfl
theorem wd_411 : (Jvm.Cond.instanceMethod ({ cls := "StormBasin", name := "addBasin", desc := "(IIIII)I" } : Jvm.MethodName)) ∈ WALL := wl2 124 (by decide +kernel) rfl
theorem wd_412 : (Jvm.Cond.selects "StormBasin" ({ cls := "StormBasin", name := "addBasin", desc := "(IIIII)I" } : Jvm.MethodName) ({ cls := "StormBasin", name := "addBasin", desc := "(IIIII)I" } : Jvm.MethodName)) ∈ WALL := wl2 125 (by decide +kernel) rfl
theorem wd_413 : (Jvm.Cond.code ({ cls := "StormBasin", name := "addBasin", desc := "(IIIII)I" } : Jvm.MethodName) prog_1_method_2_code (8 : Nat) (Option.some Jvm.ClassFile.FieldType.int)) ∈ WALL := wl2 126 (by decide +kernel) rfl
theorem wd_414 : (Jvm.Cond.methodLink "StormBasin" (43 : Nat) ({ cls := "StormBasin", name := "isWithin", desc := "(III)Z" } : Jvm.MethodName)) ∈ WALL := wl2 127 (by decide +kernel) rfl
theorem wd_415 : (Jvm.Cond.static ({ cls := "StormBasin", name := "isWithin", desc := "(III)Z" } : Jvm.MethodName)) ∈ WALL := wl2 128 (by decide +kernel) rfl
theorem wd_416 : (Jvm.Cond.code ({ cls := "StormBasin", name := "isWithin", desc := "(III)Z" } : Jvm.MethodName) prog_1_method_44_code (3 : Nat) (Option.some Jvm.ClassFile.FieldType.boolean)) ∈ WALL := wl2 129 (by decide +kernel) rfl
theorem wd_417 : (Jvm.Cond.classLink "StormBasin" (47 : Nat) "java/lang/IndexOutOfBoundsException") ∈ WALL := wl2 130 (by decide +kernel) rfl
theorem wd_418 : (Jvm.Cond.instantiable "java/lang/IndexOutOfBoundsException" (6 : Nat)) ∈ WALL := wl2 131 (by decide +kernel) rfl
theorem wd_420 : (Jvm.Cond.selects "java/lang/IndexOutOfBoundsException" ({ cls := "java/lang/Throwable", name := "fillInStackTrace", desc := "(I)Ljava/lang/Throwable;" } : Jvm.MethodName) ({ cls := "java/lang/Throwable", name := "fillInStackTrace", desc := "(I)Ljava/lang/Throwable;" } : Jvm.MethodName)) ∈ WALL := wl2 133 (by decide +kernel) rfl
theorem wd_421 : (Jvm.Cond.lays "java/lang/IndexOutOfBoundsException" "java/lang/Throwable" "cause" "Ljava/lang/Throwable;") ∈ WALL := wl2 134 (by decide +kernel) rfl
theorem wd_422 : (Jvm.Cond.lays "java/lang/IndexOutOfBoundsException" "java/lang/Throwable" "stackTrace" "[Ljava/lang/StackTraceElement;") ∈ WALL := wl2 135 (by decide +kernel) rfl
theorem wd_423 : (Jvm.Cond.lays "java/lang/IndexOutOfBoundsException" "java/lang/Throwable" "suppressedExceptions" "Ljava/util/List;") ∈ WALL := wl2 136 (by decide +kernel) rfl
theorem wd_424 : (Jvm.Cond.lays "java/lang/IndexOutOfBoundsException" "java/lang/Throwable" "detailMessage" "Ljava/lang/String;") ∈ WALL := wl2 137 (by decide +kernel) rfl
theorem wd_425 : (Jvm.Cond.lays "java/lang/IndexOutOfBoundsException" "java/lang/Throwable" "backtrace" "Ljava/lang/Object;") ∈ WALL := wl2 138 (by decide +kernel) rfl
theorem wd_427 : (Jvm.Cond.methodLink "StormBasin" (51 : Nat) ({ cls := "java/lang/IndexOutOfBoundsException", name := "<init>", desc := "(Ljava/lang/String;)V" } : Jvm.MethodName)) ∈ WALL := wl2 140 (by decide +kernel) rfl
theorem wd_428 : (Jvm.Cond.lays "java/lang/IndexOutOfBoundsException" "java/lang/Throwable" "depth" "I") ∈ WALL := wl2 141 (by decide +kernel) rfl
theorem wd_429 : (Jvm.Cond.superclass "java/lang/IndexOutOfBoundsException" "java/lang/RuntimeException") ∈ WALL := wl2 142 (by decide +kernel) rfl
theorem wd_430 : (Jvm.Cond.classLink "StormBasin" (54 : Nat) "java/lang/IllegalArgumentException") ∈ WALL := wl2 143 (by decide +kernel) rfl
theorem wd_431 : (Jvm.Cond.instantiable "java/lang/IllegalArgumentException" (6 : Nat)) ∈ WALL := wl2 144 (by decide +kernel) rfl
theorem wd_433 : (Jvm.Cond.selects "java/lang/IllegalArgumentException" ({ cls := "java/lang/Throwable", name := "fillInStackTrace", desc := "(I)Ljava/lang/Throwable;" } : Jvm.MethodName) ({ cls := "java/lang/Throwable", name := "fillInStackTrace", desc := "(I)Ljava/lang/Throwable;" } : Jvm.MethodName)) ∈ WALL := wl2 146 (by decide +kernel) rfl
theorem wd_434 : (Jvm.Cond.lays "java/lang/IllegalArgumentException" "java/lang/Throwable" "cause" "Ljava/lang/Throwable;") ∈ WALL := wl2 147 (by decide +kernel) rfl
theorem wd_435 : (Jvm.Cond.lays "java/lang/IllegalArgumentException" "java/lang/Throwable" "stackTrace" "[Ljava/lang/StackTraceElement;") ∈ WALL := wl2 148 (by decide +kernel) rfl
theorem wd_436 : (Jvm.Cond.lays "java/lang/IllegalArgumentException" "java/lang/Throwable" "suppressedExceptions" "Ljava/util/List;") ∈ WALL := wl2 149 (by decide +kernel) rfl
theorem wd_437 : (Jvm.Cond.lays "java/lang/IllegalArgumentException" "java/lang/Throwable" "detailMessage" "Ljava/lang/String;") ∈ WALL := wl2 150 (by decide +kernel) rfl
theorem wd_438 : (Jvm.Cond.lays "java/lang/IllegalArgumentException" "java/lang/Throwable" "backtrace" "Ljava/lang/Object;") ∈ WALL := wl2 151 (by decide +kernel) rfl
theorem wd_440 : (Jvm.Cond.methodLink "StormBasin" (58 : Nat) ({ cls := "java/lang/IllegalArgumentException", name := "<init>", desc := "(Ljava/lang/String;)V" } : Jvm.MethodName)) ∈ WALL := wl2 153 (by decide +kernel) rfl
theorem wd_441 : (Jvm.Cond.instanceMethod ({ cls := "java/lang/IllegalArgumentException", name := "<init>", desc := "(Ljava/lang/String;)V" } : Jvm.MethodName)) ∈ WALL := wl2 154 (by decide +kernel) rfl
theorem wd_442 : (Jvm.Cond.code ({ cls := "java/lang/IllegalArgumentException", name := "<init>", desc := "(Ljava/lang/String;)V" } : Jvm.MethodName) prog_18_method_2_code (2 : Nat) (Option.none : Option Jvm.ClassFile.FieldType)) ∈ WALL := wl2 155 (by decide +kernel) rfl
theorem wd_443 : (Jvm.Cond.methodLink "java/lang/IllegalArgumentException" (7 : Nat) ({ cls := "java/lang/RuntimeException", name := "<init>", desc := "(Ljava/lang/String;)V" } : Jvm.MethodName)) ∈ WALL := wl2 156 (by decide +kernel) rfl
theorem wd_444 : (Jvm.Cond.lays "java/lang/IllegalArgumentException" "java/lang/Throwable" "depth" "I") ∈ WALL := wl2 157 (by decide +kernel) rfl
theorem wd_445 : (Jvm.Cond.superclass "java/lang/IllegalArgumentException" "java/lang/RuntimeException") ∈ WALL := wl2 158 (by decide +kernel) rfl
theorem wd_446 : (Jvm.Cond.methodLink "StormBasin" (59 : Nat) ({ cls := "StormBasin", name := "requireHeight", desc := "(I)V" } : Jvm.MethodName)) ∈ WALL := wl2 159 (by decide +kernel) rfl
theorem wd_447 : (Jvm.Cond.static ({ cls := "StormBasin", name := "requireHeight", desc := "(I)V" } : Jvm.MethodName)) ∈ WALL := wl2 160 (by decide +kernel) rfl
theorem wd_448 : (Jvm.Cond.code ({ cls := "StormBasin", name := "requireHeight", desc := "(I)V" } : Jvm.MethodName) prog_1_method_45_code (1 : Nat) (Option.none : Option Jvm.ClassFile.FieldType)) ∈ WALL := wl2 161 (by decide +kernel) rfl
theorem wd_450 : (Jvm.Cond.classLink "StormBasin" (63 : Nat) "java/lang/IllegalStateException") ∈ WALL := wl2 163 (by decide +kernel) rfl
theorem wd_451 : (Jvm.Cond.instantiable "java/lang/IllegalStateException" (6 : Nat)) ∈ WALL := wl2 164 (by decide +kernel) rfl
theorem wd_453 : (Jvm.Cond.selects "java/lang/IllegalStateException" ({ cls := "java/lang/Throwable", name := "fillInStackTrace", desc := "(I)Ljava/lang/Throwable;" } : Jvm.MethodName) ({ cls := "java/lang/Throwable", name := "fillInStackTrace", desc := "(I)Ljava/lang/Throwable;" } : Jvm.MethodName)) ∈ WALL := wl2 166 (by decide +kernel) rfl
theorem wd_454 : (Jvm.Cond.lays "java/lang/IllegalStateException" "java/lang/Throwable" "cause" "Ljava/lang/Throwable;") ∈ WALL := wl2 167 (by decide +kernel) rfl
theorem wd_455 : (Jvm.Cond.lays "java/lang/IllegalStateException" "java/lang/Throwable" "stackTrace" "[Ljava/lang/StackTraceElement;") ∈ WALL := wl2 168 (by decide +kernel) rfl
theorem wd_456 : (Jvm.Cond.lays "java/lang/IllegalStateException" "java/lang/Throwable" "suppressedExceptions" "Ljava/util/List;") ∈ WALL := wl2 169 (by decide +kernel) rfl
theorem wd_457 : (Jvm.Cond.lays "java/lang/IllegalStateException" "java/lang/Throwable" "detailMessage" "Ljava/lang/String;") ∈ WALL := wl2 170 (by decide +kernel) rfl
theorem wd_458 : (Jvm.Cond.lays "java/lang/IllegalStateException" "java/lang/Throwable" "backtrace" "Ljava/lang/Object;") ∈ WALL := wl2 171 (by decide +kernel) rfl
theorem wd_460 : (Jvm.Cond.methodLink "StormBasin" (67 : Nat) ({ cls := "java/lang/IllegalStateException", name := "<init>", desc := "(Ljava/lang/String;)V" } : Jvm.MethodName)) ∈ WALL := wl2 173 (by decide +kernel) rfl
theorem wd_461 : (Jvm.Cond.instanceMethod ({ cls := "java/lang/IllegalStateException", name := "<init>", desc := "(Ljava/lang/String;)V" } : Jvm.MethodName)) ∈ WALL := wl2 174 (by decide +kernel) rfl
theorem wd_462 : (Jvm.Cond.code ({ cls := "java/lang/IllegalStateException", name := "<init>", desc := "(Ljava/lang/String;)V" } : Jvm.MethodName) prog_19_method_2_code (2 : Nat) (Option.none : Option Jvm.ClassFile.FieldType)) ∈ WALL := wl2 175 (by decide +kernel) rfl
theorem wd_463 : (Jvm.Cond.methodLink "java/lang/IllegalStateException" (7 : Nat) ({ cls := "java/lang/RuntimeException", name := "<init>", desc := "(Ljava/lang/String;)V" } : Jvm.MethodName)) ∈ WALL := wl2 176 (by decide +kernel) rfl
theorem wd_464 : (Jvm.Cond.lays "java/lang/IllegalStateException" "java/lang/Throwable" "depth" "I") ∈ WALL := wl2 177 (by decide +kernel) rfl
theorem wd_465 : (Jvm.Cond.superclass "java/lang/IllegalStateException" "java/lang/RuntimeException") ∈ WALL := wl2 178 (by decide +kernel) rfl
theorem wd_466 : (Jvm.Cond.methodLink "StormBasin" (68 : Nat) ({ cls := "StormBasin", name := "requireBeforeFirstHour", desc := "()V" } : Jvm.MethodName)) ∈ WALL := wl2 179 (by decide +kernel) rfl
theorem wd_468 : (Jvm.Cond.instanceMethod ({ cls := "StormBasin", name := "requireBeforeFirstHour", desc := "()V" } : Jvm.MethodName)) ∈ WALL := wl2 181 (by decide +kernel) rfl
theorem wd_469 : (Jvm.Cond.code ({ cls := "StormBasin", name := "requireBeforeFirstHour", desc := "()V" } : Jvm.MethodName) prog_1_method_47_code (1 : Nat) (Option.none : Option Jvm.ClassFile.FieldType)) ∈ WALL := wl2 182 (by decide +kernel) rfl
theorem wd_471 : (Jvm.Cond.instantiable "StormBasin$Basin" (8 : Nat)) ∈ WALL := wl2 184 (by decide +kernel) rfl
theorem wd_472 : (Jvm.Cond.methodLink "StormBasin" (73 : Nat) ({ cls := "StormBasin$Basin", name := "<init>", desc := "(IIIII)V" } : Jvm.MethodName)) ∈ WALL := wl2 185 (by decide +kernel) rfl
theorem wd_473 : (Jvm.Cond.instanceMethod ({ cls := "StormBasin$Basin", name := "<init>", desc := "(IIIII)V" } : Jvm.MethodName)) ∈ WALL := wl2 186 (by decide +kernel) rfl
theorem wd_474 : (Jvm.Cond.code ({ cls := "StormBasin$Basin", name := "<init>", desc := "(IIIII)V" } : Jvm.MethodName) prog_2_method_1_code (6 : Nat) (Option.none : Option Jvm.ClassFile.FieldType)) ∈ WALL := wl2 187 (by decide +kernel) rfl
theorem wd_475 : (Jvm.Cond.methodLink "StormBasin$Basin" (3 : Nat) ({ cls := "java/lang/Object", name := "<init>", desc := "()V" } : Jvm.MethodName)) ∈ WALL := wl2 188 (by decide +kernel) rfl
theorem wd_476 : (Jvm.Cond.classLink "StormBasin$Basin" (24 : Nat) "StormBasin$Street") ∈ WALL := wl2 189 (by decide +kernel) rfl
theorem wd_477 : (Jvm.Cond.instantiable "StormBasin$Street" (5 : Nat)) ∈ WALL := wl2 190 (by decide +kernel) rfl
theorem wd_478 : (Jvm.Cond.methodLink "StormBasin$Basin" (26 : Nat) ({ cls := "StormBasin$Street", name := "<init>", desc := "(I)V" } : Jvm.MethodName)) ∈ WALL := wl2 191 (by decide +kernel) rfl
theorem wd_479 : (Jvm.Cond.instanceMethod ({ cls := "StormBasin$Street", name := "<init>", desc := "(I)V" } : Jvm.MethodName)) ∈ WALL := wl2 192 (by decide +kernel) rfl
theorem wd_480 : (Jvm.Cond.code ({ cls := "StormBasin$Street", name := "<init>", desc := "(I)V" } : Jvm.MethodName) prog_5_method_1_code (2 : Nat) (Option.none : Option Jvm.ClassFile.FieldType)) ∈ WALL := wl2 193 (by decide +kernel) rfl
theorem wd_481 : (Jvm.Cond.methodLink "StormBasin$Street" (3 : Nat) ({ cls := "java/lang/Object", name := "<init>", desc := "()V" } : Jvm.MethodName)) ∈ WALL := wl2 194 (by decide +kernel) rfl
theorem wd_482 : (Jvm.Cond.fieldLink "StormBasin$Street" (9 : Nat) "StormBasin$Street" "heights" "[I") ∈ WALL := wl2 195 (by decide +kernel) rfl
theorem wd_483 : (Jvm.Cond.fieldLink "StormBasin$Street" (19 : Nat) "StormBasin$Street" "dryUpTo" "[I") ∈ WALL := wl2 196 (by decide +kernel) rfl
theorem wd_484 : (Jvm.Cond.fieldLink "StormBasin$Street" (22 : Nat) "StormBasin$Street" "poured" "[I") ∈ WALL := wl2 197 (by decide +kernel) rfl
theorem wd_485 : (Jvm.Cond.fieldLink "StormBasin$Street" (25 : Nat) "StormBasin$Street" "volumeAtEnd" "[I") ∈ WALL := wl2 198 (by decide +kernel) rfl
theorem wd_486 : (Jvm.Cond.fieldLink "StormBasin$House" (29 : Nat) "StormBasin$Street" "volumeAtEnd" "[I") ∈ WALL := wl2 199 (by decide +kernel) rfl
theorem wd_487 : (Jvm.Cond.fieldLink "StormBasin" (192 : Nat) "StormBasin$Street" "volumeAtEnd" "[I") ∈ WALL := wl2 200 (by decide +kernel) rfl
theorem wd_488 : (Jvm.Cond.fieldLink "StormBasin$Street" (15 : Nat) "StormBasin$Street" "cells" "I") ∈ WALL := wl2 201 (by decide +kernel) rfl
theorem wd_489 : (Jvm.Cond.fieldLink "StormBasin" (88 : Nat) "StormBasin$Street" "cells" "I") ∈ WALL := wl2 202 (by decide +kernel) rfl
theorem wd_490 : (Jvm.Cond.laysFinal "StormBasin$Street" "StormBasin$Street" "heights" "[I") ∈ WALL := wl2 203 (by decide +kernel) rfl
theorem wd_492 : (Jvm.Cond.laysFinal "StormBasin$Street" "StormBasin$Street" "dryUpTo" "[I") ∈ WALL := wl2 205 (by decide +kernel) rfl
theorem wd_494 : (Jvm.Cond.laysFinal "StormBasin$Street" "StormBasin$Street" "poured" "[I") ∈ WALL := wl2 207 (by decide +kernel) rfl
theorem wd_496 : (Jvm.Cond.laysFinal "StormBasin$Street" "StormBasin$Street" "volumeAtEnd" "[I") ∈ WALL := wl2 209 (by decide +kernel) rfl
theorem wd_498 : (Jvm.Cond.lays "StormBasin$Street" "StormBasin$Street" "cells" "I") ∈ WALL := wl2 211 (by decide +kernel) rfl
theorem wd_500 : (Jvm.Cond.superclass "StormBasin$Street" "java/lang/Object") ∈ WALL := wl2 213 (by decide +kernel) rfl
theorem wd_501 : (Jvm.Cond.fieldLink "StormBasin$Basin" (9 : Nat) "StormBasin$Basin" "area" "I") ∈ WALL := wl2 214 (by decide +kernel) rfl
theorem wd_502 : (Jvm.Cond.fieldLink "StormBasin" (351 : Nat) "StormBasin$Basin" "area" "I") ∈ WALL := wl2 215 (by decide +kernel) rfl
theorem wd_503 : (Jvm.Cond.fieldLink "StormBasin$Basin" (15 : Nat) "StormBasin$Basin" "depth" "I") ∈ WALL := wl2 216 (by decide +kernel) rfl
theorem wd_504 : (Jvm.Cond.fieldLink "StormBasin$Basin" (18 : Nat) "StormBasin$Basin" "width" "I") ∈ WALL := wl2 217 (by decide +kernel) rfl
theorem wd_505 : (Jvm.Cond.fieldLink "StormBasin" (333 : Nat) "StormBasin$Basin" "width" "I") ∈ WALL := wl2 218 (by decide +kernel) rfl
theorem wd_506 : (Jvm.Cond.fieldLink "StormBasin$Basin" (21 : Nat) "StormBasin$Basin" "below" "I") ∈ WALL := wl2 219 (by decide +kernel) rfl
theorem wd_507 : (Jvm.Cond.fieldLink "StormBasin" (341 : Nat) "StormBasin$Basin" "below" "I") ∈ WALL := wl2 220 (by decide +kernel) rfl
theorem wd_508 : (Jvm.Cond.fieldLink "StormBasin$Basin" (29 : Nat) "StormBasin$Basin" "street" "LStormBasin$Street;") ∈ WALL := wl2 221 (by decide +kernel) rfl
theorem wd_509 : (Jvm.Cond.fieldLink "StormBasin" (84 : Nat) "StormBasin$Basin" "street" "LStormBasin$Street;") ∈ WALL := wl2 222 (by decide +kernel) rfl
theorem wd_510 : (Jvm.Cond.fieldLink "StormBasin$Basin" (33 : Nat) "StormBasin$Basin" "rainIn" "[I") ∈ WALL := wl2 223 (by decide +kernel) rfl
theorem wd_511 : (Jvm.Cond.fieldLink "StormBasin" (316 : Nat) "StormBasin$Basin" "rainIn" "[I") ∈ WALL := wl2 224 (by decide +kernel) rfl
theorem wd_512 : (Jvm.Cond.fieldLink "StormBasin" (105 : Nat) "StormBasin$Basin" "hand" "I") ∈ WALL := wl2 225 (by decide +kernel) rfl
theorem wd_513 : (Jvm.Cond.fieldLink "StormBasin" (140 : Nat) "StormBasin$Basin" "rain" "I") ∈ WALL := wl2 226 (by decide +kernel) rfl
theorem wd_514 : (Jvm.Cond.laysFinal "StormBasin$Basin" "StormBasin$Basin" "area" "I") ∈ WALL := wl2 227 (by decide +kernel) rfl
theorem wd_516 : (Jvm.Cond.laysFinal "StormBasin$Basin" "StormBasin$Basin" "depth" "I") ∈ WALL := wl2 229 (by decide +kernel) rfl
theorem wd_518 : (Jvm.Cond.laysFinal "StormBasin$Basin" "StormBasin$Basin" "width" "I") ∈ WALL := wl2 231 (by decide +kernel) rfl
theorem wd_520 : (Jvm.Cond.laysFinal "StormBasin$Basin" "StormBasin$Basin" "below" "I") ∈ WALL := wl2 233 (by decide +kernel) rfl
theorem wd_522 : (Jvm.Cond.laysFinal "StormBasin$Basin" "StormBasin$Basin" "street" "LStormBasin$Street;") ∈ WALL := wl2 235 (by decide +kernel) rfl
theorem wd_524 : (Jvm.Cond.laysFinal "StormBasin$Basin" "StormBasin$Basin" "rainIn" "[I") ∈ WALL := wl2 237 (by decide +kernel) rfl
theorem wd_526 : (Jvm.Cond.lays "StormBasin$Basin" "StormBasin$Basin" "hand" "I") ∈ WALL := wl2 239 (by decide +kernel) rfl
theorem wd_528 : (Jvm.Cond.lays "StormBasin$Basin" "StormBasin$Basin" "rain" "I") ∈ WALL := wl3 1 (by decide +kernel) rfl
theorem wd_530 : (Jvm.Cond.superclass "StormBasin$Basin" "java/lang/Object") ∈ WALL := wl3 3 (by decide +kernel) rfl
theorem wd_531 : (Jvm.Cond.methodLink "StormBasin" (76 : Nat) ({ cls := "java/util/ArrayList", name := "add", desc := "(Ljava/lang/Object;)Z" } : Jvm.MethodName)) ∈ WALL := wl3 4 (by decide +kernel) rfl
theorem wd_532 : (Jvm.Cond.instanceMethod ({ cls := "java/util/ArrayList", name := "add", desc := "(Ljava/lang/Object;)Z" } : Jvm.MethodName)) ∈ WALL := wl3 5 (by decide +kernel) rfl
theorem wd_533 : (Jvm.Cond.selects "java/util/ArrayList" ({ cls := "java/util/ArrayList", name := "add", desc := "(Ljava/lang/Object;)Z" } : Jvm.MethodName) ({ cls := "java/util/ArrayList", name := "add", desc := "(Ljava/lang/Object;)Z" } : Jvm.MethodName)) ∈ WALL := wl3 6 (by decide +kernel) rfl
theorem wd_534 : (Jvm.Cond.code ({ cls := "java/util/ArrayList", name := "add", desc := "(Ljava/lang/Object;)Z" } : Jvm.MethodName) prog_38_method_25_code (2 : Nat) (Option.some Jvm.ClassFile.FieldType.boolean)) ∈ WALL := wl3 7 (by decide +kernel) rfl
theorem wd_535 : (Jvm.Cond.methodLink "java/util/ArrayList" (131 : Nat) ({ cls := "java/util/ArrayList", name := "add", desc := "(Ljava/lang/Object;[Ljava/lang/Object;I)V" } : Jvm.MethodName)) ∈ WALL := wl3 8 (by decide +kernel) rfl
theorem wd_537 : (Jvm.Cond.instanceMethod ({ cls := "java/util/ArrayList", name := "add", desc := "(Ljava/lang/Object;[Ljava/lang/Object;I)V" } : Jvm.MethodName)) ∈ WALL := wl3 10 (by decide +kernel) rfl
theorem wd_538 : (Jvm.Cond.code ({ cls := "java/util/ArrayList", name := "add", desc := "(Ljava/lang/Object;[Ljava/lang/Object;I)V" } : Jvm.MethodName) prog_38_method_24_code (4 : Nat) (Option.none : Option Jvm.ClassFile.FieldType)) ∈ WALL := wl3 11 (by decide +kernel) rfl
theorem wd_539 : (Jvm.Cond.methodLink "java/util/ArrayList" (129 : Nat) ({ cls := "java/util/ArrayList", name := "grow", desc := "()[Ljava/lang/Object;" } : Jvm.MethodName)) ∈ WALL := wl3 12 (by decide +kernel) rfl
theorem wd_541 : (Jvm.Cond.instanceMethod ({ cls := "java/util/ArrayList", name := "grow", desc := "()[Ljava/lang/Object;" } : Jvm.MethodName)) ∈ WALL := wl3 14 (by decide +kernel) rfl
theorem wd_542 : (Jvm.Cond.code ({ cls := "java/util/ArrayList", name := "grow", desc := "()[Ljava/lang/Object;" } : Jvm.MethodName) prog_38_method_7_code (1 : Nat) (Option.some (Jvm.ClassFile.FieldType.array (Jvm.ClassFile.FieldType.object "java/lang/Object")))) ∈ WALL := wl3 15 (by decide +kernel) rfl
theorem wd_543 : (Jvm.Cond.methodLink "java/util/ArrayList" (69 : Nat) ({ cls := "java/util/ArrayList", name := "grow", desc := "(I)[Ljava/lang/Object;" } : Jvm.MethodName)) ∈ WALL := wl3 16 (by decide +kernel) rfl
theorem wd_545 : (Jvm.Cond.instanceMethod ({ cls := "java/util/ArrayList", name := "grow", desc := "(I)[Ljava/lang/Object;" } : Jvm.MethodName)) ∈ WALL := wl3 18 (by decide +kernel) rfl
theorem wd_546 : (Jvm.Cond.code ({ cls := "java/util/ArrayList", name := "grow", desc := "(I)[Ljava/lang/Object;" } : Jvm.MethodName) prog_38_method_6_code (4 : Nat) (Option.some (Jvm.ClassFile.FieldType.array (Jvm.ClassFile.FieldType.object "java/lang/Object")))) ∈ WALL := wl3 19 (by decide +kernel) rfl
theorem wd_547 : (Jvm.Cond.methodLink "java/util/ArrayList" (73 : Nat) ({ cls := "jdk/internal/util/ArraysSupport", name := "newLength", desc := "(III)I" } : Jvm.MethodName)) ∈ WALL := wl3 20 (by decide +kernel) rfl
theorem wd_548 : (Jvm.Cond.static ({ cls := "jdk/internal/util/ArraysSupport", name := "newLength", desc := "(III)I" } : Jvm.MethodName)) ∈ WALL := wl3 21 (by decide +kernel) rfl
theorem wd_549 : (Jvm.Cond.code ({ cls := "jdk/internal/util/ArraysSupport", name := "newLength", desc := "(III)I" } : Jvm.MethodName) prog_46_method_27_code (4 : Nat) (Option.some Jvm.ClassFile.FieldType.int)) ∈ WALL := wl3 22 (by decide +kernel) rfl
theorem wd_550 : (Jvm.Cond.methodLink "jdk/internal/util/ArraysSupport" (194 : Nat) ({ cls := "java/lang/Math", name := "max", desc := "(II)I" } : Jvm.MethodName)) ∈ WALL := wl3 23 (by decide +kernel) rfl
theorem wd_551 : (Jvm.Cond.static ({ cls := "java/lang/Math", name := "max", desc := "(II)I" } : Jvm.MethodName)) ∈ WALL := wl3 24 (by decide +kernel) rfl
theorem wd_552 : (Jvm.Cond.code ({ cls := "java/lang/Math", name := "max", desc := "(II)I" } : Jvm.MethodName) prog_23_method_65_code (2 : Nat) (Option.some Jvm.ClassFile.FieldType.int)) ∈ WALL := wl3 25 (by decide +kernel) rfl
theorem wd_553 : (Jvm.Cond.constant "jdk/internal/util/ArraysSupport" (200 : Nat) (2147483639 : Int32)) ∈ WALL := wl3 26 (by decide +kernel) rfl
theorem wd_554 : (Jvm.Cond.methodLink "jdk/internal/util/ArraysSupport" (201 : Nat) ({ cls := "jdk/internal/util/ArraysSupport", name := "hugeLength", desc := "(II)I" } : Jvm.MethodName)) ∈ WALL := wl3 27 (by decide +kernel) rfl
theorem wd_555 : (Jvm.Cond.static ({ cls := "jdk/internal/util/ArraysSupport", name := "hugeLength", desc := "(II)I" } : Jvm.MethodName)) ∈ WALL := wl3 28 (by decide +kernel) rfl
theorem wd_556 : (Jvm.Cond.code ({ cls := "jdk/internal/util/ArraysSupport", name := "hugeLength", desc := "(II)I" } : Jvm.MethodName) prog_46_method_28_code (3 : Nat) (Option.some Jvm.ClassFile.FieldType.int)) ∈ WALL := wl3 29 (by decide +kernel) rfl
theorem wd_557 : (Jvm.Cond.methodLink "java/util/ArrayList" (66 : Nat) ({ cls := "java/util/Arrays", name := "copyOf", desc := "([Ljava/lang/Object;I)[Ljava/lang/Object;" } : Jvm.MethodName)) ∈ WALL := wl3 30 (by decide +kernel) rfl
theorem wd_558 : (Jvm.Cond.static ({ cls := "java/util/Arrays", name := "copyOf", desc := "([Ljava/lang/Object;I)[Ljava/lang/Object;" } : Jvm.MethodName)) ∈ WALL := wl3 31 (by decide +kernel) rfl
theorem wd_559 : (Jvm.Cond.code ({ cls := "java/util/Arrays", name := "copyOf", desc := "([Ljava/lang/Object;I)[Ljava/lang/Object;" } : Jvm.MethodName) prog_39_method_119_code (2 : Nat) (Option.some (Jvm.ClassFile.FieldType.array (Jvm.ClassFile.FieldType.object "java/lang/Object")))) ∈ WALL := wl3 32 (by decide +kernel) rfl
theorem wd_560 : (Jvm.Cond.methodLink "java/util/Arrays" (86 : Nat) ({ cls := "java/lang/Object", name := "getClass", desc := "()Ljava/lang/Class;" } : Jvm.MethodName)) ∈ WALL := wl3 33 (by decide +kernel) rfl
theorem wd_561 : (Jvm.Cond.instanceMethod ({ cls := "java/lang/Object", name := "getClass", desc := "()Ljava/lang/Class;" } : Jvm.MethodName)) ∈ WALL := wl3 34 (by decide +kernel) rfl
theorem wd_562 : (Jvm.Cond.sameMethod "java/lang/Object" "java/lang/Object" "getClass" "()Ljava/lang/Class;") ∈ WALL := wl3 35 (by decide +kernel) rfl
theorem wd_563 : (Jvm.Cond.selects "StormBasin" ({ cls := "java/lang/Object", name := "getClass", desc := "()Ljava/lang/Class;" } : Jvm.MethodName) ({ cls := "java/lang/Object", name := "getClass", desc := "()Ljava/lang/Class;" } : Jvm.MethodName)) ∈ WALL := wl3 36 (by decide +kernel) rfl
theorem wd_564 : (Jvm.Cond.selects "StormBasin$Basin" ({ cls := "java/lang/Object", name := "getClass", desc := "()Ljava/lang/Class;" } : Jvm.MethodName) ({ cls := "java/lang/Object", name := "getClass", desc := "()Ljava/lang/Class;" } : Jvm.MethodName)) ∈ WALL := wl3 37 (by decide +kernel) rfl
theorem wd_565 : (Jvm.Cond.selects "StormBasin$House" ({ cls := "java/lang/Object", name := "getClass", desc := "()Ljava/lang/Class;" } : Jvm.MethodName) ({ cls := "java/lang/Object", name := "getClass", desc := "()Ljava/lang/Class;" } : Jvm.MethodName)) ∈ WALL := wl3 38 (by decide +kernel) rfl
theorem wd_566 : (Jvm.Cond.selects "StormBasin$Rule" ({ cls := "java/lang/Object", name := "getClass", desc := "()Ljava/lang/Class;" } : Jvm.MethodName) ({ cls := "java/lang/Object", name := "getClass", desc := "()Ljava/lang/Class;" } : Jvm.MethodName)) ∈ WALL := wl3 39 (by decide +kernel) rfl
theorem wd_567 : (Jvm.Cond.selects "StormBasin$Street" ({ cls := "java/lang/Object", name := "getClass", desc := "()Ljava/lang/Class;" } : Jvm.MethodName) ({ cls := "java/lang/Object", name := "getClass", desc := "()Ljava/lang/Class;" } : Jvm.MethodName)) ∈ WALL := wl3 40 (by decide +kernel) rfl
theorem wd_568 : (Jvm.Cond.selects "StormBasin$Water" ({ cls := "java/lang/Object", name := "getClass", desc := "()Ljava/lang/Class;" } : Jvm.MethodName) ({ cls := "java/lang/Object", name := "getClass", desc := "()Ljava/lang/Class;" } : Jvm.MethodName)) ∈ WALL := wl3 41 (by decide +kernel) rfl
theorem wd_569 : (Jvm.Cond.selects "StormBasinModel" ({ cls := "java/lang/Object", name := "getClass", desc := "()Ljava/lang/Class;" } : Jvm.MethodName) ({ cls := "java/lang/Object", name := "getClass", desc := "()Ljava/lang/Class;" } : Jvm.MethodName)) ∈ WALL := wl3 42 (by decide +kernel) rfl
theorem wd_570 : (Jvm.Cond.selects "java/lang/ArithmeticException" ({ cls := "java/lang/Object", name := "getClass", desc := "()Ljava/lang/Class;" } : Jvm.MethodName) ({ cls := "java/lang/Object", name := "getClass", desc := "()Ljava/lang/Class;" } : Jvm.MethodName)) ∈ WALL := wl3 43 (by decide +kernel) rfl
theorem wd_571 : (Jvm.Cond.selects "java/lang/ArrayIndexOutOfBoundsException" ({ cls := "java/lang/Object", name := "getClass", desc := "()Ljava/lang/Class;" } : Jvm.MethodName) ({ cls := "java/lang/Object", name := "getClass", desc := "()Ljava/lang/Class;" } : Jvm.MethodName)) ∈ WALL := wl3 44 (by decide +kernel) rfl
theorem wd_572 : (Jvm.Cond.selects "java/lang/IllegalArgumentException" ({ cls := "java/lang/Object", name := "getClass", desc := "()Ljava/lang/Class;" } : Jvm.MethodName) ({ cls := "java/lang/Object", name := "getClass", desc := "()Ljava/lang/Class;" } : Jvm.MethodName)) ∈ WALL := wl3 45 (by decide +kernel) rfl
theorem wd_573 : (Jvm.Cond.selects "java/lang/IllegalStateException" ({ cls := "java/lang/Object", name := "getClass", desc := "()Ljava/lang/Class;" } : Jvm.MethodName) ({ cls := "java/lang/Object", name := "getClass", desc := "()Ljava/lang/Class;" } : Jvm.MethodName)) ∈ WALL := wl3 46 (by decide +kernel) rfl
theorem wd_574 : (Jvm.Cond.selects "java/lang/IndexOutOfBoundsException" ({ cls := "java/lang/Object", name := "getClass", desc := "()Ljava/lang/Class;" } : Jvm.MethodName) ({ cls := "java/lang/Object", name := "getClass", desc := "()Ljava/lang/Class;" } : Jvm.MethodName)) ∈ WALL := wl3 47 (by decide +kernel) rfl
theorem wd_575 : (Jvm.Cond.selects "java/lang/String" ({ cls := "java/lang/Object", name := "getClass", desc := "()Ljava/lang/Class;" } : Jvm.MethodName) ({ cls := "java/lang/Object", name := "getClass", desc := "()Ljava/lang/Class;" } : Jvm.MethodName)) ∈ WALL := wl3 48 (by decide +kernel) rfl
theorem wd_576 : (Jvm.Cond.selects "java/lang/StringBuilder" ({ cls := "java/lang/Object", name := "getClass", desc := "()Ljava/lang/Class;" } : Jvm.MethodName) ({ cls := "java/lang/Object", name := "getClass", desc := "()Ljava/lang/Class;" } : Jvm.MethodName)) ∈ WALL := wl3 49 (by decide +kernel) rfl
theorem wd_577 : (Jvm.Cond.selects "java/lang/StringIndexOutOfBoundsException" ({ cls := "java/lang/Object", name := "getClass", desc := "()Ljava/lang/Class;" } : Jvm.MethodName) ({ cls := "java/lang/Object", name := "getClass", desc := "()Ljava/lang/Class;" } : Jvm.MethodName)) ∈ WALL := wl3 50 (by decide +kernel) rfl
theorem wd_578 : (Jvm.Cond.selects "java/lang/UnsupportedOperationException" ({ cls := "java/lang/Object", name := "getClass", desc := "()Ljava/lang/Class;" } : Jvm.MethodName) ({ cls := "java/lang/Object", name := "getClass", desc := "()Ljava/lang/Class;" } : Jvm.MethodName)) ∈ WALL := wl3 51 (by decide +kernel) rfl
theorem wd_579 : (Jvm.Cond.selects "java/util/ArrayList" ({ cls := "java/lang/Object", name := "getClass", desc := "()Ljava/lang/Class;" } : Jvm.MethodName) ({ cls := "java/lang/Object", name := "getClass", desc := "()Ljava/lang/Class;" } : Jvm.MethodName)) ∈ WALL := wl3 52 (by decide +kernel) rfl
theorem wd_580 : (Jvm.Cond.selects "java/util/NoSuchElementException" ({ cls := "java/lang/Object", name := "getClass", desc := "()Ljava/lang/Class;" } : Jvm.MethodName) ({ cls := "java/lang/Object", name := "getClass", desc := "()Ljava/lang/Class;" } : Jvm.MethodName)) ∈ WALL := wl3 53 (by decide +kernel) rfl
theorem wd_581 : (Jvm.Cond.native ({ cls := "java/lang/Object", name := "getClass", desc := "()Ljava/lang/Class;" } : Jvm.MethodName)) ∈ WALL := wl3 54 (by decide +kernel) rfl
theorem wd_582 : (Jvm.Cond.methodLink "java/util/Arrays" (300 : Nat) ({ cls := "java/util/Arrays", name := "copyOf", desc := "([Ljava/lang/Object;ILjava/lang/Class;)[Ljava/lang/Object;" } : Jvm.MethodName)) ∈ WALL := wl3 55 (by decide +kernel) rfl
theorem wd_583 : (Jvm.Cond.static ({ cls := "java/util/Arrays", name := "copyOf", desc := "([Ljava/lang/Object;ILjava/lang/Class;)[Ljava/lang/Object;" } : Jvm.MethodName)) ∈ WALL := wl3 56 (by decide +kernel) rfl
theorem wd_584 : (Jvm.Cond.code ({ cls := "java/util/Arrays", name := "copyOf", desc := "([Ljava/lang/Object;ILjava/lang/Class;)[Ljava/lang/Object;" } : Jvm.MethodName) prog_39_method_120_code (4 : Nat) (Option.some (Jvm.ClassFile.FieldType.array (Jvm.ClassFile.FieldType.object "java/lang/Object")))) ∈ WALL := wl3 57 (by decide +kernel) rfl
theorem wd_585 : (Jvm.Cond.classLink "java/util/Arrays" (110 : Nat) "[Ljava/lang/Object;") ∈ WALL := wl3 58 (by decide +kernel) rfl
theorem wd_587 : (Jvm.Cond.classLink "java/util/Arrays" (2 : Nat) "java/lang/Object") ∈ WALL := wl3 60 (by decide +kernel) rfl
theorem wd_588 : (Jvm.Cond.methodLink "java/util/Arrays" (304 : Nat) ({ cls := "java/lang/Math", name := "min", desc := "(II)I" } : Jvm.MethodName)) ∈ WALL := wl3 61 (by decide +kernel) rfl
theorem wd_589 : (Jvm.Cond.methodLink "java/util/Arrays" (150 : Nat) ({ cls := "java/lang/System", name := "arraycopy", desc := "(Ljava/lang/Object;ILjava/lang/Object;II)V" } : Jvm.MethodName)) ∈ WALL := wl3 62 (by decide +kernel) rfl
theorem wd_590 : (Jvm.Cond.static ({ cls := "java/lang/System", name := "arraycopy", desc := "(Ljava/lang/Object;ILjava/lang/Object;II)V" } : Jvm.MethodName)) ∈ WALL := wl3 63 (by decide +kernel) rfl
theorem wd_591 : (Jvm.Cond.native ({ cls := "java/lang/System", name := "arraycopy", desc := "(Ljava/lang/Object;ILjava/lang/Object;II)V" } : Jvm.MethodName)) ∈ WALL := wl3 64 (by decide +kernel) rfl
theorem wd_592 : (Jvm.Cond.methodLink "java/util/ArrayList" (79 : Nat) ({ cls := "java/lang/Math", name := "max", desc := "(II)I" } : Jvm.MethodName)) ∈ WALL := wl3 65 (by decide +kernel) rfl
theorem wd_593 : (Jvm.Cond.classLink "java/util/ArrayList" (7 : Nat) "java/lang/Object") ∈ WALL := wl3 66 (by decide +kernel) rfl
theorem wd_594 : (Jvm.Cond.methodLink "StormBasinLaw" (138 : Nat) ({ cls := "StormBasinLaw", name := "addCell", desc := "(LStormBasin;II[J)I" } : Jvm.MethodName)) ∈ WALL := wl3 67 (by decide +kernel) rfl
theorem wd_595 : (Jvm.Cond.static ({ cls := "StormBasinLaw", name := "addCell", desc := "(LStormBasin;II[J)I" } : Jvm.MethodName)) ∈ WALL := wl3 68 (by decide +kernel) rfl
theorem wd_596 : (Jvm.Cond.codeWith ({ cls := "StormBasinLaw", name := "addCell", desc := "(LStormBasin;II[J)I" } : Jvm.MethodName) method_4_code (5 : Nat) (Option.some Jvm.ClassFile.FieldType.int) [((0 : Nat), (10 : Nat), (13 : Nat), (13 : Nat)), ((0 : Nat), (10 : Nat), (17 : Nat), (15 : Nat)), ((0 : Nat), (10 : Nat), (21 : Nat), (17 : Nat))]) ∈ WALL := wl3 69 (by decide +kernel) rfl
theorem wd_597 : (Jvm.Cond.methodLink "StormBasinLaw" (19 : Nat) ({ cls := "StormBasin", name := "addCell", desc := "(II)I" } : Jvm.MethodName)) ∈ WALL := wl3 70 (by decide +kernel) rfl
theorem wd_598 : (Jvm.Cond.instanceMethod ({ cls := "StormBasin", name := "addCell", desc := "(II)I" } : Jvm.MethodName)) ∈ WALL := wl3 71 (by decide +kernel) rfl
theorem wd_599 : (Jvm.Cond.selects "StormBasin" ({ cls := "StormBasin", name := "addCell", desc := "(II)I" } : Jvm.MethodName) ({ cls := "StormBasin", name := "addCell", desc := "(II)I" } : Jvm.MethodName)) ∈ WALL := wl3 72 (by decide +kernel) rfl
theorem wd_600 : (Jvm.Cond.code ({ cls := "StormBasin", name := "addCell", desc := "(II)I" } : Jvm.MethodName) prog_1_method_3_code (4 : Nat) (Option.some Jvm.ClassFile.FieldType.int)) ∈ WALL := wl3 73 (by decide +kernel) rfl
theorem wd_601 : (Jvm.Cond.methodLink "StormBasin" (80 : Nat) ({ cls := "StormBasin", name := "basinOf", desc := "(I)LStormBasin$Basin;" } : Jvm.MethodName)) ∈ WALL := wl3 74 (by decide +kernel) rfl
theorem wd_603 : (Jvm.Cond.instanceMethod ({ cls := "StormBasin", name := "basinOf", desc := "(I)LStormBasin$Basin;" } : Jvm.MethodName)) ∈ WALL := wl3 76 (by decide +kernel) rfl
theorem wd_604 : (Jvm.Cond.code ({ cls := "StormBasin", name := "basinOf", desc := "(I)LStormBasin$Basin;" } : Jvm.MethodName) prog_1_method_51_code (2 : Nat) (Option.some (Jvm.ClassFile.FieldType.object "StormBasin$Basin"))) ∈ WALL := wl3 77 (by decide +kernel) rfl
theorem wd_605 : (Jvm.Cond.methodLink "StormBasin" (108 : Nat) ({ cls := "StormBasin", name := "requireBasin", desc := "(I)V" } : Jvm.MethodName)) ∈ WALL := wl3 78 (by decide +kernel) rfl
theorem wd_607 : (Jvm.Cond.instanceMethod ({ cls := "StormBasin", name := "requireBasin", desc := "(I)V" } : Jvm.MethodName)) ∈ WALL := wl3 80 (by decide +kernel) rfl
theorem wd_608 : (Jvm.Cond.code ({ cls := "StormBasin", name := "requireBasin", desc := "(I)V" } : Jvm.MethodName) prog_1_method_49_code (2 : Nat) (Option.none : Option Jvm.ClassFile.FieldType)) ∈ WALL := wl3 81 (by decide +kernel) rfl
theorem wd_611 : (Jvm.Cond.methodLink "StormBasin" (96 : Nat) ({ cls := "StormBasin$Street", name := "append", desc := "(I)V" } : Jvm.MethodName)) ∈ WALL := wl3 84 (by decide +kernel) rfl
theorem wd_612 : (Jvm.Cond.instanceMethod ({ cls := "StormBasin$Street", name := "append", desc := "(I)V" } : Jvm.MethodName)) ∈ WALL := wl3 85 (by decide +kernel) rfl
theorem wd_613 : (Jvm.Cond.selects "StormBasin$Street" ({ cls := "StormBasin$Street", name := "append", desc := "(I)V" } : Jvm.MethodName) ({ cls := "StormBasin$Street", name := "append", desc := "(I)V" } : Jvm.MethodName)) ∈ WALL := wl3 86 (by decide +kernel) rfl
theorem wd_614 : (Jvm.Cond.code ({ cls := "StormBasin$Street", name := "append", desc := "(I)V" } : Jvm.MethodName) prog_5_method_2_code (3 : Nat) (Option.none : Option Jvm.ClassFile.FieldType)) ∈ WALL := wl3 87 (by decide +kernel) rfl
theorem wd_615 : (Jvm.Cond.methodLink "StormBasin$Street" (28 : Nat) ({ cls := "StormBasin$Street", name := "volumeBefore", desc := "(I)I" } : Jvm.MethodName)) ∈ WALL := wl3 88 (by decide +kernel) rfl
theorem wd_617 : (Jvm.Cond.instanceMethod ({ cls := "StormBasin$Street", name := "volumeBefore", desc := "(I)I" } : Jvm.MethodName)) ∈ WALL := wl3 90 (by decide +kernel) rfl
theorem wd_618 : (Jvm.Cond.code ({ cls := "StormBasin$Street", name := "volumeBefore", desc := "(I)I" } : Jvm.MethodName) prog_5_method_3_code (4 : Nat) (Option.some Jvm.ClassFile.FieldType.int)) ∈ WALL := wl3 91 (by decide +kernel) rfl
theorem wd_619 : (Jvm.Cond.methodLink "StormBasin$Street" (32 : Nat) ({ cls := "StormBasin$Street", name := "cellsAhead", desc := "(II)I" } : Jvm.MethodName)) ∈ WALL := wl3 92 (by decide +kernel) rfl
theorem wd_621 : (Jvm.Cond.instanceMethod ({ cls := "StormBasin$Street", name := "cellsAhead", desc := "(II)I" } : Jvm.MethodName)) ∈ WALL := wl3 94 (by decide +kernel) rfl
theorem wd_622 : (Jvm.Cond.code ({ cls := "StormBasin$Street", name := "cellsAhead", desc := "(II)I" } : Jvm.MethodName) prog_5_method_8_code (5 : Nat) (Option.some Jvm.ClassFile.FieldType.int)) ∈ WALL := wl3 95 (by decide +kernel) rfl
theorem wd_623 : (Jvm.Cond.methodLink "StormBasin$Street" (36 : Nat) ({ cls := "java/lang/Math", name := "max", desc := "(II)I" } : Jvm.MethodName)) ∈ WALL := wl3 96 (by decide +kernel) rfl
theorem wd_624 : (Jvm.Cond.methodLink "StormBasinLaw" (146 : Nat) ({ cls := "StormBasinLaw", name := "cellCount", desc := "(LStormBasin;I[J)I" } : Jvm.MethodName)) ∈ WALL := wl3 97 (by decide +kernel) rfl
theorem wd_625 : (Jvm.Cond.static ({ cls := "StormBasinLaw", name := "cellCount", desc := "(LStormBasin;I[J)I" } : Jvm.MethodName)) ∈ WALL := wl3 98 (by decide +kernel) rfl
theorem wd_626 : (Jvm.Cond.codeWith ({ cls := "StormBasinLaw", name := "cellCount", desc := "(LStormBasin;I[J)I" } : Jvm.MethodName) method_5_code (4 : Nat) (Option.some Jvm.ClassFile.FieldType.int) [((0 : Nat), (9 : Nat), (12 : Nat), (13 : Nat))]) ∈ WALL := wl3 99 (by decide +kernel) rfl
theorem wd_627 : (Jvm.Cond.methodLink "StormBasinLaw" (23 : Nat) ({ cls := "StormBasin", name := "cellCount", desc := "(I)I" } : Jvm.MethodName)) ∈ WALL := wl3 100 (by decide +kernel) rfl
theorem wd_628 : (Jvm.Cond.instanceMethod ({ cls := "StormBasin", name := "cellCount", desc := "(I)I" } : Jvm.MethodName)) ∈ WALL := wl3 101 (by decide +kernel) rfl
theorem wd_629 : (Jvm.Cond.selects "StormBasin" ({ cls := "StormBasin", name := "cellCount", desc := "(I)I" } : Jvm.MethodName) ({ cls := "StormBasin", name := "cellCount", desc := "(I)I" } : Jvm.MethodName)) ∈ WALL := wl3 102 (by decide +kernel) rfl
theorem wd_630 : (Jvm.Cond.code ({ cls := "StormBasin", name := "cellCount", desc := "(I)I" } : Jvm.MethodName) prog_1_method_5_code (2 : Nat) (Option.some Jvm.ClassFile.FieldType.int)) ∈ WALL := wl3 103 (by decide +kernel) rfl
theorem wd_631 : (Jvm.Cond.methodLink "StormBasinLaw" (150 : Nat) ({ cls := "StormBasinLaw", name := "capacityOf", desc := "(LStormBasin;I[J)I" } : Jvm.MethodName)) ∈ WALL := wl3 104 (by decide +kernel) rfl
theorem wd_632 : (Jvm.Cond.static ({ cls := "StormBasinLaw", name := "capacityOf", desc := "(LStormBasin;I[J)I" } : Jvm.MethodName)) ∈ WALL := wl3 105 (by decide +kernel) rfl
theorem wd_633 : (Jvm.Cond.codeWith ({ cls := "StormBasinLaw", name := "capacityOf", desc := "(LStormBasin;I[J)I" } : Jvm.MethodName) method_6_code (4 : Nat) (Option.some Jvm.ClassFile.FieldType.int) [((0 : Nat), (9 : Nat), (12 : Nat), (13 : Nat))]) ∈ WALL := wl3 106 (by decide +kernel) rfl
theorem wd_634 : (Jvm.Cond.methodLink "StormBasinLaw" (27 : Nat) ({ cls := "StormBasin", name := "capacityOf", desc := "(I)I" } : Jvm.MethodName)) ∈ WALL := wl3 107 (by decide +kernel) rfl
theorem wd_635 : (Jvm.Cond.instanceMethod ({ cls := "StormBasin", name := "capacityOf", desc := "(I)I" } : Jvm.MethodName)) ∈ WALL := wl3 108 (by decide +kernel) rfl
theorem wd_636 : (Jvm.Cond.selects "StormBasin" ({ cls := "StormBasin", name := "capacityOf", desc := "(I)I" } : Jvm.MethodName) ({ cls := "StormBasin", name := "capacityOf", desc := "(I)I" } : Jvm.MethodName)) ∈ WALL := wl3 109 (by decide +kernel) rfl
theorem wd_637 : (Jvm.Cond.code ({ cls := "StormBasin", name := "capacityOf", desc := "(I)I" } : Jvm.MethodName) prog_1_method_6_code (2 : Nat) (Option.some Jvm.ClassFile.FieldType.int)) ∈ WALL := wl3 110 (by decide +kernel) rfl
theorem wd_638 : (Jvm.Cond.methodLink "StormBasinLaw" (153 : Nat) ({ cls := "StormBasinLaw", name := "setHand", desc := "(LStormBasin;II[J)I" } : Jvm.MethodName)) ∈ WALL := wl3 111 (by decide +kernel) rfl
theorem wd_639 : (Jvm.Cond.static ({ cls := "StormBasinLaw", name := "setHand", desc := "(LStormBasin;II[J)I" } : Jvm.MethodName)) ∈ WALL := wl3 112 (by decide +kernel) rfl
theorem wd_640 : (Jvm.Cond.codeWith ({ cls := "StormBasinLaw", name := "setHand", desc := "(LStormBasin;II[J)I" } : Jvm.MethodName) method_7_code (5 : Nat) (Option.some Jvm.ClassFile.FieldType.int) [((0 : Nat), (10 : Nat), (13 : Nat), (13 : Nat)), ((0 : Nat), (10 : Nat), (17 : Nat), (15 : Nat))]) ∈ WALL := wl3 113 (by decide +kernel) rfl
theorem wd_641 : (Jvm.Cond.methodLink "StormBasinLaw" (30 : Nat) ({ cls := "StormBasin", name := "setHand", desc := "(II)I" } : Jvm.MethodName)) ∈ WALL := wl3 114 (by decide +kernel) rfl
theorem wd_642 : (Jvm.Cond.instanceMethod ({ cls := "StormBasin", name := "setHand", desc := "(II)I" } : Jvm.MethodName)) ∈ WALL := wl3 115 (by decide +kernel) rfl
theorem wd_643 : (Jvm.Cond.selects "StormBasin" ({ cls := "StormBasin", name := "setHand", desc := "(II)I" } : Jvm.MethodName) ({ cls := "StormBasin", name := "setHand", desc := "(II)I" } : Jvm.MethodName)) ∈ WALL := wl3 116 (by decide +kernel) rfl
theorem wd_644 : (Jvm.Cond.code ({ cls := "StormBasin", name := "setHand", desc := "(II)I" } : Jvm.MethodName) prog_1_method_7_code (5 : Nat) (Option.some Jvm.ClassFile.FieldType.int)) ∈ WALL := wl3 117 (by decide +kernel) rfl
theorem wd_645 : (Jvm.Cond.methodLink "StormBasin" (102 : Nat) ({ cls := "StormBasin", name := "requireOpening", desc := "(I)V" } : Jvm.MethodName)) ∈ WALL := wl3 118 (by decide +kernel) rfl
theorem wd_646 : (Jvm.Cond.static ({ cls := "StormBasin", name := "requireOpening", desc := "(I)V" } : Jvm.MethodName)) ∈ WALL := wl3 119 (by decide +kernel) rfl
theorem wd_647 : (Jvm.Cond.code ({ cls := "StormBasin", name := "requireOpening", desc := "(I)V" } : Jvm.MethodName) prog_1_method_46_code (1 : Nat) (Option.none : Option Jvm.ClassFile.FieldType)) ∈ WALL := wl3 120 (by decide +kernel) rfl
theorem wd_649 : (Jvm.Cond.methodLink "StormBasinLaw" (156 : Nat) ({ cls := "StormBasinLaw", name := "addRule", desc := "(LStormBasin;IIZII[J)I" } : Jvm.MethodName)) ∈ WALL := wl3 122 (by decide +kernel) rfl
theorem wd_650 : (Jvm.Cond.static ({ cls := "StormBasinLaw", name := "addRule", desc := "(LStormBasin;IIZII[J)I" } : Jvm.MethodName)) ∈ WALL := wl3 123 (by decide +kernel) rfl
theorem wd_651 : (Jvm.Cond.codeWith ({ cls := "StormBasinLaw", name := "addRule", desc := "(LStormBasin;IIZII[J)I" } : Jvm.MethodName) method_8_code (8 : Nat) (Option.some Jvm.ClassFile.FieldType.int) [((0 : Nat), (16 : Nat), (19 : Nat), (13 : Nat)), ((0 : Nat), (16 : Nat), (23 : Nat), (15 : Nat)), ((0 : Nat), (16 : Nat), (27 : Nat), (17 : Nat))]) ∈ WALL := wl3 124 (by decide +kernel) rfl
theorem wd_652 : (Jvm.Cond.methodLink "StormBasinLaw" (33 : Nat) ({ cls := "StormBasin", name := "addRule", desc := "(IIZII)I" } : Jvm.MethodName)) ∈ WALL := wl3 125 (by decide +kernel) rfl
theorem wd_653 : (Jvm.Cond.instanceMethod ({ cls := "StormBasin", name := "addRule", desc := "(IIZII)I" } : Jvm.MethodName)) ∈ WALL := wl3 126 (by decide +kernel) rfl
theorem wd_654 : (Jvm.Cond.selects "StormBasin" ({ cls := "StormBasin", name := "addRule", desc := "(IIZII)I" } : Jvm.MethodName) ({ cls := "StormBasin", name := "addRule", desc := "(IIZII)I" } : Jvm.MethodName)) ∈ WALL := wl3 127 (by decide +kernel) rfl
theorem wd_655 : (Jvm.Cond.code ({ cls := "StormBasin", name := "addRule", desc := "(IIZII)I" } : Jvm.MethodName) prog_1_method_8_code (6 : Nat) (Option.some Jvm.ClassFile.FieldType.int)) ∈ WALL := wl3 128 (by decide +kernel) rfl
theorem wd_658 : (Jvm.Cond.instantiable "StormBasin$Rule" (5 : Nat)) ∈ WALL := wl3 131 (by decide +kernel) rfl
theorem wd_659 : (Jvm.Cond.methodLink "StormBasin" (117 : Nat) ({ cls := "StormBasin$Rule", name := "<init>", desc := "(IIZII)V" } : Jvm.MethodName)) ∈ WALL := wl3 132 (by decide +kernel) rfl
theorem wd_660 : (Jvm.Cond.instanceMethod ({ cls := "StormBasin$Rule", name := "<init>", desc := "(IIZII)V" } : Jvm.MethodName)) ∈ WALL := wl3 133 (by decide +kernel) rfl
theorem wd_661 : (Jvm.Cond.code ({ cls := "StormBasin$Rule", name := "<init>", desc := "(IIZII)V" } : Jvm.MethodName) prog_4_method_1_code (6 : Nat) (Option.none : Option Jvm.ClassFile.FieldType)) ∈ WALL := wl3 134 (by decide +kernel) rfl
theorem wd_662 : (Jvm.Cond.methodLink "StormBasin$Rule" (1 : Nat) ({ cls := "java/lang/Object", name := "<init>", desc := "()V" } : Jvm.MethodName)) ∈ WALL := wl3 135 (by decide +kernel) rfl
theorem wd_663 : (Jvm.Cond.fieldLink "StormBasin$Rule" (7 : Nat) "StormBasin$Rule" "basin" "I") ∈ WALL := wl3 136 (by decide +kernel) rfl
theorem wd_664 : (Jvm.Cond.fieldLink "StormBasin" (269 : Nat) "StormBasin$Rule" "basin" "I") ∈ WALL := wl3 137 (by decide +kernel) rfl
theorem wd_665 : (Jvm.Cond.fieldLink "StormBasin$Rule" (13 : Nat) "StormBasin$Rule" "observed" "I") ∈ WALL := wl3 138 (by decide +kernel) rfl
theorem wd_666 : (Jvm.Cond.fieldLink "StormBasin" (278 : Nat) "StormBasin$Rule" "observed" "I") ∈ WALL := wl3 139 (by decide +kernel) rfl
theorem wd_667 : (Jvm.Cond.fieldLink "StormBasin$Rule" (16 : Nat) "StormBasin$Rule" "isFrom" "Z") ∈ WALL := wl3 140 (by decide +kernel) rfl
theorem wd_668 : (Jvm.Cond.fieldLink "StormBasin" (281 : Nat) "StormBasin$Rule" "isFrom" "Z") ∈ WALL := wl3 141 (by decide +kernel) rfl
theorem wd_669 : (Jvm.Cond.fieldLink "StormBasin$Rule" (20 : Nat) "StormBasin$Rule" "level" "I") ∈ WALL := wl3 142 (by decide +kernel) rfl
theorem wd_670 : (Jvm.Cond.fieldLink "StormBasin" (285 : Nat) "StormBasin$Rule" "level" "I") ∈ WALL := wl3 143 (by decide +kernel) rfl
theorem wd_671 : (Jvm.Cond.fieldLink "StormBasin$Rule" (23 : Nat) "StormBasin$Rule" "opening" "I") ∈ WALL := wl3 144 (by decide +kernel) rfl
theorem wd_672 : (Jvm.Cond.fieldLink "StormBasin" (288 : Nat) "StormBasin$Rule" "opening" "I") ∈ WALL := wl3 145 (by decide +kernel) rfl
theorem wd_673 : (Jvm.Cond.laysFinal "StormBasin$Rule" "StormBasin$Rule" "basin" "I") ∈ WALL := wl3 146 (by decide +kernel) rfl
theorem wd_675 : (Jvm.Cond.laysFinal "StormBasin$Rule" "StormBasin$Rule" "observed" "I") ∈ WALL := wl3 148 (by decide +kernel) rfl
theorem wd_677 : (Jvm.Cond.laysFinal "StormBasin$Rule" "StormBasin$Rule" "isFrom" "Z") ∈ WALL := wl3 150 (by decide +kernel) rfl
theorem wd_679 : (Jvm.Cond.laysFinal "StormBasin$Rule" "StormBasin$Rule" "level" "I") ∈ WALL := wl3 152 (by decide +kernel) rfl
theorem wd_681 : (Jvm.Cond.laysFinal "StormBasin$Rule" "StormBasin$Rule" "opening" "I") ∈ WALL := wl3 154 (by decide +kernel) rfl
theorem wd_683 : (Jvm.Cond.superclass "StormBasin$Rule" "java/lang/Object") ∈ WALL := wl3 156 (by decide +kernel) rfl
theorem wd_684 : (Jvm.Cond.methodLink "StormBasinLaw" (160 : Nat) ({ cls := "StormBasinLaw", name := "removeRule", desc := "(LStormBasin;I[J)I" } : Jvm.MethodName)) ∈ WALL := wl3 157 (by decide +kernel) rfl
theorem wd_685 : (Jvm.Cond.static ({ cls := "StormBasinLaw", name := "removeRule", desc := "(LStormBasin;I[J)I" } : Jvm.MethodName)) ∈ WALL := wl3 158 (by decide +kernel) rfl
theorem wd_686 : (Jvm.Cond.codeWith ({ cls := "StormBasinLaw", name := "removeRule", desc := "(LStormBasin;I[J)I" } : Jvm.MethodName) method_9_code (4 : Nat) (Option.some Jvm.ClassFile.FieldType.int) [((0 : Nat), (9 : Nat), (12 : Nat), (13 : Nat))]) ∈ WALL := wl3 159 (by decide +kernel) rfl
theorem wd_687 : (Jvm.Cond.methodLink "StormBasinLaw" (37 : Nat) ({ cls := "StormBasin", name := "removeRule", desc := "(I)I" } : Jvm.MethodName)) ∈ WALL := wl3 160 (by decide +kernel) rfl
theorem wd_688 : (Jvm.Cond.instanceMethod ({ cls := "StormBasin", name := "removeRule", desc := "(I)I" } : Jvm.MethodName)) ∈ WALL := wl3 161 (by decide +kernel) rfl
theorem wd_689 : (Jvm.Cond.selects "StormBasin" ({ cls := "StormBasin", name := "removeRule", desc := "(I)I" } : Jvm.MethodName) ({ cls := "StormBasin", name := "removeRule", desc := "(I)I" } : Jvm.MethodName)) ∈ WALL := wl3 162 (by decide +kernel) rfl
theorem wd_690 : (Jvm.Cond.code ({ cls := "StormBasin", name := "removeRule", desc := "(I)I" } : Jvm.MethodName) prog_1_method_9_code (2 : Nat) (Option.some Jvm.ClassFile.FieldType.int)) ∈ WALL := wl3 163 (by decide +kernel) rfl
theorem wd_691 : (Jvm.Cond.methodLink "StormBasin" (120 : Nat) ({ cls := "StormBasin", name := "requireRule", desc := "(I)V" } : Jvm.MethodName)) ∈ WALL := wl3 164 (by decide +kernel) rfl
theorem wd_693 : (Jvm.Cond.instanceMethod ({ cls := "StormBasin", name := "requireRule", desc := "(I)V" } : Jvm.MethodName)) ∈ WALL := wl3 166 (by decide +kernel) rfl
theorem wd_694 : (Jvm.Cond.code ({ cls := "StormBasin", name := "requireRule", desc := "(I)V" } : Jvm.MethodName) prog_1_method_50_code (2 : Nat) (Option.none : Option Jvm.ClassFile.FieldType)) ∈ WALL := wl3 167 (by decide +kernel) rfl
theorem wd_696 : (Jvm.Cond.methodLink "StormBasin" (123 : Nat) ({ cls := "java/util/ArrayList", name := "remove", desc := "(I)Ljava/lang/Object;" } : Jvm.MethodName)) ∈ WALL := wl3 169 (by decide +kernel) rfl
theorem wd_697 : (Jvm.Cond.instanceMethod ({ cls := "java/util/ArrayList", name := "remove", desc := "(I)Ljava/lang/Object;" } : Jvm.MethodName)) ∈ WALL := wl3 170 (by decide +kernel) rfl
theorem wd_698 : (Jvm.Cond.selects "java/util/ArrayList" ({ cls := "java/util/ArrayList", name := "remove", desc := "(I)Ljava/lang/Object;" } : Jvm.MethodName) ({ cls := "java/util/ArrayList", name := "remove", desc := "(I)Ljava/lang/Object;" } : Jvm.MethodName)) ∈ WALL := wl3 171 (by decide +kernel) rfl
theorem wd_699 : (Jvm.Cond.code ({ cls := "java/util/ArrayList", name := "remove", desc := "(I)Ljava/lang/Object;" } : Jvm.MethodName) prog_38_method_29_code (4 : Nat) (Option.some (Jvm.ClassFile.FieldType.object "java/lang/Object"))) ∈ WALL := wl3 172 (by decide +kernel) rfl
theorem wd_700 : (Jvm.Cond.methodLink "java/util/ArrayList" (144 : Nat) ({ cls := "java/util/ArrayList", name := "fastRemove", desc := "([Ljava/lang/Object;I)V" } : Jvm.MethodName)) ∈ WALL := wl3 173 (by decide +kernel) rfl
theorem wd_702 : (Jvm.Cond.instanceMethod ({ cls := "java/util/ArrayList", name := "fastRemove", desc := "([Ljava/lang/Object;I)V" } : Jvm.MethodName)) ∈ WALL := wl3 175 (by decide +kernel) rfl
theorem wd_703 : (Jvm.Cond.code ({ cls := "java/util/ArrayList", name := "fastRemove", desc := "([Ljava/lang/Object;I)V" } : Jvm.MethodName) prog_38_method_39_code (4 : Nat) (Option.none : Option Jvm.ClassFile.FieldType)) ∈ WALL := wl3 176 (by decide +kernel) rfl
theorem wd_704 : (Jvm.Cond.methodLink "java/util/ArrayList" (112 : Nat) ({ cls := "java/lang/System", name := "arraycopy", desc := "(Ljava/lang/Object;ILjava/lang/Object;II)V" } : Jvm.MethodName)) ∈ WALL := wl3 177 (by decide +kernel) rfl
theorem wd_705 : (Jvm.Cond.methodLink "StormBasinLaw" (167 : Nat) ({ cls := "StormBasinLaw", name := "doesHold", desc := "(LStormBasin;I[J)I" } : Jvm.MethodName)) ∈ WALL := wl3 178 (by decide +kernel) rfl
theorem wd_706 : (Jvm.Cond.static ({ cls := "StormBasinLaw", name := "doesHold", desc := "(LStormBasin;I[J)I" } : Jvm.MethodName)) ∈ WALL := wl3 179 (by decide +kernel) rfl
theorem wd_707 : (Jvm.Cond.codeWith ({ cls := "StormBasinLaw", name := "doesHold", desc := "(LStormBasin;I[J)I" } : Jvm.MethodName) method_10_code (4 : Nat) (Option.some Jvm.ClassFile.FieldType.int) [((0 : Nat), (16 : Nat), (19 : Nat), (13 : Nat))]) ∈ WALL := wl3 180 (by decide +kernel) rfl
theorem wd_708 : (Jvm.Cond.methodLink "StormBasinLaw" (40 : Nat) ({ cls := "StormBasin", name := "doesHold", desc := "(I)Z" } : Jvm.MethodName)) ∈ WALL := wl3 181 (by decide +kernel) rfl
theorem wd_709 : (Jvm.Cond.instanceMethod ({ cls := "StormBasin", name := "doesHold", desc := "(I)Z" } : Jvm.MethodName)) ∈ WALL := wl3 182 (by decide +kernel) rfl
theorem wd_710 : (Jvm.Cond.selects "StormBasin" ({ cls := "StormBasin", name := "doesHold", desc := "(I)Z" } : Jvm.MethodName) ({ cls := "StormBasin", name := "doesHold", desc := "(I)Z" } : Jvm.MethodName)) ∈ WALL := wl3 183 (by decide +kernel) rfl
theorem wd_711 : (Jvm.Cond.code ({ cls := "StormBasin", name := "doesHold", desc := "(I)Z" } : Jvm.MethodName) prog_1_method_11_code (2 : Nat) (Option.some Jvm.ClassFile.FieldType.boolean)) ∈ WALL := wl3 184 (by decide +kernel) rfl
theorem wd_712 : (Jvm.Cond.methodLink "StormBasinLaw" (170 : Nat) ({ cls := "StormBasinLaw", name := "openingNow", desc := "(LStormBasin;I[J)I" } : Jvm.MethodName)) ∈ WALL := wl3 185 (by decide +kernel) rfl
theorem wd_713 : (Jvm.Cond.static ({ cls := "StormBasinLaw", name := "openingNow", desc := "(LStormBasin;I[J)I" } : Jvm.MethodName)) ∈ WALL := wl3 186 (by decide +kernel) rfl
theorem wd_714 : (Jvm.Cond.codeWith ({ cls := "StormBasinLaw", name := "openingNow", desc := "(LStormBasin;I[J)I" } : Jvm.MethodName) method_11_code (4 : Nat) (Option.some Jvm.ClassFile.FieldType.int) [((0 : Nat), (9 : Nat), (12 : Nat), (13 : Nat))]) ∈ WALL := wl3 187 (by decide +kernel) rfl
theorem wd_715 : (Jvm.Cond.methodLink "StormBasinLaw" (44 : Nat) ({ cls := "StormBasin", name := "openingNow", desc := "(I)I" } : Jvm.MethodName)) ∈ WALL := wl3 188 (by decide +kernel) rfl
theorem wd_716 : (Jvm.Cond.instanceMethod ({ cls := "StormBasin", name := "openingNow", desc := "(I)I" } : Jvm.MethodName)) ∈ WALL := wl3 189 (by decide +kernel) rfl
theorem wd_717 : (Jvm.Cond.selects "StormBasin" ({ cls := "StormBasin", name := "openingNow", desc := "(I)I" } : Jvm.MethodName) ({ cls := "StormBasin", name := "openingNow", desc := "(I)I" } : Jvm.MethodName)) ∈ WALL := wl3 190 (by decide +kernel) rfl
theorem wd_718 : (Jvm.Cond.code ({ cls := "StormBasin", name := "openingNow", desc := "(I)I" } : Jvm.MethodName) prog_1_method_12_code (2 : Nat) (Option.some Jvm.ClassFile.FieldType.int)) ∈ WALL := wl3 191 (by decide +kernel) rfl
theorem wd_719 : (Jvm.Cond.methodLink "StormBasinLaw" (173 : Nat) ({ cls := "StormBasinLaw", name := "setRain", desc := "(LStormBasin;II[J)I" } : Jvm.MethodName)) ∈ WALL := wl3 192 (by decide +kernel) rfl
theorem wd_720 : (Jvm.Cond.static ({ cls := "StormBasinLaw", name := "setRain", desc := "(LStormBasin;II[J)I" } : Jvm.MethodName)) ∈ WALL := wl3 193 (by decide +kernel) rfl
theorem wd_721 : (Jvm.Cond.codeWith ({ cls := "StormBasinLaw", name := "setRain", desc := "(LStormBasin;II[J)I" } : Jvm.MethodName) method_12_code (5 : Nat) (Option.some Jvm.ClassFile.FieldType.int) [((0 : Nat), (10 : Nat), (13 : Nat), (13 : Nat)), ((0 : Nat), (10 : Nat), (17 : Nat), (15 : Nat))]) ∈ WALL := wl3 194 (by decide +kernel) rfl
theorem wd_722 : (Jvm.Cond.methodLink "StormBasinLaw" (47 : Nat) ({ cls := "StormBasin", name := "setRain", desc := "(II)I" } : Jvm.MethodName)) ∈ WALL := wl3 195 (by decide +kernel) rfl
theorem wd_723 : (Jvm.Cond.instanceMethod ({ cls := "StormBasin", name := "setRain", desc := "(II)I" } : Jvm.MethodName)) ∈ WALL := wl3 196 (by decide +kernel) rfl
theorem wd_724 : (Jvm.Cond.selects "StormBasin" ({ cls := "StormBasin", name := "setRain", desc := "(II)I" } : Jvm.MethodName) ({ cls := "StormBasin", name := "setRain", desc := "(II)I" } : Jvm.MethodName)) ∈ WALL := wl3 197 (by decide +kernel) rfl
theorem wd_725 : (Jvm.Cond.code ({ cls := "StormBasin", name := "setRain", desc := "(II)I" } : Jvm.MethodName) prog_1_method_13_code (5 : Nat) (Option.some Jvm.ClassFile.FieldType.int)) ∈ WALL := wl3 198 (by decide +kernel) rfl
theorem wd_727 : (Jvm.Cond.methodLink "StormBasinLaw" (176 : Nat) ({ cls := "StormBasinLaw", name := "pass", desc := "(LStormBasin;I[J)I" } : Jvm.MethodName)) ∈ WALL := wl3 200 (by decide +kernel) rfl
theorem wd_728 : (Jvm.Cond.static ({ cls := "StormBasinLaw", name := "pass", desc := "(LStormBasin;I[J)I" } : Jvm.MethodName)) ∈ WALL := wl3 201 (by decide +kernel) rfl
theorem wd_729 : (Jvm.Cond.codeWith ({ cls := "StormBasinLaw", name := "pass", desc := "(LStormBasin;I[J)I" } : Jvm.MethodName) method_13_code (4 : Nat) (Option.some Jvm.ClassFile.FieldType.int) [((0 : Nat), (9 : Nat), (12 : Nat), (15 : Nat)), ((0 : Nat), (9 : Nat), (15 : Nat), (17 : Nat))]) ∈ WALL := wl3 202 (by decide +kernel) rfl
theorem wd_730 : (Jvm.Cond.methodLink "StormBasinLaw" (50 : Nat) ({ cls := "StormBasin", name := "pass", desc := "(I)I" } : Jvm.MethodName)) ∈ WALL := wl3 203 (by decide +kernel) rfl
theorem wd_731 : (Jvm.Cond.instanceMethod ({ cls := "StormBasin", name := "pass", desc := "(I)I" } : Jvm.MethodName)) ∈ WALL := wl3 204 (by decide +kernel) rfl
theorem wd_732 : (Jvm.Cond.selects "StormBasin" ({ cls := "StormBasin", name := "pass", desc := "(I)I" } : Jvm.MethodName) ({ cls := "StormBasin", name := "pass", desc := "(I)I" } : Jvm.MethodName)) ∈ WALL := wl3 205 (by decide +kernel) rfl
theorem wd_733 : (Jvm.Cond.code ({ cls := "StormBasin", name := "pass", desc := "(I)I" } : Jvm.MethodName) prog_1_method_14_code (3 : Nat) (Option.some Jvm.ClassFile.FieldType.int)) ∈ WALL := wl3 206 (by decide +kernel) rfl
theorem wd_735 : (Jvm.Cond.methodLink "StormBasin" (145 : Nat) ({ cls := "java/util/ArrayList", name := "isEmpty", desc := "()Z" } : Jvm.MethodName)) ∈ WALL := wl3 208 (by decide +kernel) rfl
theorem wd_736 : (Jvm.Cond.instanceMethod ({ cls := "java/util/ArrayList", name := "isEmpty", desc := "()Z" } : Jvm.MethodName)) ∈ WALL := wl3 209 (by decide +kernel) rfl
theorem wd_737 : (Jvm.Cond.selects "java/util/ArrayList" ({ cls := "java/util/ArrayList", name := "isEmpty", desc := "()Z" } : Jvm.MethodName) ({ cls := "java/util/ArrayList", name := "isEmpty", desc := "()Z" } : Jvm.MethodName)) ∈ WALL := wl3 210 (by decide +kernel) rfl
theorem wd_738 : (Jvm.Cond.code ({ cls := "java/util/ArrayList", name := "isEmpty", desc := "()Z" } : Jvm.MethodName) prog_38_method_9_code (1 : Nat) (Option.some Jvm.ClassFile.FieldType.boolean)) ∈ WALL := wl3 211 (by decide +kernel) rfl
theorem wd_741 : (Jvm.Cond.methodLink "StormBasin" (156 : Nat) ({ cls := "StormBasin", name := "passOneHour", desc := "()V" } : Jvm.MethodName)) ∈ WALL := wl3 214 (by decide +kernel) rfl
theorem wd_743 : (Jvm.Cond.instanceMethod ({ cls := "StormBasin", name := "passOneHour", desc := "()V" } : Jvm.MethodName)) ∈ WALL := wl3 216 (by decide +kernel) rfl
theorem wd_744 : (Jvm.Cond.code ({ cls := "StormBasin", name := "passOneHour", desc := "()V" } : Jvm.MethodName) prog_1_method_54_code (4 : Nat) (Option.none : Option Jvm.ClassFile.FieldType)) ∈ WALL := wl3 217 (by decide +kernel) rfl
theorem wd_745 : (Jvm.Cond.methodLink "StormBasinLaw" (183 : Nat) ({ cls := "StormBasinLaw", name := "volumeOf", desc := "(LStormBasin;I[J)I" } : Jvm.MethodName)) ∈ WALL := wl3 218 (by decide +kernel) rfl
theorem wd_746 : (Jvm.Cond.static ({ cls := "StormBasinLaw", name := "volumeOf", desc := "(LStormBasin;I[J)I" } : Jvm.MethodName)) ∈ WALL := wl3 219 (by decide +kernel) rfl
theorem wd_747 : (Jvm.Cond.codeWith ({ cls := "StormBasinLaw", name := "volumeOf", desc := "(LStormBasin;I[J)I" } : Jvm.MethodName) method_14_code (4 : Nat) (Option.some Jvm.ClassFile.FieldType.int) [((0 : Nat), (9 : Nat), (12 : Nat), (13 : Nat))]) ∈ WALL := wl3 220 (by decide +kernel) rfl
theorem wd_748 : (Jvm.Cond.methodLink "StormBasinLaw" (53 : Nat) ({ cls := "StormBasin", name := "volumeOf", desc := "(I)I" } : Jvm.MethodName)) ∈ WALL := wl3 221 (by decide +kernel) rfl
theorem wd_749 : (Jvm.Cond.instanceMethod ({ cls := "StormBasin", name := "volumeOf", desc := "(I)I" } : Jvm.MethodName)) ∈ WALL := wl3 222 (by decide +kernel) rfl
theorem wd_750 : (Jvm.Cond.selects "StormBasin" ({ cls := "StormBasin", name := "volumeOf", desc := "(I)I" } : Jvm.MethodName) ({ cls := "StormBasin", name := "volumeOf", desc := "(I)I" } : Jvm.MethodName)) ∈ WALL := wl3 223 (by decide +kernel) rfl
theorem wd_751 : (Jvm.Cond.code ({ cls := "StormBasin", name := "volumeOf", desc := "(I)I" } : Jvm.MethodName) prog_1_method_16_code (2 : Nat) (Option.some Jvm.ClassFile.FieldType.int)) ∈ WALL := wl3 224 (by decide +kernel) rfl
theorem wd_752 : (Jvm.Cond.methodLink "StormBasinLaw" (186 : Nat) ({ cls := "StormBasinLaw", name := "levelOf", desc := "(LStormBasin;I[J)I" } : Jvm.MethodName)) ∈ WALL := wl3 225 (by decide +kernel) rfl
theorem wd_753 : (Jvm.Cond.static ({ cls := "StormBasinLaw", name := "levelOf", desc := "(LStormBasin;I[J)I" } : Jvm.MethodName)) ∈ WALL := wl3 226 (by decide +kernel) rfl
theorem wd_754 : (Jvm.Cond.codeWith ({ cls := "StormBasinLaw", name := "levelOf", desc := "(LStormBasin;I[J)I" } : Jvm.MethodName) method_15_code (4 : Nat) (Option.some Jvm.ClassFile.FieldType.int) [((0 : Nat), (9 : Nat), (12 : Nat), (13 : Nat))]) ∈ WALL := wl3 227 (by decide +kernel) rfl
theorem wd_755 : (Jvm.Cond.methodLink "StormBasinLaw" (56 : Nat) ({ cls := "StormBasin", name := "levelOf", desc := "(I)I" } : Jvm.MethodName)) ∈ WALL := wl3 228 (by decide +kernel) rfl
theorem wd_756 : (Jvm.Cond.instanceMethod ({ cls := "StormBasin", name := "levelOf", desc := "(I)I" } : Jvm.MethodName)) ∈ WALL := wl3 229 (by decide +kernel) rfl
theorem wd_757 : (Jvm.Cond.selects "StormBasin" ({ cls := "StormBasin", name := "levelOf", desc := "(I)I" } : Jvm.MethodName) ({ cls := "StormBasin", name := "levelOf", desc := "(I)I" } : Jvm.MethodName)) ∈ WALL := wl3 230 (by decide +kernel) rfl
theorem wd_758 : (Jvm.Cond.code ({ cls := "StormBasin", name := "levelOf", desc := "(I)I" } : Jvm.MethodName) prog_1_method_17_code (2 : Nat) (Option.some Jvm.ClassFile.FieldType.int)) ∈ WALL := wl3 231 (by decide +kernel) rfl
theorem wd_759 : (Jvm.Cond.methodLink "StormBasinLaw" (189 : Nat) ({ cls := "StormBasinLaw", name := "streetVolume", desc := "(LStormBasin;I[J)I" } : Jvm.MethodName)) ∈ WALL := wl3 232 (by decide +kernel) rfl
theorem wd_760 : (Jvm.Cond.static ({ cls := "StormBasinLaw", name := "streetVolume", desc := "(LStormBasin;I[J)I" } : Jvm.MethodName)) ∈ WALL := wl3 233 (by decide +kernel) rfl
theorem wd_761 : (Jvm.Cond.codeWith ({ cls := "StormBasinLaw", name := "streetVolume", desc := "(LStormBasin;I[J)I" } : Jvm.MethodName) method_16_code (4 : Nat) (Option.some Jvm.ClassFile.FieldType.int) [((0 : Nat), (9 : Nat), (12 : Nat), (13 : Nat))]) ∈ WALL := wl3 234 (by decide +kernel) rfl
theorem wd_762 : (Jvm.Cond.methodLink "StormBasinLaw" (59 : Nat) ({ cls := "StormBasin", name := "streetVolume", desc := "(I)I" } : Jvm.MethodName)) ∈ WALL := wl3 235 (by decide +kernel) rfl
theorem wd_763 : (Jvm.Cond.instanceMethod ({ cls := "StormBasin", name := "streetVolume", desc := "(I)I" } : Jvm.MethodName)) ∈ WALL := wl3 236 (by decide +kernel) rfl
theorem wd_764 : (Jvm.Cond.selects "StormBasin" ({ cls := "StormBasin", name := "streetVolume", desc := "(I)I" } : Jvm.MethodName) ({ cls := "StormBasin", name := "streetVolume", desc := "(I)I" } : Jvm.MethodName)) ∈ WALL := wl3 237 (by decide +kernel) rfl
theorem wd_765 : (Jvm.Cond.code ({ cls := "StormBasin", name := "streetVolume", desc := "(I)I" } : Jvm.MethodName) prog_1_method_18_code (2 : Nat) (Option.some Jvm.ClassFile.FieldType.int)) ∈ WALL := wl3 238 (by decide +kernel) rfl
theorem wd_766 : (Jvm.Cond.methodLink "StormBasinLaw" (209 : Nat) ({ cls := "StormBasinLaw", name := "depthAt", desc := "(LStormBasin;II[J)I" } : Jvm.MethodName)) ∈ WALL := wl3 239 (by decide +kernel) rfl
theorem wd_767 : (Jvm.Cond.static ({ cls := "StormBasinLaw", name := "depthAt", desc := "(LStormBasin;II[J)I" } : Jvm.MethodName)) ∈ WALL := wl4 0 (by decide +kernel) rfl
theorem wd_768 : (Jvm.Cond.codeWith ({ cls := "StormBasinLaw", name := "depthAt", desc := "(LStormBasin;II[J)I" } : Jvm.MethodName) method_17_code (5 : Nat) (Option.some Jvm.ClassFile.FieldType.int) [((0 : Nat), (10 : Nat), (13 : Nat), (13 : Nat))]) ∈ WALL := wl4 1 (by decide +kernel) rfl
theorem wd_769 : (Jvm.Cond.methodLink "StormBasinLaw" (62 : Nat) ({ cls := "StormBasin", name := "depthAt", desc := "(II)I" } : Jvm.MethodName)) ∈ WALL := wl4 2 (by decide +kernel) rfl
theorem wd_770 : (Jvm.Cond.instanceMethod ({ cls := "StormBasin", name := "depthAt", desc := "(II)I" } : Jvm.MethodName)) ∈ WALL := wl4 3 (by decide +kernel) rfl
theorem wd_771 : (Jvm.Cond.selects "StormBasin" ({ cls := "StormBasin", name := "depthAt", desc := "(II)I" } : Jvm.MethodName) ({ cls := "StormBasin", name := "depthAt", desc := "(II)I" } : Jvm.MethodName)) ∈ WALL := wl4 4 (by decide +kernel) rfl
theorem wd_772 : (Jvm.Cond.code ({ cls := "StormBasin", name := "depthAt", desc := "(II)I" } : Jvm.MethodName) prog_1_method_23_code (4 : Nat) (Option.some Jvm.ClassFile.FieldType.int)) ∈ WALL := wl4 5 (by decide +kernel) rfl
theorem wd_773 : (Jvm.Cond.methodLink "StormBasin" (178 : Nat) ({ cls := "StormBasin", name := "streetWith", desc := "(II)LStormBasin$Street;" } : Jvm.MethodName)) ∈ WALL := wl4 6 (by decide +kernel) rfl
theorem wd_775 : (Jvm.Cond.instanceMethod ({ cls := "StormBasin", name := "streetWith", desc := "(II)LStormBasin$Street;" } : Jvm.MethodName)) ∈ WALL := wl4 8 (by decide +kernel) rfl
theorem wd_776 : (Jvm.Cond.code ({ cls := "StormBasin", name := "streetWith", desc := "(II)LStormBasin$Street;" } : Jvm.MethodName) prog_1_method_52_code (4 : Nat) (Option.some (Jvm.ClassFile.FieldType.object "StormBasin$Street"))) ∈ WALL := wl4 9 (by decide +kernel) rfl
theorem wd_778 : (Jvm.Cond.methodLink "StormBasin" (182 : Nat) ({ cls := "StormBasin$Street", name := "depthOf", desc := "(II)I" } : Jvm.MethodName)) ∈ WALL := wl4 11 (by decide +kernel) rfl
theorem wd_779 : (Jvm.Cond.instanceMethod ({ cls := "StormBasin$Street", name := "depthOf", desc := "(II)I" } : Jvm.MethodName)) ∈ WALL := wl4 12 (by decide +kernel) rfl
theorem wd_780 : (Jvm.Cond.selects "StormBasin$Street" ({ cls := "StormBasin$Street", name := "depthOf", desc := "(II)I" } : Jvm.MethodName) ({ cls := "StormBasin$Street", name := "depthOf", desc := "(II)I" } : Jvm.MethodName)) ∈ WALL := wl4 13 (by decide +kernel) rfl
theorem wd_781 : (Jvm.Cond.code ({ cls := "StormBasin$Street", name := "depthOf", desc := "(II)I" } : Jvm.MethodName) prog_5_method_6_code (7 : Nat) (Option.some Jvm.ClassFile.FieldType.int)) ∈ WALL := wl4 14 (by decide +kernel) rfl
theorem wd_782 : (Jvm.Cond.methodLink "StormBasin$Street" (45 : Nat) ({ cls := "StormBasin$Street", name := "cellsUpTo", desc := "(I)I" } : Jvm.MethodName)) ∈ WALL := wl4 15 (by decide +kernel) rfl
theorem wd_784 : (Jvm.Cond.instanceMethod ({ cls := "StormBasin$Street", name := "cellsUpTo", desc := "(I)I" } : Jvm.MethodName)) ∈ WALL := wl4 17 (by decide +kernel) rfl
theorem wd_785 : (Jvm.Cond.code ({ cls := "StormBasin$Street", name := "cellsUpTo", desc := "(I)I" } : Jvm.MethodName) prog_5_method_7_code (2 : Nat) (Option.some Jvm.ClassFile.FieldType.int)) ∈ WALL := wl4 18 (by decide +kernel) rfl
theorem wd_786 : (Jvm.Cond.methodLink "StormBasinLaw" (212 : Nat) ({ cls := "StormBasinLaw", name := "depthByPouring", desc := "(LStormBasin;II[J)I" } : Jvm.MethodName)) ∈ WALL := wl4 19 (by decide +kernel) rfl
theorem wd_787 : (Jvm.Cond.static ({ cls := "StormBasinLaw", name := "depthByPouring", desc := "(LStormBasin;II[J)I" } : Jvm.MethodName)) ∈ WALL := wl4 20 (by decide +kernel) rfl
theorem wd_788 : (Jvm.Cond.codeWith ({ cls := "StormBasinLaw", name := "depthByPouring", desc := "(LStormBasin;II[J)I" } : Jvm.MethodName) method_18_code (5 : Nat) (Option.some Jvm.ClassFile.FieldType.int) [((0 : Nat), (10 : Nat), (13 : Nat), (13 : Nat))]) ∈ WALL := wl4 21 (by decide +kernel) rfl
theorem wd_789 : (Jvm.Cond.methodLink "StormBasinLaw" (65 : Nat) ({ cls := "StormBasin", name := "depthByPouring", desc := "(II)I" } : Jvm.MethodName)) ∈ WALL := wl4 22 (by decide +kernel) rfl
theorem wd_790 : (Jvm.Cond.instanceMethod ({ cls := "StormBasin", name := "depthByPouring", desc := "(II)I" } : Jvm.MethodName)) ∈ WALL := wl4 23 (by decide +kernel) rfl
theorem wd_791 : (Jvm.Cond.selects "StormBasin" ({ cls := "StormBasin", name := "depthByPouring", desc := "(II)I" } : Jvm.MethodName) ({ cls := "StormBasin", name := "depthByPouring", desc := "(II)I" } : Jvm.MethodName)) ∈ WALL := wl4 24 (by decide +kernel) rfl
theorem wd_792 : (Jvm.Cond.code ({ cls := "StormBasin", name := "depthByPouring", desc := "(II)I" } : Jvm.MethodName) prog_1_method_24_code (4 : Nat) (Option.some Jvm.ClassFile.FieldType.int)) ∈ WALL := wl4 25 (by decide +kernel) rfl
theorem wd_793 : (Jvm.Cond.methodLink "StormBasin" (186 : Nat) ({ cls := "StormBasin$Street", name := "depthPoured", desc := "(II)I" } : Jvm.MethodName)) ∈ WALL := wl4 26 (by decide +kernel) rfl
theorem wd_794 : (Jvm.Cond.instanceMethod ({ cls := "StormBasin$Street", name := "depthPoured", desc := "(II)I" } : Jvm.MethodName)) ∈ WALL := wl4 27 (by decide +kernel) rfl
theorem wd_795 : (Jvm.Cond.selects "StormBasin$Street" ({ cls := "StormBasin$Street", name := "depthPoured", desc := "(II)I" } : Jvm.MethodName) ({ cls := "StormBasin$Street", name := "depthPoured", desc := "(II)I" } : Jvm.MethodName)) ∈ WALL := wl4 28 (by decide +kernel) rfl
theorem wd_796 : (Jvm.Cond.code ({ cls := "StormBasin$Street", name := "depthPoured", desc := "(II)I" } : Jvm.MethodName) prog_5_method_9_code (4 : Nat) (Option.some Jvm.ClassFile.FieldType.int)) ∈ WALL := wl4 29 (by decide +kernel) rfl
theorem wd_797 : (Jvm.Cond.methodLink "StormBasin$Street" (48 : Nat) ({ cls := "java/util/Arrays", name := "fill", desc := "([II)V" } : Jvm.MethodName)) ∈ WALL := wl4 30 (by decide +kernel) rfl
theorem wd_798 : (Jvm.Cond.methodLink "StormBasin$Street" (54 : Nat) ({ cls := "StormBasin$Street", name := "lowestCell", desc := "()I" } : Jvm.MethodName)) ∈ WALL := wl4 31 (by decide +kernel) rfl
theorem wd_800 : (Jvm.Cond.instanceMethod ({ cls := "StormBasin$Street", name := "lowestCell", desc := "()I" } : Jvm.MethodName)) ∈ WALL := wl4 33 (by decide +kernel) rfl
theorem wd_801 : (Jvm.Cond.code ({ cls := "StormBasin$Street", name := "lowestCell", desc := "()I" } : Jvm.MethodName) prog_5_method_10_code (3 : Nat) (Option.some Jvm.ClassFile.FieldType.int)) ∈ WALL := wl4 34 (by decide +kernel) rfl
theorem wd_802 : (Jvm.Cond.methodLink "StormBasinLaw" (215 : Nat) ({ cls := "StormBasinLaw", name := "depthThen", desc := "(LStormBasin;III[J)I" } : Jvm.MethodName)) ∈ WALL := wl4 35 (by decide +kernel) rfl
theorem wd_803 : (Jvm.Cond.static ({ cls := "StormBasinLaw", name := "depthThen", desc := "(LStormBasin;III[J)I" } : Jvm.MethodName)) ∈ WALL := wl4 36 (by decide +kernel) rfl
theorem wd_804 : (Jvm.Cond.codeWith ({ cls := "StormBasinLaw", name := "depthThen", desc := "(LStormBasin;III[J)I" } : Jvm.MethodName) method_19_code (6 : Nat) (Option.some Jvm.ClassFile.FieldType.int) [((0 : Nat), (12 : Nat), (15 : Nat), (13 : Nat)), ((0 : Nat), (12 : Nat), (19 : Nat), (15 : Nat))]) ∈ WALL := wl4 37 (by decide +kernel) rfl
theorem wd_805 : (Jvm.Cond.methodLink "StormBasinLaw" (68 : Nat) ({ cls := "StormBasin", name := "depthThen", desc := "(III)I" } : Jvm.MethodName)) ∈ WALL := wl4 38 (by decide +kernel) rfl
theorem wd_806 : (Jvm.Cond.instanceMethod ({ cls := "StormBasin", name := "depthThen", desc := "(III)I" } : Jvm.MethodName)) ∈ WALL := wl4 39 (by decide +kernel) rfl
theorem wd_807 : (Jvm.Cond.selects "StormBasin" ({ cls := "StormBasin", name := "depthThen", desc := "(III)I" } : Jvm.MethodName) ({ cls := "StormBasin", name := "depthThen", desc := "(III)I" } : Jvm.MethodName)) ∈ WALL := wl4 40 (by decide +kernel) rfl
theorem wd_808 : (Jvm.Cond.code ({ cls := "StormBasin", name := "depthThen", desc := "(III)I" } : Jvm.MethodName) prog_1_method_25_code (5 : Nat) (Option.some Jvm.ClassFile.FieldType.int)) ∈ WALL := wl4 41 (by decide +kernel) rfl
theorem wd_809 : (Jvm.Cond.methodLink "StormBasin" (189 : Nat) ({ cls := "StormBasin", name := "requireHour", desc := "(I)V" } : Jvm.MethodName)) ∈ WALL := wl4 42 (by decide +kernel) rfl
theorem wd_811 : (Jvm.Cond.instanceMethod ({ cls := "StormBasin", name := "requireHour", desc := "(I)V" } : Jvm.MethodName)) ∈ WALL := wl4 44 (by decide +kernel) rfl
theorem wd_812 : (Jvm.Cond.code ({ cls := "StormBasin", name := "requireHour", desc := "(I)V" } : Jvm.MethodName) prog_1_method_48_code (2 : Nat) (Option.none : Option Jvm.ClassFile.FieldType)) ∈ WALL := wl4 45 (by decide +kernel) rfl
theorem wd_814 : (Jvm.Cond.methodLink "StormBasinLaw" (219 : Nat) ({ cls := "StormBasinLaw", name := "wetCells", desc := "(LStormBasin;I[J)I" } : Jvm.MethodName)) ∈ WALL := wl4 47 (by decide +kernel) rfl
theorem wd_815 : (Jvm.Cond.static ({ cls := "StormBasinLaw", name := "wetCells", desc := "(LStormBasin;I[J)I" } : Jvm.MethodName)) ∈ WALL := wl4 48 (by decide +kernel) rfl
theorem wd_816 : (Jvm.Cond.codeWith ({ cls := "StormBasinLaw", name := "wetCells", desc := "(LStormBasin;I[J)I" } : Jvm.MethodName) method_20_code (4 : Nat) (Option.some Jvm.ClassFile.FieldType.int) [((0 : Nat), (9 : Nat), (12 : Nat), (13 : Nat))]) ∈ WALL := wl4 49 (by decide +kernel) rfl
theorem wd_817 : (Jvm.Cond.methodLink "StormBasinLaw" (72 : Nat) ({ cls := "StormBasin", name := "wetCells", desc := "(I)I" } : Jvm.MethodName)) ∈ WALL := wl4 50 (by decide +kernel) rfl
theorem wd_818 : (Jvm.Cond.instanceMethod ({ cls := "StormBasin", name := "wetCells", desc := "(I)I" } : Jvm.MethodName)) ∈ WALL := wl4 51 (by decide +kernel) rfl
theorem wd_819 : (Jvm.Cond.selects "StormBasin" ({ cls := "StormBasin", name := "wetCells", desc := "(I)I" } : Jvm.MethodName) ({ cls := "StormBasin", name := "wetCells", desc := "(I)I" } : Jvm.MethodName)) ∈ WALL := wl4 52 (by decide +kernel) rfl
theorem wd_820 : (Jvm.Cond.code ({ cls := "StormBasin", name := "wetCells", desc := "(I)I" } : Jvm.MethodName) prog_1_method_26_code (2 : Nat) (Option.some Jvm.ClassFile.FieldType.int)) ∈ WALL := wl4 53 (by decide +kernel) rfl
theorem wd_821 : (Jvm.Cond.methodLink "StormBasinLaw" (222 : Nat) ({ cls := "StormBasinLaw", name := "wetHours", desc := "(LStormBasin;II[J)I" } : Jvm.MethodName)) ∈ WALL := wl4 54 (by decide +kernel) rfl
theorem wd_822 : (Jvm.Cond.static ({ cls := "StormBasinLaw", name := "wetHours", desc := "(LStormBasin;II[J)I" } : Jvm.MethodName)) ∈ WALL := wl4 55 (by decide +kernel) rfl
theorem wd_823 : (Jvm.Cond.codeWith ({ cls := "StormBasinLaw", name := "wetHours", desc := "(LStormBasin;II[J)I" } : Jvm.MethodName) method_21_code (5 : Nat) (Option.some Jvm.ClassFile.FieldType.int) [((0 : Nat), (10 : Nat), (13 : Nat), (13 : Nat))]) ∈ WALL := wl4 56 (by decide +kernel) rfl
theorem wd_824 : (Jvm.Cond.methodLink "StormBasinLaw" (75 : Nat) ({ cls := "StormBasin", name := "wetHours", desc := "(II)I" } : Jvm.MethodName)) ∈ WALL := wl4 57 (by decide +kernel) rfl
theorem wd_825 : (Jvm.Cond.instanceMethod ({ cls := "StormBasin", name := "wetHours", desc := "(II)I" } : Jvm.MethodName)) ∈ WALL := wl4 58 (by decide +kernel) rfl
theorem wd_826 : (Jvm.Cond.selects "StormBasin" ({ cls := "StormBasin", name := "wetHours", desc := "(II)I" } : Jvm.MethodName) ({ cls := "StormBasin", name := "wetHours", desc := "(II)I" } : Jvm.MethodName)) ∈ WALL := wl4 59 (by decide +kernel) rfl
theorem wd_827 : (Jvm.Cond.code ({ cls := "StormBasin", name := "wetHours", desc := "(II)I" } : Jvm.MethodName) prog_1_method_27_code (6 : Nat) (Option.some Jvm.ClassFile.FieldType.int)) ∈ WALL := wl4 60 (by decide +kernel) rfl
theorem wd_828 : (Jvm.Cond.methodLink "StormBasin" (199 : Nat) ({ cls := "StormBasin$Street", name := "isWet", desc := "(II)Z" } : Jvm.MethodName)) ∈ WALL := wl4 61 (by decide +kernel) rfl
theorem wd_829 : (Jvm.Cond.methodLink "StormBasinLaw" (229 : Nat) ({ cls := "StormBasinLaw", name := "addHouse", desc := "(LStormBasin;IIII[J)I" } : Jvm.MethodName)) ∈ WALL := wl4 62 (by decide +kernel) rfl
theorem wd_830 : (Jvm.Cond.static ({ cls := "StormBasinLaw", name := "addHouse", desc := "(LStormBasin;IIII[J)I" } : Jvm.MethodName)) ∈ WALL := wl4 63 (by decide +kernel) rfl
theorem wd_831 : (Jvm.Cond.codeWith ({ cls := "StormBasinLaw", name := "addHouse", desc := "(LStormBasin;IIII[J)I" } : Jvm.MethodName) method_22_code (7 : Nat) (Option.some Jvm.ClassFile.FieldType.int) [((0 : Nat), (14 : Nat), (17 : Nat), (13 : Nat)), ((0 : Nat), (14 : Nat), (21 : Nat), (15 : Nat)), ((0 : Nat), (14 : Nat), (25 : Nat), (17 : Nat))]) ∈ WALL := wl4 64 (by decide +kernel) rfl
theorem wd_832 : (Jvm.Cond.methodLink "StormBasinLaw" (78 : Nat) ({ cls := "StormBasin", name := "addHouse", desc := "(IIII)I" } : Jvm.MethodName)) ∈ WALL := wl4 65 (by decide +kernel) rfl
theorem wd_833 : (Jvm.Cond.instanceMethod ({ cls := "StormBasin", name := "addHouse", desc := "(IIII)I" } : Jvm.MethodName)) ∈ WALL := wl4 66 (by decide +kernel) rfl
theorem wd_834 : (Jvm.Cond.selects "StormBasin" ({ cls := "StormBasin", name := "addHouse", desc := "(IIII)I" } : Jvm.MethodName) ({ cls := "StormBasin", name := "addHouse", desc := "(IIII)I" } : Jvm.MethodName)) ∈ WALL := wl4 67 (by decide +kernel) rfl
theorem wd_835 : (Jvm.Cond.code ({ cls := "StormBasin", name := "addHouse", desc := "(IIII)I" } : Jvm.MethodName) prog_1_method_29_code (7 : Nat) (Option.some Jvm.ClassFile.FieldType.int)) ∈ WALL := wl4 68 (by decide +kernel) rfl
theorem wd_838 : (Jvm.Cond.instantiable "StormBasin$House" (7 : Nat)) ∈ WALL := wl4 71 (by decide +kernel) rfl
theorem wd_839 : (Jvm.Cond.methodLink "StormBasin" (212 : Nat) ({ cls := "StormBasin$House", name := "<init>", desc := "(LStormBasin$Street;III)V" } : Jvm.MethodName)) ∈ WALL := wl4 72 (by decide +kernel) rfl
theorem wd_840 : (Jvm.Cond.instanceMethod ({ cls := "StormBasin$House", name := "<init>", desc := "(LStormBasin$Street;III)V" } : Jvm.MethodName)) ∈ WALL := wl4 73 (by decide +kernel) rfl
theorem wd_841 : (Jvm.Cond.code ({ cls := "StormBasin$House", name := "<init>", desc := "(LStormBasin$Street;III)V" } : Jvm.MethodName) prog_3_method_1_code (5 : Nat) (Option.none : Option Jvm.ClassFile.FieldType)) ∈ WALL := wl4 74 (by decide +kernel) rfl
theorem wd_842 : (Jvm.Cond.methodLink "StormBasin$House" (3 : Nat) ({ cls := "java/lang/Object", name := "<init>", desc := "()V" } : Jvm.MethodName)) ∈ WALL := wl4 75 (by decide +kernel) rfl
theorem wd_843 : (Jvm.Cond.fieldLink "StormBasin$House" (9 : Nat) "StormBasin$House" "street" "LStormBasin$Street;") ∈ WALL := wl4 76 (by decide +kernel) rfl
theorem wd_844 : (Jvm.Cond.fieldLink "StormBasin$House" (15 : Nat) "StormBasin$House" "cell" "I") ∈ WALL := wl4 77 (by decide +kernel) rfl
theorem wd_845 : (Jvm.Cond.fieldLink "StormBasin$House" (19 : Nat) "StormBasin$House" "rate" "I") ∈ WALL := wl4 78 (by decide +kernel) rfl
theorem wd_846 : (Jvm.Cond.fieldLink "StormBasin$House" (22 : Nat) "StormBasin$House" "cover" "I") ∈ WALL := wl4 79 (by decide +kernel) rfl
theorem wd_847 : (Jvm.Cond.fieldLink "StormBasin$House" (25 : Nat) "StormBasin$House" "isClaimed" "[Z") ∈ WALL := wl4 80 (by decide +kernel) rfl
theorem wd_848 : (Jvm.Cond.fieldLink "StormBasin" (231 : Nat) "StormBasin$House" "isClaimed" "[Z") ∈ WALL := wl4 81 (by decide +kernel) rfl
theorem wd_849 : (Jvm.Cond.fieldLink "StormBasin$House" (55 : Nat) "StormBasin$House" "claims" "I") ∈ WALL := wl4 82 (by decide +kernel) rfl
theorem wd_850 : (Jvm.Cond.fieldLink "StormBasin" (248 : Nat) "StormBasin$House" "claims" "I") ∈ WALL := wl4 83 (by decide +kernel) rfl
theorem wd_851 : (Jvm.Cond.fieldLink "StormBasin$House" (47 : Nat) "StormBasin$House" "paid" "I") ∈ WALL := wl4 84 (by decide +kernel) rfl
theorem wd_852 : (Jvm.Cond.fieldLink "StormBasin" (251 : Nat) "StormBasin$House" "paid" "I") ∈ WALL := wl4 85 (by decide +kernel) rfl
theorem wd_853 : (Jvm.Cond.laysFinal "StormBasin$House" "StormBasin$House" "street" "LStormBasin$Street;") ∈ WALL := wl4 86 (by decide +kernel) rfl
theorem wd_855 : (Jvm.Cond.laysFinal "StormBasin$House" "StormBasin$House" "cell" "I") ∈ WALL := wl4 88 (by decide +kernel) rfl
theorem wd_857 : (Jvm.Cond.laysFinal "StormBasin$House" "StormBasin$House" "rate" "I") ∈ WALL := wl4 90 (by decide +kernel) rfl
theorem wd_859 : (Jvm.Cond.laysFinal "StormBasin$House" "StormBasin$House" "cover" "I") ∈ WALL := wl4 92 (by decide +kernel) rfl
theorem wd_861 : (Jvm.Cond.laysFinal "StormBasin$House" "StormBasin$House" "isClaimed" "[Z") ∈ WALL := wl4 94 (by decide +kernel) rfl
theorem wd_863 : (Jvm.Cond.lays "StormBasin$House" "StormBasin$House" "claims" "I") ∈ WALL := wl4 96 (by decide +kernel) rfl
theorem wd_865 : (Jvm.Cond.lays "StormBasin$House" "StormBasin$House" "paid" "I") ∈ WALL := wl4 98 (by decide +kernel) rfl
theorem wd_867 : (Jvm.Cond.superclass "StormBasin$House" "java/lang/Object") ∈ WALL := wl4 100 (by decide +kernel) rfl
theorem wd_868 : (Jvm.Cond.arrayClass Jvm.ClassFile.FieldType.boolean) ∈ WALL := wl4 101 (by decide +kernel) rfl
theorem wd_869 : (Jvm.Cond.methodLink "StormBasinLaw" (237 : Nat) ({ cls := "StormBasinLaw", name := "wasWet", desc := "(LStormBasin;II[J)I" } : Jvm.MethodName)) ∈ WALL := wl4 102 (by decide +kernel) rfl
theorem wd_870 : (Jvm.Cond.static ({ cls := "StormBasinLaw", name := "wasWet", desc := "(LStormBasin;II[J)I" } : Jvm.MethodName)) ∈ WALL := wl4 103 (by decide +kernel) rfl
theorem wd_871 : (Jvm.Cond.codeWith ({ cls := "StormBasinLaw", name := "wasWet", desc := "(LStormBasin;II[J)I" } : Jvm.MethodName) method_23_code (5 : Nat) (Option.some Jvm.ClassFile.FieldType.int) [((0 : Nat), (17 : Nat), (20 : Nat), (13 : Nat)), ((0 : Nat), (17 : Nat), (24 : Nat), (15 : Nat))]) ∈ WALL := wl4 104 (by decide +kernel) rfl
theorem wd_872 : (Jvm.Cond.methodLink "StormBasinLaw" (82 : Nat) ({ cls := "StormBasin", name := "wasWet", desc := "(II)Z" } : Jvm.MethodName)) ∈ WALL := wl4 105 (by decide +kernel) rfl
theorem wd_873 : (Jvm.Cond.instanceMethod ({ cls := "StormBasin", name := "wasWet", desc := "(II)Z" } : Jvm.MethodName)) ∈ WALL := wl4 106 (by decide +kernel) rfl
theorem wd_874 : (Jvm.Cond.selects "StormBasin" ({ cls := "StormBasin", name := "wasWet", desc := "(II)Z" } : Jvm.MethodName) ({ cls := "StormBasin", name := "wasWet", desc := "(II)Z" } : Jvm.MethodName)) ∈ WALL := wl4 107 (by decide +kernel) rfl
theorem wd_875 : (Jvm.Cond.code ({ cls := "StormBasin", name := "wasWet", desc := "(II)Z" } : Jvm.MethodName) prog_1_method_31_code (4 : Nat) (Option.some Jvm.ClassFile.FieldType.boolean)) ∈ WALL := wl4 108 (by decide +kernel) rfl
theorem wd_876 : (Jvm.Cond.methodLink "StormBasin" (215 : Nat) ({ cls := "StormBasin", name := "houseOf", desc := "(I)LStormBasin$House;" } : Jvm.MethodName)) ∈ WALL := wl4 109 (by decide +kernel) rfl
theorem wd_878 : (Jvm.Cond.instanceMethod ({ cls := "StormBasin", name := "houseOf", desc := "(I)LStormBasin$House;" } : Jvm.MethodName)) ∈ WALL := wl4 111 (by decide +kernel) rfl
theorem wd_879 : (Jvm.Cond.code ({ cls := "StormBasin", name := "houseOf", desc := "(I)LStormBasin$House;" } : Jvm.MethodName) prog_1_method_53_code (2 : Nat) (Option.some (Jvm.ClassFile.FieldType.object "StormBasin$House"))) ∈ WALL := wl4 112 (by decide +kernel) rfl
theorem wd_881 : (Jvm.Cond.methodLink "StormBasin" (219 : Nat) ({ cls := "StormBasin$House", name := "isWetAt", desc := "(I)Z" } : Jvm.MethodName)) ∈ WALL := wl4 114 (by decide +kernel) rfl
theorem wd_882 : (Jvm.Cond.instanceMethod ({ cls := "StormBasin$House", name := "isWetAt", desc := "(I)Z" } : Jvm.MethodName)) ∈ WALL := wl4 115 (by decide +kernel) rfl
theorem wd_883 : (Jvm.Cond.selects "StormBasin$House" ({ cls := "StormBasin$House", name := "isWetAt", desc := "(I)Z" } : Jvm.MethodName) ({ cls := "StormBasin$House", name := "isWetAt", desc := "(I)Z" } : Jvm.MethodName)) ∈ WALL := wl4 116 (by decide +kernel) rfl
theorem wd_884 : (Jvm.Cond.code ({ cls := "StormBasin$House", name := "isWetAt", desc := "(I)Z" } : Jvm.MethodName) prog_3_method_2_code (2 : Nat) (Option.some Jvm.ClassFile.FieldType.boolean)) ∈ WALL := wl4 117 (by decide +kernel) rfl
theorem wd_885 : (Jvm.Cond.methodLink "StormBasin$House" (35 : Nat) ({ cls := "StormBasin$Street", name := "isWet", desc := "(II)Z" } : Jvm.MethodName)) ∈ WALL := wl4 118 (by decide +kernel) rfl
theorem wd_886 : (Jvm.Cond.methodLink "StormBasinLaw" (240 : Nat) ({ cls := "StormBasinLaw", name := "worthOf", desc := "(LStormBasin;II[J)I" } : Jvm.MethodName)) ∈ WALL := wl4 119 (by decide +kernel) rfl
theorem wd_887 : (Jvm.Cond.static ({ cls := "StormBasinLaw", name := "worthOf", desc := "(LStormBasin;II[J)I" } : Jvm.MethodName)) ∈ WALL := wl4 120 (by decide +kernel) rfl
theorem wd_888 : (Jvm.Cond.codeWith ({ cls := "StormBasinLaw", name := "worthOf", desc := "(LStormBasin;II[J)I" } : Jvm.MethodName) method_24_code (5 : Nat) (Option.some Jvm.ClassFile.FieldType.int) [((0 : Nat), (10 : Nat), (13 : Nat), (13 : Nat)), ((0 : Nat), (10 : Nat), (17 : Nat), (15 : Nat))]) ∈ WALL := wl4 121 (by decide +kernel) rfl
theorem wd_889 : (Jvm.Cond.methodLink "StormBasinLaw" (86 : Nat) ({ cls := "StormBasin", name := "worthOf", desc := "(II)I" } : Jvm.MethodName)) ∈ WALL := wl4 122 (by decide +kernel) rfl
theorem wd_890 : (Jvm.Cond.instanceMethod ({ cls := "StormBasin", name := "worthOf", desc := "(II)I" } : Jvm.MethodName)) ∈ WALL := wl4 123 (by decide +kernel) rfl
theorem wd_891 : (Jvm.Cond.selects "StormBasin" ({ cls := "StormBasin", name := "worthOf", desc := "(II)I" } : Jvm.MethodName) ({ cls := "StormBasin", name := "worthOf", desc := "(II)I" } : Jvm.MethodName)) ∈ WALL := wl4 124 (by decide +kernel) rfl
theorem wd_892 : (Jvm.Cond.code ({ cls := "StormBasin", name := "worthOf", desc := "(II)I" } : Jvm.MethodName) prog_1_method_32_code (4 : Nat) (Option.some Jvm.ClassFile.FieldType.int)) ∈ WALL := wl4 125 (by decide +kernel) rfl
theorem wd_893 : (Jvm.Cond.methodLink "StormBasin" (223 : Nat) ({ cls := "StormBasin$House", name := "worthAt", desc := "(I)I" } : Jvm.MethodName)) ∈ WALL := wl4 126 (by decide +kernel) rfl
theorem wd_894 : (Jvm.Cond.instanceMethod ({ cls := "StormBasin$House", name := "worthAt", desc := "(I)I" } : Jvm.MethodName)) ∈ WALL := wl4 127 (by decide +kernel) rfl
theorem wd_895 : (Jvm.Cond.selects "StormBasin$House" ({ cls := "StormBasin$House", name := "worthAt", desc := "(I)I" } : Jvm.MethodName) ({ cls := "StormBasin$House", name := "worthAt", desc := "(I)I" } : Jvm.MethodName)) ∈ WALL := wl4 128 (by decide +kernel) rfl
theorem wd_896 : (Jvm.Cond.code ({ cls := "StormBasin$House", name := "worthAt", desc := "(I)I" } : Jvm.MethodName) prog_3_method_3_code (2 : Nat) (Option.some Jvm.ClassFile.FieldType.int)) ∈ WALL := wl4 129 (by decide +kernel) rfl
theorem wd_897 : (Jvm.Cond.methodLink "StormBasin$House" (39 : Nat) ({ cls := "StormBasin$Street", name := "depthOf", desc := "(II)I" } : Jvm.MethodName)) ∈ WALL := wl4 130 (by decide +kernel) rfl
theorem wd_898 : (Jvm.Cond.methodLink "StormBasinLaw" (243 : Nat) ({ cls := "StormBasinLaw", name := "claim", desc := "(LStormBasin;II[J)I" } : Jvm.MethodName)) ∈ WALL := wl4 131 (by decide +kernel) rfl
theorem wd_899 : (Jvm.Cond.static ({ cls := "StormBasinLaw", name := "claim", desc := "(LStormBasin;II[J)I" } : Jvm.MethodName)) ∈ WALL := wl4 132 (by decide +kernel) rfl
theorem wd_900 : (Jvm.Cond.codeWith ({ cls := "StormBasinLaw", name := "claim", desc := "(LStormBasin;II[J)I" } : Jvm.MethodName) method_25_code (5 : Nat) (Option.some Jvm.ClassFile.FieldType.int) [((0 : Nat), (10 : Nat), (13 : Nat), (13 : Nat)), ((0 : Nat), (10 : Nat), (17 : Nat), (15 : Nat)), ((0 : Nat), (10 : Nat), (21 : Nat), (92 : Nat)), ((0 : Nat), (10 : Nat), (25 : Nat), (17 : Nat))]) ∈ WALL := wl4 133 (by decide +kernel) rfl
theorem wd_901 : (Jvm.Cond.classLink "StormBasinLaw" (92 : Nat) "java/lang/UnsupportedOperationException") ∈ WALL := wl4 134 (by decide +kernel) rfl
theorem wd_902 : (Jvm.Cond.methodLink "StormBasinLaw" (89 : Nat) ({ cls := "StormBasin", name := "claim", desc := "(II)I" } : Jvm.MethodName)) ∈ WALL := wl4 135 (by decide +kernel) rfl
theorem wd_903 : (Jvm.Cond.instanceMethod ({ cls := "StormBasin", name := "claim", desc := "(II)I" } : Jvm.MethodName)) ∈ WALL := wl4 136 (by decide +kernel) rfl
theorem wd_904 : (Jvm.Cond.selects "StormBasin" ({ cls := "StormBasin", name := "claim", desc := "(II)I" } : Jvm.MethodName) ({ cls := "StormBasin", name := "claim", desc := "(II)I" } : Jvm.MethodName)) ∈ WALL := wl4 137 (by decide +kernel) rfl
theorem wd_905 : (Jvm.Cond.code ({ cls := "StormBasin", name := "claim", desc := "(II)I" } : Jvm.MethodName) prog_1_method_33_code (4 : Nat) (Option.some Jvm.ClassFile.FieldType.int)) ∈ WALL := wl4 138 (by decide +kernel) rfl
theorem wd_906 : (Jvm.Cond.classLink "StormBasin" (226 : Nat) "java/lang/UnsupportedOperationException") ∈ WALL := wl4 139 (by decide +kernel) rfl
theorem wd_907 : (Jvm.Cond.instantiable "java/lang/UnsupportedOperationException" (6 : Nat)) ∈ WALL := wl4 140 (by decide +kernel) rfl
theorem wd_909 : (Jvm.Cond.selects "java/lang/UnsupportedOperationException" ({ cls := "java/lang/Throwable", name := "fillInStackTrace", desc := "(I)Ljava/lang/Throwable;" } : Jvm.MethodName) ({ cls := "java/lang/Throwable", name := "fillInStackTrace", desc := "(I)Ljava/lang/Throwable;" } : Jvm.MethodName)) ∈ WALL := wl4 142 (by decide +kernel) rfl
theorem wd_910 : (Jvm.Cond.lays "java/lang/UnsupportedOperationException" "java/lang/Throwable" "cause" "Ljava/lang/Throwable;") ∈ WALL := wl4 143 (by decide +kernel) rfl
theorem wd_911 : (Jvm.Cond.lays "java/lang/UnsupportedOperationException" "java/lang/Throwable" "stackTrace" "[Ljava/lang/StackTraceElement;") ∈ WALL := wl4 144 (by decide +kernel) rfl
theorem wd_912 : (Jvm.Cond.lays "java/lang/UnsupportedOperationException" "java/lang/Throwable" "suppressedExceptions" "Ljava/util/List;") ∈ WALL := wl4 145 (by decide +kernel) rfl
theorem wd_913 : (Jvm.Cond.lays "java/lang/UnsupportedOperationException" "java/lang/Throwable" "detailMessage" "Ljava/lang/String;") ∈ WALL := wl4 146 (by decide +kernel) rfl
theorem wd_914 : (Jvm.Cond.lays "java/lang/UnsupportedOperationException" "java/lang/Throwable" "backtrace" "Ljava/lang/Object;") ∈ WALL := wl4 147 (by decide +kernel) rfl
theorem wd_916 : (Jvm.Cond.methodLink "StormBasin" (230 : Nat) ({ cls := "java/lang/UnsupportedOperationException", name := "<init>", desc := "(Ljava/lang/String;)V" } : Jvm.MethodName)) ∈ WALL := wl4 149 (by decide +kernel) rfl
theorem wd_917 : (Jvm.Cond.instanceMethod ({ cls := "java/lang/UnsupportedOperationException", name := "<init>", desc := "(Ljava/lang/String;)V" } : Jvm.MethodName)) ∈ WALL := wl4 150 (by decide +kernel) rfl
theorem wd_918 : (Jvm.Cond.code ({ cls := "java/lang/UnsupportedOperationException", name := "<init>", desc := "(Ljava/lang/String;)V" } : Jvm.MethodName) prog_33_method_2_code (2 : Nat) (Option.none : Option Jvm.ClassFile.FieldType)) ∈ WALL := wl4 151 (by decide +kernel) rfl
theorem wd_919 : (Jvm.Cond.methodLink "java/lang/UnsupportedOperationException" (7 : Nat) ({ cls := "java/lang/RuntimeException", name := "<init>", desc := "(Ljava/lang/String;)V" } : Jvm.MethodName)) ∈ WALL := wl4 152 (by decide +kernel) rfl
theorem wd_920 : (Jvm.Cond.lays "java/lang/UnsupportedOperationException" "java/lang/Throwable" "depth" "I") ∈ WALL := wl4 153 (by decide +kernel) rfl
theorem wd_921 : (Jvm.Cond.superclass "java/lang/UnsupportedOperationException" "java/lang/RuntimeException") ∈ WALL := wl4 154 (by decide +kernel) rfl
theorem wd_923 : (Jvm.Cond.methodLink "StormBasin" (237 : Nat) ({ cls := "StormBasin$House", name := "pay", desc := "(I)I" } : Jvm.MethodName)) ∈ WALL := wl4 156 (by decide +kernel) rfl
theorem wd_924 : (Jvm.Cond.instanceMethod ({ cls := "StormBasin$House", name := "pay", desc := "(I)I" } : Jvm.MethodName)) ∈ WALL := wl4 157 (by decide +kernel) rfl
theorem wd_925 : (Jvm.Cond.selects "StormBasin$House" ({ cls := "StormBasin$House", name := "pay", desc := "(I)I" } : Jvm.MethodName) ({ cls := "StormBasin$House", name := "pay", desc := "(I)I" } : Jvm.MethodName)) ∈ WALL := wl4 158 (by decide +kernel) rfl
theorem wd_926 : (Jvm.Cond.code ({ cls := "StormBasin$House", name := "pay", desc := "(I)I" } : Jvm.MethodName) prog_3_method_5_code (3 : Nat) (Option.some Jvm.ClassFile.FieldType.int)) ∈ WALL := wl4 159 (by decide +kernel) rfl
theorem wd_927 : (Jvm.Cond.methodLink "StormBasin$House" (43 : Nat) ({ cls := "StormBasin$House", name := "worthAt", desc := "(I)I" } : Jvm.MethodName)) ∈ WALL := wl4 160 (by decide +kernel) rfl
theorem wd_928 : (Jvm.Cond.methodLink "StormBasin$House" (50 : Nat) ({ cls := "java/lang/Math", name := "min", desc := "(II)I" } : Jvm.MethodName)) ∈ WALL := wl4 161 (by decide +kernel) rfl
theorem wd_929 : (Jvm.Cond.methodLink "StormBasinLaw" (246 : Nat) ({ cls := "StormBasinLaw", name := "claimWorst", desc := "(LStormBasin;I[J)I" } : Jvm.MethodName)) ∈ WALL := wl4 162 (by decide +kernel) rfl
theorem wd_930 : (Jvm.Cond.static ({ cls := "StormBasinLaw", name := "claimWorst", desc := "(LStormBasin;I[J)I" } : Jvm.MethodName)) ∈ WALL := wl4 163 (by decide +kernel) rfl
theorem wd_931 : (Jvm.Cond.codeWith ({ cls := "StormBasinLaw", name := "claimWorst", desc := "(LStormBasin;I[J)I" } : Jvm.MethodName) method_26_code (4 : Nat) (Option.some Jvm.ClassFile.FieldType.int) [((0 : Nat), (9 : Nat), (12 : Nat), (13 : Nat)), ((0 : Nat), (9 : Nat), (15 : Nat), (97 : Nat))]) ∈ WALL := wl4 164 (by decide +kernel) rfl
theorem wd_932 : (Jvm.Cond.classLink "StormBasinLaw" (97 : Nat) "java/util/NoSuchElementException") ∈ WALL := wl4 165 (by decide +kernel) rfl
theorem wd_933 : (Jvm.Cond.methodLink "StormBasinLaw" (94 : Nat) ({ cls := "StormBasin", name := "claimWorst", desc := "(I)I" } : Jvm.MethodName)) ∈ WALL := wl4 166 (by decide +kernel) rfl
theorem wd_934 : (Jvm.Cond.instanceMethod ({ cls := "StormBasin", name := "claimWorst", desc := "(I)I" } : Jvm.MethodName)) ∈ WALL := wl4 167 (by decide +kernel) rfl
theorem wd_935 : (Jvm.Cond.selects "StormBasin" ({ cls := "StormBasin", name := "claimWorst", desc := "(I)I" } : Jvm.MethodName) ({ cls := "StormBasin", name := "claimWorst", desc := "(I)I" } : Jvm.MethodName)) ∈ WALL := wl4 168 (by decide +kernel) rfl
theorem wd_936 : (Jvm.Cond.code ({ cls := "StormBasin", name := "claimWorst", desc := "(I)I" } : Jvm.MethodName) prog_1_method_34_code (4 : Nat) (Option.some Jvm.ClassFile.FieldType.int)) ∈ WALL := wl4 169 (by decide +kernel) rfl
theorem wd_937 : (Jvm.Cond.methodLink "StormBasin" (240 : Nat) ({ cls := "StormBasin$House", name := "worstHour", desc := "(I)I" } : Jvm.MethodName)) ∈ WALL := wl4 170 (by decide +kernel) rfl
theorem wd_938 : (Jvm.Cond.instanceMethod ({ cls := "StormBasin$House", name := "worstHour", desc := "(I)I" } : Jvm.MethodName)) ∈ WALL := wl4 171 (by decide +kernel) rfl
theorem wd_939 : (Jvm.Cond.selects "StormBasin$House" ({ cls := "StormBasin$House", name := "worstHour", desc := "(I)I" } : Jvm.MethodName) ({ cls := "StormBasin$House", name := "worstHour", desc := "(I)I" } : Jvm.MethodName)) ∈ WALL := wl4 172 (by decide +kernel) rfl
theorem wd_940 : (Jvm.Cond.code ({ cls := "StormBasin$House", name := "worstHour", desc := "(I)I" } : Jvm.MethodName) prog_3_method_4_code (6 : Nat) (Option.some Jvm.ClassFile.FieldType.int)) ∈ WALL := wl4 173 (by decide +kernel) rfl
theorem wd_941 : (Jvm.Cond.classLink "StormBasin" (243 : Nat) "java/util/NoSuchElementException") ∈ WALL := wl4 174 (by decide +kernel) rfl
theorem wd_942 : (Jvm.Cond.instantiable "java/util/NoSuchElementException" (6 : Nat)) ∈ WALL := wl4 175 (by decide +kernel) rfl
theorem wd_944 : (Jvm.Cond.selects "java/util/NoSuchElementException" ({ cls := "java/lang/Throwable", name := "fillInStackTrace", desc := "(I)Ljava/lang/Throwable;" } : Jvm.MethodName) ({ cls := "java/lang/Throwable", name := "fillInStackTrace", desc := "(I)Ljava/lang/Throwable;" } : Jvm.MethodName)) ∈ WALL := wl4 177 (by decide +kernel) rfl
theorem wd_945 : (Jvm.Cond.lays "java/util/NoSuchElementException" "java/lang/Throwable" "cause" "Ljava/lang/Throwable;") ∈ WALL := wl4 178 (by decide +kernel) rfl
theorem wd_946 : (Jvm.Cond.lays "java/util/NoSuchElementException" "java/lang/Throwable" "stackTrace" "[Ljava/lang/StackTraceElement;") ∈ WALL := wl4 179 (by decide +kernel) rfl
theorem wd_947 : (Jvm.Cond.lays "java/util/NoSuchElementException" "java/lang/Throwable" "suppressedExceptions" "Ljava/util/List;") ∈ WALL := wl4 180 (by decide +kernel) rfl
theorem wd_948 : (Jvm.Cond.lays "java/util/NoSuchElementException" "java/lang/Throwable" "detailMessage" "Ljava/lang/String;") ∈ WALL := wl4 181 (by decide +kernel) rfl
theorem wd_949 : (Jvm.Cond.lays "java/util/NoSuchElementException" "java/lang/Throwable" "backtrace" "Ljava/lang/Object;") ∈ WALL := wl4 182 (by decide +kernel) rfl
theorem wd_951 : (Jvm.Cond.methodLink "StormBasin" (247 : Nat) ({ cls := "java/util/NoSuchElementException", name := "<init>", desc := "(Ljava/lang/String;)V" } : Jvm.MethodName)) ∈ WALL := wl4 184 (by decide +kernel) rfl
theorem wd_952 : (Jvm.Cond.instanceMethod ({ cls := "java/util/NoSuchElementException", name := "<init>", desc := "(Ljava/lang/String;)V" } : Jvm.MethodName)) ∈ WALL := wl4 185 (by decide +kernel) rfl
theorem wd_953 : (Jvm.Cond.code ({ cls := "java/util/NoSuchElementException", name := "<init>", desc := "(Ljava/lang/String;)V" } : Jvm.MethodName) prog_42_method_4_code (2 : Nat) (Option.none : Option Jvm.ClassFile.FieldType)) ∈ WALL := wl4 186 (by decide +kernel) rfl
theorem wd_954 : (Jvm.Cond.methodLink "java/util/NoSuchElementException" (13 : Nat) ({ cls := "java/lang/RuntimeException", name := "<init>", desc := "(Ljava/lang/String;)V" } : Jvm.MethodName)) ∈ WALL := wl4 187 (by decide +kernel) rfl
theorem wd_955 : (Jvm.Cond.lays "java/util/NoSuchElementException" "java/lang/Throwable" "depth" "I") ∈ WALL := wl4 188 (by decide +kernel) rfl
theorem wd_956 : (Jvm.Cond.superclass "java/util/NoSuchElementException" "java/lang/RuntimeException") ∈ WALL := wl4 189 (by decide +kernel) rfl
theorem wd_957 : (Jvm.Cond.methodLink "StormBasinLaw" (249 : Nat) ({ cls := "StormBasinLaw", name := "claimCount", desc := "(LStormBasin;I[J)I" } : Jvm.MethodName)) ∈ WALL := wl4 190 (by decide +kernel) rfl
theorem wd_958 : (Jvm.Cond.static ({ cls := "StormBasinLaw", name := "claimCount", desc := "(LStormBasin;I[J)I" } : Jvm.MethodName)) ∈ WALL := wl4 191 (by decide +kernel) rfl
theorem wd_959 : (Jvm.Cond.codeWith ({ cls := "StormBasinLaw", name := "claimCount", desc := "(LStormBasin;I[J)I" } : Jvm.MethodName) method_27_code (4 : Nat) (Option.some Jvm.ClassFile.FieldType.int) [((0 : Nat), (9 : Nat), (12 : Nat), (13 : Nat))]) ∈ WALL := wl4 192 (by decide +kernel) rfl
theorem wd_960 : (Jvm.Cond.methodLink "StormBasinLaw" (99 : Nat) ({ cls := "StormBasin", name := "claimCount", desc := "(I)I" } : Jvm.MethodName)) ∈ WALL := wl4 193 (by decide +kernel) rfl
theorem wd_961 : (Jvm.Cond.instanceMethod ({ cls := "StormBasin", name := "claimCount", desc := "(I)I" } : Jvm.MethodName)) ∈ WALL := wl4 194 (by decide +kernel) rfl
theorem wd_962 : (Jvm.Cond.selects "StormBasin" ({ cls := "StormBasin", name := "claimCount", desc := "(I)I" } : Jvm.MethodName) ({ cls := "StormBasin", name := "claimCount", desc := "(I)I" } : Jvm.MethodName)) ∈ WALL := wl4 195 (by decide +kernel) rfl
theorem wd_963 : (Jvm.Cond.code ({ cls := "StormBasin", name := "claimCount", desc := "(I)I" } : Jvm.MethodName) prog_1_method_35_code (2 : Nat) (Option.some Jvm.ClassFile.FieldType.int)) ∈ WALL := wl4 196 (by decide +kernel) rfl
theorem wd_964 : (Jvm.Cond.methodLink "StormBasinLaw" (252 : Nat) ({ cls := "StormBasinLaw", name := "paidTo", desc := "(LStormBasin;I[J)I" } : Jvm.MethodName)) ∈ WALL := wl4 197 (by decide +kernel) rfl
theorem wd_965 : (Jvm.Cond.static ({ cls := "StormBasinLaw", name := "paidTo", desc := "(LStormBasin;I[J)I" } : Jvm.MethodName)) ∈ WALL := wl4 198 (by decide +kernel) rfl
theorem wd_966 : (Jvm.Cond.codeWith ({ cls := "StormBasinLaw", name := "paidTo", desc := "(LStormBasin;I[J)I" } : Jvm.MethodName) method_28_code (4 : Nat) (Option.some Jvm.ClassFile.FieldType.int) [((0 : Nat), (9 : Nat), (12 : Nat), (13 : Nat))]) ∈ WALL := wl4 199 (by decide +kernel) rfl
theorem wd_967 : (Jvm.Cond.methodLink "StormBasinLaw" (102 : Nat) ({ cls := "StormBasin", name := "paidTo", desc := "(I)I" } : Jvm.MethodName)) ∈ WALL := wl4 200 (by decide +kernel) rfl
theorem wd_968 : (Jvm.Cond.instanceMethod ({ cls := "StormBasin", name := "paidTo", desc := "(I)I" } : Jvm.MethodName)) ∈ WALL := wl4 201 (by decide +kernel) rfl
theorem wd_969 : (Jvm.Cond.selects "StormBasin" ({ cls := "StormBasin", name := "paidTo", desc := "(I)I" } : Jvm.MethodName) ({ cls := "StormBasin", name := "paidTo", desc := "(I)I" } : Jvm.MethodName)) ∈ WALL := wl4 202 (by decide +kernel) rfl
theorem wd_970 : (Jvm.Cond.code ({ cls := "StormBasin", name := "paidTo", desc := "(I)I" } : Jvm.MethodName) prog_1_method_36_code (2 : Nat) (Option.some Jvm.ClassFile.FieldType.int)) ∈ WALL := wl4 203 (by decide +kernel) rfl
theorem wd_971 : (Jvm.Cond.methodLink "StormBasinLaw" (260 : Nat) ({ cls := "StormBasinLaw", name := "meanPayment", desc := "(LStormBasin;[D)I" } : Jvm.MethodName)) ∈ WALL := wl4 204 (by decide +kernel) rfl
theorem wd_972 : (Jvm.Cond.static ({ cls := "StormBasinLaw", name := "meanPayment", desc := "(LStormBasin;[D)I" } : Jvm.MethodName)) ∈ WALL := wl4 205 (by decide +kernel) rfl
theorem wd_973 : (Jvm.Cond.codeWith ({ cls := "StormBasinLaw", name := "meanPayment", desc := "(LStormBasin;[D)I" } : Jvm.MethodName) method_29_code (3 : Nat) (Option.some Jvm.ClassFile.FieldType.int) [((0 : Nat), (7 : Nat), (10 : Nat), (109 : Nat))]) ∈ WALL := wl4 206 (by decide +kernel) rfl
theorem wd_974 : (Jvm.Cond.classLink "StormBasinLaw" (109 : Nat) "java/lang/ArithmeticException") ∈ WALL := wl4 207 (by decide +kernel) rfl
theorem wd_975 : (Jvm.Cond.instantiable "java/lang/ArithmeticException" (6 : Nat)) ∈ WALL := wl4 208 (by decide +kernel) rfl
theorem wd_976 : (Jvm.Cond.instanceMethod ({ cls := "java/lang/ArithmeticException", name := "<init>", desc := "(Ljava/lang/String;)V" } : Jvm.MethodName)) ∈ WALL := wl4 209 (by decide +kernel) rfl
theorem wd_977 : (Jvm.Cond.code ({ cls := "java/lang/ArithmeticException", name := "<init>", desc := "(Ljava/lang/String;)V" } : Jvm.MethodName) prog_12_method_2_code (2 : Nat) (Option.none : Option Jvm.ClassFile.FieldType)) ∈ WALL := wl4 210 (by decide +kernel) rfl
theorem wd_978 : (Jvm.Cond.methodLink "java/lang/ArithmeticException" (7 : Nat) ({ cls := "java/lang/RuntimeException", name := "<init>", desc := "(Ljava/lang/String;)V" } : Jvm.MethodName)) ∈ WALL := wl4 211 (by decide +kernel) rfl
theorem wd_979 : (Jvm.Cond.lays "java/lang/ArithmeticException" "java/lang/Throwable" "backtrace" "Ljava/lang/Object;") ∈ WALL := wl4 212 (by decide +kernel) rfl
theorem wd_980 : (Jvm.Cond.lays "java/lang/ArithmeticException" "java/lang/Throwable" "detailMessage" "Ljava/lang/String;") ∈ WALL := wl4 213 (by decide +kernel) rfl
theorem wd_981 : (Jvm.Cond.lays "java/lang/ArithmeticException" "java/lang/Throwable" "cause" "Ljava/lang/Throwable;") ∈ WALL := wl4 214 (by decide +kernel) rfl
theorem wd_982 : (Jvm.Cond.lays "java/lang/ArithmeticException" "java/lang/Throwable" "stackTrace" "[Ljava/lang/StackTraceElement;") ∈ WALL := wl4 215 (by decide +kernel) rfl
theorem wd_983 : (Jvm.Cond.lays "java/lang/ArithmeticException" "java/lang/Throwable" "depth" "I") ∈ WALL := wl4 216 (by decide +kernel) rfl
theorem wd_984 : (Jvm.Cond.lays "java/lang/ArithmeticException" "java/lang/Throwable" "suppressedExceptions" "Ljava/util/List;") ∈ WALL := wl4 217 (by decide +kernel) rfl
theorem wd_985 : (Jvm.Cond.superclass "java/lang/ArithmeticException" "java/lang/RuntimeException") ∈ WALL := wl4 218 (by decide +kernel) rfl
theorem wd_987 : (Jvm.Cond.selects "java/lang/ArithmeticException" ({ cls := "java/lang/Throwable", name := "fillInStackTrace", desc := "(I)Ljava/lang/Throwable;" } : Jvm.MethodName) ({ cls := "java/lang/Throwable", name := "fillInStackTrace", desc := "(I)Ljava/lang/Throwable;" } : Jvm.MethodName)) ∈ WALL := wl4 220 (by decide +kernel) rfl
theorem wd_988 : (Jvm.Cond.methodLink "StormBasinLaw" (105 : Nat) ({ cls := "StormBasin", name := "meanPayment", desc := "()D" } : Jvm.MethodName)) ∈ WALL := wl4 221 (by decide +kernel) rfl
theorem wd_989 : (Jvm.Cond.instanceMethod ({ cls := "StormBasin", name := "meanPayment", desc := "()D" } : Jvm.MethodName)) ∈ WALL := wl4 222 (by decide +kernel) rfl
theorem wd_990 : (Jvm.Cond.selects "StormBasin" ({ cls := "StormBasin", name := "meanPayment", desc := "()D" } : Jvm.MethodName) ({ cls := "StormBasin", name := "meanPayment", desc := "()D" } : Jvm.MethodName)) ∈ WALL := wl4 223 (by decide +kernel) rfl
theorem wd_991 : (Jvm.Cond.code ({ cls := "StormBasin", name := "meanPayment", desc := "()D" } : Jvm.MethodName) prog_1_method_38_code (3 : Nat) (Option.some Jvm.ClassFile.FieldType.double)) ∈ WALL := wl4 224 (by decide +kernel) rfl
theorem wd_992 : (Jvm.Cond.classLink "StormBasin" (254 : Nat) "java/lang/ArithmeticException") ∈ WALL := wl4 225 (by decide +kernel) rfl
theorem wd_994 : (Jvm.Cond.methodLink "StormBasin" (258 : Nat) ({ cls := "java/lang/ArithmeticException", name := "<init>", desc := "(Ljava/lang/String;)V" } : Jvm.MethodName)) ∈ WALL := wl4 227 (by decide +kernel) rfl
theorem wd_995 : (Jvm.Cond.methodLink "StormBasin" (259 : Nat) ({ cls := "StormBasin", name := "paidTotal", desc := "()J" } : Jvm.MethodName)) ∈ WALL := wl4 228 (by decide +kernel) rfl
theorem wd_996 : (Jvm.Cond.methodLink "StormBasinLaw" (268 : Nat) ({ cls := "StormBasinLaw", name := "floodedWithOpening", desc := "(LStormBasin;II[J)I" } : Jvm.MethodName)) ∈ WALL := wl4 229 (by decide +kernel) rfl
theorem wd_997 : (Jvm.Cond.static ({ cls := "StormBasinLaw", name := "floodedWithOpening", desc := "(LStormBasin;II[J)I" } : Jvm.MethodName)) ∈ WALL := wl4 230 (by decide +kernel) rfl
theorem wd_998 : (Jvm.Cond.codeWith ({ cls := "StormBasinLaw", name := "floodedWithOpening", desc := "(LStormBasin;II[J)I" } : Jvm.MethodName) method_30_code (5 : Nat) (Option.some Jvm.ClassFile.FieldType.int) [((0 : Nat), (10 : Nat), (13 : Nat), (13 : Nat)), ((0 : Nat), (10 : Nat), (17 : Nat), (15 : Nat))]) ∈ WALL := wl4 231 (by decide +kernel) rfl
theorem wd_999 : (Jvm.Cond.methodLink "StormBasinLaw" (111 : Nat) ({ cls := "StormBasin", name := "floodedWithOpening", desc := "(II)I" } : Jvm.MethodName)) ∈ WALL := wl4 232 (by decide +kernel) rfl
theorem wd_1000 : (Jvm.Cond.instanceMethod ({ cls := "StormBasin", name := "floodedWithOpening", desc := "(II)I" } : Jvm.MethodName)) ∈ WALL := wl4 233 (by decide +kernel) rfl
theorem wd_1001 : (Jvm.Cond.selects "StormBasin" ({ cls := "StormBasin", name := "floodedWithOpening", desc := "(II)I" } : Jvm.MethodName) ({ cls := "StormBasin", name := "floodedWithOpening", desc := "(II)I" } : Jvm.MethodName)) ∈ WALL := wl4 234 (by decide +kernel) rfl
theorem wd_1002 : (Jvm.Cond.code ({ cls := "StormBasin", name := "floodedWithOpening", desc := "(II)I" } : Jvm.MethodName) prog_1_method_40_code (3 : Nat) (Option.some Jvm.ClassFile.FieldType.int)) ∈ WALL := wl4 235 (by decide +kernel) rfl
theorem wd_1003 : (Jvm.Cond.methodLink "StormBasinLaw" (271 : Nat) ({ cls := "StormBasinLaw", name := "bestOpening", desc := "(LStormBasin;I[J)I" } : Jvm.MethodName)) ∈ WALL := wl4 236 (by decide +kernel) rfl
theorem wd_1004 : (Jvm.Cond.static ({ cls := "StormBasinLaw", name := "bestOpening", desc := "(LStormBasin;I[J)I" } : Jvm.MethodName)) ∈ WALL := wl4 237 (by decide +kernel) rfl
theorem wd_1005 : (Jvm.Cond.codeWith ({ cls := "StormBasinLaw", name := "bestOpening", desc := "(LStormBasin;I[J)I" } : Jvm.MethodName) method_31_code (4 : Nat) (Option.some Jvm.ClassFile.FieldType.int) [((0 : Nat), (9 : Nat), (12 : Nat), (13 : Nat))]) ∈ WALL := wl4 238 (by decide +kernel) rfl
theorem wd_1006 : (Jvm.Cond.methodLink "StormBasinLaw" (114 : Nat) ({ cls := "StormBasin", name := "bestOpening", desc := "(I)I" } : Jvm.MethodName)) ∈ WALL := wl4 239 (by decide +kernel) rfl
theorem wd_1007 : (Jvm.Cond.instanceMethod ({ cls := "StormBasin", name := "bestOpening", desc := "(I)I" } : Jvm.MethodName)) ∈ WALL := wl5 0 (by decide +kernel) rfl
theorem wd_1008 : (Jvm.Cond.selects "StormBasin" ({ cls := "StormBasin", name := "bestOpening", desc := "(I)I" } : Jvm.MethodName) ({ cls := "StormBasin", name := "bestOpening", desc := "(I)I" } : Jvm.MethodName)) ∈ WALL := wl5 1 (by decide +kernel) rfl
theorem wd_1009 : (Jvm.Cond.code ({ cls := "StormBasin", name := "bestOpening", desc := "(I)I" } : Jvm.MethodName) prog_1_method_41_code (6 : Nat) (Option.some Jvm.ClassFile.FieldType.int)) ∈ WALL := wl5 2 (by decide +kernel) rfl
theorem wd_1010 : (Jvm.Cond.methodLink "StormBasinLaw" (274 : Nat) ({ cls := "StormBasinLaw", name := "writeRule", desc := "(LStormBasin;I[J)I" } : Jvm.MethodName)) ∈ WALL := wl5 3 (by decide +kernel) rfl
theorem wd_1011 : (Jvm.Cond.static ({ cls := "StormBasinLaw", name := "writeRule", desc := "(LStormBasin;I[J)I" } : Jvm.MethodName)) ∈ WALL := wl5 4 (by decide +kernel) rfl
theorem wd_1012 : (Jvm.Cond.codeWith ({ cls := "StormBasinLaw", name := "writeRule", desc := "(LStormBasin;I[J)I" } : Jvm.MethodName) method_32_code (4 : Nat) (Option.some Jvm.ClassFile.FieldType.int) [((0 : Nat), (9 : Nat), (12 : Nat), (13 : Nat))]) ∈ WALL := wl5 5 (by decide +kernel) rfl
theorem wd_1013 : (Jvm.Cond.methodLink "StormBasinLaw" (117 : Nat) ({ cls := "StormBasin", name := "writeRule", desc := "(I)I" } : Jvm.MethodName)) ∈ WALL := wl5 6 (by decide +kernel) rfl
theorem wd_1014 : (Jvm.Cond.instanceMethod ({ cls := "StormBasin", name := "writeRule", desc := "(I)I" } : Jvm.MethodName)) ∈ WALL := wl5 7 (by decide +kernel) rfl
theorem wd_1015 : (Jvm.Cond.selects "StormBasin" ({ cls := "StormBasin", name := "writeRule", desc := "(I)I" } : Jvm.MethodName) ({ cls := "StormBasin", name := "writeRule", desc := "(I)I" } : Jvm.MethodName)) ∈ WALL := wl5 8 (by decide +kernel) rfl
theorem wd_1016 : (Jvm.Cond.code ({ cls := "StormBasin", name := "writeRule", desc := "(I)I" } : Jvm.MethodName) prog_1_method_42_code (3 : Nat) (Option.some Jvm.ClassFile.FieldType.int)) ∈ WALL := wl5 9 (by decide +kernel) rfl
theorem wd_1017 : (Jvm.Cond.methodLink "StormBasin" (266 : Nat) ({ cls := "java/lang/StringBuilder", name := "setLength", desc := "(I)V" } : Jvm.MethodName)) ∈ WALL := wl5 10 (by decide +kernel) rfl
theorem wd_1018 : (Jvm.Cond.instanceMethod ({ cls := "java/lang/StringBuilder", name := "setLength", desc := "(I)V" } : Jvm.MethodName)) ∈ WALL := wl5 11 (by decide +kernel) rfl
theorem wd_1019 : (Jvm.Cond.selects "java/lang/StringBuilder" ({ cls := "java/lang/StringBuilder", name := "setLength", desc := "(I)V" } : Jvm.MethodName) ({ cls := "java/lang/StringBuilder", name := "setLength", desc := "(I)V" } : Jvm.MethodName)) ∈ WALL := wl5 12 (by decide +kernel) rfl
theorem wd_1020 : (Jvm.Cond.code ({ cls := "java/lang/StringBuilder", name := "setLength", desc := "(I)V" } : Jvm.MethodName) prog_27_method_89_code (2 : Nat) (Option.none : Option Jvm.ClassFile.FieldType)) ∈ WALL := wl5 13 (by decide +kernel) rfl
theorem wd_1021 : (Jvm.Cond.methodLink "java/lang/StringBuilder" (333 : Nat) ({ cls := "java/lang/AbstractStringBuilder", name := "setLength", desc := "(I)V" } : Jvm.MethodName)) ∈ WALL := wl5 14 (by decide +kernel) rfl
theorem wd_1022 : (Jvm.Cond.instanceMethod ({ cls := "java/lang/AbstractStringBuilder", name := "setLength", desc := "(I)V" } : Jvm.MethodName)) ∈ WALL := wl5 15 (by decide +kernel) rfl
theorem wd_1023 : (Jvm.Cond.code ({ cls := "java/lang/AbstractStringBuilder", name := "setLength", desc := "(I)V" } : Jvm.MethodName) prog_10_method_13_code (2 : Nat) (Option.none : Option Jvm.ClassFile.FieldType)) ∈ WALL := wl5 16 (by decide +kernel) rfl
theorem wd_1024 : (Jvm.Cond.classLink "java/lang/AbstractStringBuilder" (129 : Nat) "java/lang/StringIndexOutOfBoundsException") ∈ WALL := wl5 17 (by decide +kernel) rfl
theorem wd_1025 : (Jvm.Cond.instantiable "java/lang/StringIndexOutOfBoundsException" (6 : Nat)) ∈ WALL := wl5 18 (by decide +kernel) rfl
theorem wd_1026 : (Jvm.Cond.methodLink "java/lang/AbstractStringBuilder" (131 : Nat) ({ cls := "java/lang/StringIndexOutOfBoundsException", name := "<init>", desc := "(I)V" } : Jvm.MethodName)) ∈ WALL := wl5 19 (by decide +kernel) rfl
theorem wd_1027 : (Jvm.Cond.instanceMethod ({ cls := "java/lang/StringIndexOutOfBoundsException", name := "<init>", desc := "(I)V" } : Jvm.MethodName)) ∈ WALL := wl5 20 (by decide +kernel) rfl
theorem wd_1028 : (Jvm.Cond.code ({ cls := "java/lang/StringIndexOutOfBoundsException", name := "<init>", desc := "(I)V" } : Jvm.MethodName) prog_28_method_3_code (2 : Nat) (Option.none : Option Jvm.ClassFile.FieldType)) ∈ WALL := wl5 21 (by decide +kernel) rfl
theorem wd_1029 : (Jvm.Cond.classLink "java/lang/StringIndexOutOfBoundsException" (10 : Nat) "java/lang/StringBuilder") ∈ WALL := wl5 22 (by decide +kernel) rfl
theorem wd_1030 : (Jvm.Cond.methodLink "java/lang/StringIndexOutOfBoundsException" (12 : Nat) ({ cls := "java/lang/StringBuilder", name := "<init>", desc := "()V" } : Jvm.MethodName)) ∈ WALL := wl5 23 (by decide +kernel) rfl
theorem wd_1032 : (Jvm.Cond.methodLink "java/lang/StringIndexOutOfBoundsException" (15 : Nat) ({ cls := "java/lang/StringBuilder", name := "append", desc := "(Ljava/lang/String;)Ljava/lang/StringBuilder;" } : Jvm.MethodName)) ∈ WALL := wl5 25 (by decide +kernel) rfl
theorem wd_1033 : (Jvm.Cond.instanceMethod ({ cls := "java/lang/StringBuilder", name := "append", desc := "(Ljava/lang/String;)Ljava/lang/StringBuilder;" } : Jvm.MethodName)) ∈ WALL := wl5 26 (by decide +kernel) rfl
theorem wd_1034 : (Jvm.Cond.selects "java/lang/StringBuilder" ({ cls := "java/lang/StringBuilder", name := "append", desc := "(Ljava/lang/String;)Ljava/lang/StringBuilder;" } : Jvm.MethodName) ({ cls := "java/lang/StringBuilder", name := "append", desc := "(Ljava/lang/String;)Ljava/lang/StringBuilder;" } : Jvm.MethodName)) ∈ WALL := wl5 27 (by decide +kernel) rfl
theorem wd_1035 : (Jvm.Cond.code ({ cls := "java/lang/StringBuilder", name := "append", desc := "(Ljava/lang/String;)Ljava/lang/StringBuilder;" } : Jvm.MethodName) prog_27_method_7_code (2 : Nat) (Option.some (Jvm.ClassFile.FieldType.object "java/lang/StringBuilder"))) ∈ WALL := wl5 28 (by decide +kernel) rfl
theorem wd_1036 : (Jvm.Cond.methodLink "java/lang/StringBuilder" (29 : Nat) ({ cls := "java/lang/AbstractStringBuilder", name := "append", desc := "(Ljava/lang/String;)Ljava/lang/AbstractStringBuilder;" } : Jvm.MethodName)) ∈ WALL := wl5 29 (by decide +kernel) rfl
theorem wd_1037 : (Jvm.Cond.instanceMethod ({ cls := "java/lang/AbstractStringBuilder", name := "append", desc := "(Ljava/lang/String;)Ljava/lang/AbstractStringBuilder;" } : Jvm.MethodName)) ∈ WALL := wl5 30 (by decide +kernel) rfl
theorem wd_1038 : (Jvm.Cond.code ({ cls := "java/lang/AbstractStringBuilder", name := "append", desc := "(Ljava/lang/String;)Ljava/lang/AbstractStringBuilder;" } : Jvm.MethodName) prog_10_method_22_code (3 : Nat) (Option.some (Jvm.ClassFile.FieldType.object "java/lang/AbstractStringBuilder"))) ∈ WALL := wl5 31 (by decide +kernel) rfl
theorem wd_1039 : (Jvm.Cond.methodLink "java/lang/AbstractStringBuilder" (204 : Nat) ({ cls := "java/lang/AbstractStringBuilder", name := "appendNull", desc := "()Ljava/lang/AbstractStringBuilder;" } : Jvm.MethodName)) ∈ WALL := wl5 32 (by decide +kernel) rfl
theorem wd_1041 : (Jvm.Cond.instanceMethod ({ cls := "java/lang/AbstractStringBuilder", name := "appendNull", desc := "()Ljava/lang/AbstractStringBuilder;" } : Jvm.MethodName)) ∈ WALL := wl5 34 (by decide +kernel) rfl
theorem wd_1042 : (Jvm.Cond.code ({ cls := "java/lang/AbstractStringBuilder", name := "appendNull", desc := "()Ljava/lang/AbstractStringBuilder;" } : Jvm.MethodName) prog_10_method_26_code (3 : Nat) (Option.some (Jvm.ClassFile.FieldType.object "java/lang/AbstractStringBuilder"))) ∈ WALL := wl5 35 (by decide +kernel) rfl
theorem wd_1043 : (Jvm.Cond.methodLink "java/lang/AbstractStringBuilder" (100 : Nat) ({ cls := "java/lang/AbstractStringBuilder", name := "ensureCapacityInternal", desc := "(I)V" } : Jvm.MethodName)) ∈ WALL := wl5 36 (by decide +kernel) rfl
theorem wd_1045 : (Jvm.Cond.instanceMethod ({ cls := "java/lang/AbstractStringBuilder", name := "ensureCapacityInternal", desc := "(I)V" } : Jvm.MethodName)) ∈ WALL := wl5 38 (by decide +kernel) rfl
theorem wd_1046 : (Jvm.Cond.code ({ cls := "java/lang/AbstractStringBuilder", name := "ensureCapacityInternal", desc := "(I)V" } : Jvm.MethodName) prog_10_method_9_code (3 : Nat) (Option.none : Option Jvm.ClassFile.FieldType)) ∈ WALL := wl5 39 (by decide +kernel) rfl
theorem wd_1047 : (Jvm.Cond.methodLink "java/lang/AbstractStringBuilder" (104 : Nat) ({ cls := "java/lang/AbstractStringBuilder", name := "newCapacity", desc := "(I)I" } : Jvm.MethodName)) ∈ WALL := wl5 40 (by decide +kernel) rfl
theorem wd_1049 : (Jvm.Cond.instanceMethod ({ cls := "java/lang/AbstractStringBuilder", name := "newCapacity", desc := "(I)I" } : Jvm.MethodName)) ∈ WALL := wl5 42 (by decide +kernel) rfl
theorem wd_1050 : (Jvm.Cond.code ({ cls := "java/lang/AbstractStringBuilder", name := "newCapacity", desc := "(I)I" } : Jvm.MethodName) prog_10_method_10_code (6 : Nat) (Option.some Jvm.ClassFile.FieldType.int)) ∈ WALL := wl5 43 (by decide +kernel) rfl
theorem wd_1051 : (Jvm.Cond.methodLink "java/lang/AbstractStringBuilder" (114 : Nat) ({ cls := "jdk/internal/util/ArraysSupport", name := "newLength", desc := "(III)I" } : Jvm.MethodName)) ∈ WALL := wl5 44 (by decide +kernel) rfl
theorem wd_1052 : (Jvm.Cond.constant "java/lang/AbstractStringBuilder" (39 : Nat) (2147483647 : Int32)) ∈ WALL := wl5 45 (by decide +kernel) rfl
theorem wd_1053 : (Jvm.Cond.methodLink "java/lang/AbstractStringBuilder" (108 : Nat) ({ cls := "java/util/Arrays", name := "copyOf", desc := "([BI)[B" } : Jvm.MethodName)) ∈ WALL := wl5 46 (by decide +kernel) rfl
theorem wd_1054 : (Jvm.Cond.static ({ cls := "java/util/Arrays", name := "copyOf", desc := "([BI)[B" } : Jvm.MethodName)) ∈ WALL := wl5 47 (by decide +kernel) rfl
theorem wd_1055 : (Jvm.Cond.code ({ cls := "java/util/Arrays", name := "copyOf", desc := "([BI)[B" } : Jvm.MethodName) prog_39_method_121_code (3 : Nat) (Option.some (Jvm.ClassFile.FieldType.array Jvm.ClassFile.FieldType.byte))) ∈ WALL := wl5 48 (by decide +kernel) rfl
theorem wd_1056 : (Jvm.Cond.methodLink "java/util/Arrays" (310 : Nat) ({ cls := "[B", name := "clone", desc := "()Ljava/lang/Object;" } : Jvm.MethodName)) ∈ WALL := wl5 49 (by decide +kernel) rfl
theorem wd_1057 : (Jvm.Cond.sameMethod "[B" "java/lang/Object" "clone" "()Ljava/lang/Object;") ∈ WALL := wl5 50 (by decide +kernel) rfl
theorem wd_1058 : (Jvm.Cond.native ({ cls := "java/lang/Object", name := "clone", desc := "()Ljava/lang/Object;" } : Jvm.MethodName)) ∈ WALL := wl5 51 (by decide +kernel) rfl
theorem wd_1059 : (Jvm.Cond.instanceMethod ({ cls := "java/lang/Object", name := "clone", desc := "()Ljava/lang/Object;" } : Jvm.MethodName)) ∈ WALL := wl5 52 (by decide +kernel) rfl
theorem wd_1060 : (Jvm.Cond.selects "[B" ({ cls := "[B", name := "clone", desc := "()Ljava/lang/Object;" } : Jvm.MethodName) ({ cls := "java/lang/Object", name := "clone", desc := "()Ljava/lang/Object;" } : Jvm.MethodName)) ∈ WALL := wl5 53 (by decide +kernel) rfl
theorem wd_1062 : (Jvm.Cond.classLink "java/util/Arrays" (311 : Nat) "[B") ∈ WALL := wl5 55 (by decide +kernel) rfl
theorem wd_1063 : (Jvm.Cond.methodLink "java/lang/AbstractStringBuilder" (83 : Nat) ({ cls := "java/lang/AbstractStringBuilder", name := "isLatin1", desc := "()Z" } : Jvm.MethodName)) ∈ WALL := wl5 56 (by decide +kernel) rfl
theorem wd_1064 : (Jvm.Cond.instanceMethod ({ cls := "java/lang/AbstractStringBuilder", name := "isLatin1", desc := "()Z" } : Jvm.MethodName)) ∈ WALL := wl5 57 (by decide +kernel) rfl
theorem wd_1065 : (Jvm.Cond.sameMethod "java/lang/AbstractStringBuilder" "java/lang/AbstractStringBuilder" "isLatin1" "()Z") ∈ WALL := wl5 58 (by decide +kernel) rfl
theorem wd_1066 : (Jvm.Cond.selects "java/lang/StringBuilder" ({ cls := "java/lang/AbstractStringBuilder", name := "isLatin1", desc := "()Z" } : Jvm.MethodName) ({ cls := "java/lang/AbstractStringBuilder", name := "isLatin1", desc := "()Z" } : Jvm.MethodName)) ∈ WALL := wl5 59 (by decide +kernel) rfl
theorem wd_1067 : (Jvm.Cond.code ({ cls := "java/lang/AbstractStringBuilder", name := "isLatin1", desc := "()Z" } : Jvm.MethodName) prog_10_method_68_code (1 : Nat) (Option.some Jvm.ClassFile.FieldType.boolean)) ∈ WALL := wl5 60 (by decide +kernel) rfl
theorem wd_1068 : (Jvm.Cond.methodLink "java/lang/AbstractStringBuilder" (226 : Nat) ({ cls := "java/lang/StringUTF16", name := "putCharsAt", desc := "([BICCCC)I" } : Jvm.MethodName)) ∈ WALL := wl5 61 (by decide +kernel) rfl
theorem wd_1069 : (Jvm.Cond.static ({ cls := "java/lang/StringUTF16", name := "putCharsAt", desc := "([BICCCC)I" } : Jvm.MethodName)) ∈ WALL := wl5 62 (by decide +kernel) rfl
theorem wd_1070 : (Jvm.Cond.code ({ cls := "java/lang/StringUTF16", name := "putCharsAt", desc := "([BICCCC)I" } : Jvm.MethodName) prog_30_method_81_code (7 : Nat) (Option.some Jvm.ClassFile.FieldType.int)) ∈ WALL := wl5 63 (by decide +kernel) rfl
theorem wd_1071 : (Jvm.Cond.methodLink "java/lang/StringUTF16" (96 : Nat) ({ cls := "java/lang/StringUTF16", name := "checkBoundsBeginEnd", desc := "(II[B)V" } : Jvm.MethodName)) ∈ WALL := wl5 64 (by decide +kernel) rfl
theorem wd_1072 : (Jvm.Cond.static ({ cls := "java/lang/StringUTF16", name := "checkBoundsBeginEnd", desc := "(II[B)V" } : Jvm.MethodName)) ∈ WALL := wl5 65 (by decide +kernel) rfl
theorem wd_1073 : (Jvm.Cond.code ({ cls := "java/lang/StringUTF16", name := "checkBoundsBeginEnd", desc := "(II[B)V" } : Jvm.MethodName) prog_30_method_93_code (3 : Nat) (Option.none : Option Jvm.ClassFile.FieldType)) ∈ WALL := wl5 66 (by decide +kernel) rfl
theorem wd_1074 : (Jvm.Cond.methodLink "java/lang/StringUTF16" (48 : Nat) ({ cls := "java/lang/StringUTF16", name := "length", desc := "([B)I" } : Jvm.MethodName)) ∈ WALL := wl5 67 (by decide +kernel) rfl
theorem wd_1075 : (Jvm.Cond.static ({ cls := "java/lang/StringUTF16", name := "length", desc := "([B)I" } : Jvm.MethodName)) ∈ WALL := wl5 68 (by decide +kernel) rfl
theorem wd_1076 : (Jvm.Cond.code ({ cls := "java/lang/StringUTF16", name := "length", desc := "([B)I" } : Jvm.MethodName) prog_30_method_6_code (1 : Nat) (Option.some Jvm.ClassFile.FieldType.int)) ∈ WALL := wl5 69 (by decide +kernel) rfl
theorem wd_1077 : (Jvm.Cond.methodLink "java/lang/StringUTF16" (241 : Nat) ({ cls := "java/lang/String", name := "checkBoundsBeginEnd", desc := "(III)V" } : Jvm.MethodName)) ∈ WALL := wl5 70 (by decide +kernel) rfl
theorem wd_1078 : (Jvm.Cond.static ({ cls := "java/lang/String", name := "checkBoundsBeginEnd", desc := "(III)V" } : Jvm.MethodName)) ∈ WALL := wl5 71 (by decide +kernel) rfl
theorem wd_1079 : (Jvm.Cond.code ({ cls := "java/lang/String", name := "checkBoundsBeginEnd", desc := "(III)V" } : Jvm.MethodName) prog_26_method_158_code (3 : Nat) (Option.none : Option Jvm.ClassFile.FieldType)) ∈ WALL := wl5 72 (by decide +kernel) rfl
theorem wd_1080 : (Jvm.Cond.fieldLink "java/lang/String" (1053 : Nat) "jdk/internal/util/Preconditions" "SIOOBE_FORMATTER" "Ljava/util/function/BiFunction;") ∈ WALL := wl5 73 (by decide +kernel) rfl
theorem wd_1082 : (Jvm.Cond.methodLink "java/lang/String" (1062 : Nat) ({ cls := "jdk/internal/util/Preconditions", name := "checkFromToIndex", desc := "(IIILjava/util/function/BiFunction;)I" } : Jvm.MethodName)) ∈ WALL := wl5 75 (by decide +kernel) rfl
theorem wd_1083 : (Jvm.Cond.static ({ cls := "jdk/internal/util/Preconditions", name := "checkFromToIndex", desc := "(IIILjava/util/function/BiFunction;)I" } : Jvm.MethodName)) ∈ WALL := wl5 76 (by decide +kernel) rfl
theorem wd_1084 : (Jvm.Cond.code ({ cls := "jdk/internal/util/Preconditions", name := "checkFromToIndex", desc := "(IIILjava/util/function/BiFunction;)I" } : Jvm.MethodName) prog_47_method_12_code (4 : Nat) (Option.some Jvm.ClassFile.FieldType.int)) ∈ WALL := wl5 77 (by decide +kernel) rfl
theorem wd_1085 : (Jvm.Cond.methodLink "java/lang/StringUTF16" (111 : Nat) ({ cls := "java/lang/StringUTF16", name := "putChar", desc := "([BII)V" } : Jvm.MethodName)) ∈ WALL := wl5 78 (by decide +kernel) rfl
theorem wd_1086 : (Jvm.Cond.static ({ cls := "java/lang/StringUTF16", name := "putChar", desc := "([BII)V" } : Jvm.MethodName)) ∈ WALL := wl5 79 (by decide +kernel) rfl
theorem wd_1087 : (Jvm.Cond.code ({ cls := "java/lang/StringUTF16", name := "putChar", desc := "([BII)V" } : Jvm.MethodName) prog_30_method_4_code (3 : Nat) (Option.none : Option Jvm.ClassFile.FieldType)) ∈ WALL := wl5 80 (by decide +kernel) rfl
theorem wd_1088 : (Jvm.Cond.fieldLink "java/lang/StringUTF16" (44 : Nat) "java/lang/StringUTF16" "$assertionsDisabled" "Z") ∈ WALL := wl5 81 (by decide +kernel) rfl
theorem wd_1090 : (Jvm.Cond.fieldLink "java/lang/StringUTF16" (59 : Nat) "java/lang/StringUTF16" "HI_BYTE_SHIFT" "I") ∈ WALL := wl5 83 (by decide +kernel) rfl
theorem wd_1092 : (Jvm.Cond.fieldLink "java/lang/StringUTF16" (63 : Nat) "java/lang/StringUTF16" "LO_BYTE_SHIFT" "I") ∈ WALL := wl5 85 (by decide +kernel) rfl
theorem wd_1094 : (Jvm.Cond.methodLink "java/lang/AbstractStringBuilder" (32 : Nat) ({ cls := "java/lang/String", name := "length", desc := "()I" } : Jvm.MethodName)) ∈ WALL := wl5 87 (by decide +kernel) rfl
theorem wd_1095 : (Jvm.Cond.instanceMethod ({ cls := "java/lang/String", name := "length", desc := "()I" } : Jvm.MethodName)) ∈ WALL := wl5 88 (by decide +kernel) rfl
theorem wd_1096 : (Jvm.Cond.selects "java/lang/String" ({ cls := "java/lang/String", name := "length", desc := "()I" } : Jvm.MethodName) ({ cls := "java/lang/String", name := "length", desc := "()I" } : Jvm.MethodName)) ∈ WALL := wl5 89 (by decide +kernel) rfl
theorem wd_1097 : (Jvm.Cond.code ({ cls := "java/lang/String", name := "length", desc := "()I" } : Jvm.MethodName) prog_26_method_54_code (1 : Nat) (Option.some Jvm.ClassFile.FieldType.int)) ∈ WALL := wl5 90 (by decide +kernel) rfl
theorem wd_1098 : (Jvm.Cond.methodLink "java/lang/String" (335 : Nat) ({ cls := "java/lang/String", name := "coder", desc := "()B" } : Jvm.MethodName)) ∈ WALL := wl5 91 (by decide +kernel) rfl
theorem wd_1099 : (Jvm.Cond.instanceMethod ({ cls := "java/lang/String", name := "coder", desc := "()B" } : Jvm.MethodName)) ∈ WALL := wl5 92 (by decide +kernel) rfl
theorem wd_1100 : (Jvm.Cond.selects "java/lang/String" ({ cls := "java/lang/String", name := "coder", desc := "()B" } : Jvm.MethodName) ({ cls := "java/lang/String", name := "coder", desc := "()B" } : Jvm.MethodName)) ∈ WALL := wl5 93 (by decide +kernel) rfl
theorem wd_1101 : (Jvm.Cond.code ({ cls := "java/lang/String", name := "coder", desc := "()B" } : Jvm.MethodName) prog_26_method_152_code (1 : Nat) (Option.some Jvm.ClassFile.FieldType.byte)) ∈ WALL := wl5 94 (by decide +kernel) rfl
theorem wd_1102 : (Jvm.Cond.fieldLink "java/lang/String" (38 : Nat) "java/lang/String" "COMPACT_STRINGS" "Z") ∈ WALL := wl5 95 (by decide +kernel) rfl
theorem wd_1103 : (Jvm.Cond.methodLink "java/lang/AbstractStringBuilder" (208 : Nat) ({ cls := "java/lang/AbstractStringBuilder", name := "putStringAt", desc := "(ILjava/lang/String;)V" } : Jvm.MethodName)) ∈ WALL := wl5 96 (by decide +kernel) rfl
theorem wd_1105 : (Jvm.Cond.instanceMethod ({ cls := "java/lang/AbstractStringBuilder", name := "putStringAt", desc := "(ILjava/lang/String;)V" } : Jvm.MethodName)) ∈ WALL := wl5 98 (by decide +kernel) rfl
theorem wd_1106 : (Jvm.Cond.code ({ cls := "java/lang/AbstractStringBuilder", name := "putStringAt", desc := "(ILjava/lang/String;)V" } : Jvm.MethodName) prog_10_method_73_code (3 : Nat) (Option.none : Option Jvm.ClassFile.FieldType)) ∈ WALL := wl5 99 (by decide +kernel) rfl
theorem wd_1107 : (Jvm.Cond.methodLink "java/lang/AbstractStringBuilder" (397 : Nat) ({ cls := "java/lang/AbstractStringBuilder", name := "inflateIfNeededFor", desc := "(Ljava/lang/String;)V" } : Jvm.MethodName)) ∈ WALL := wl5 100 (by decide +kernel) rfl
theorem wd_1109 : (Jvm.Cond.instanceMethod ({ cls := "java/lang/AbstractStringBuilder", name := "inflateIfNeededFor", desc := "(Ljava/lang/String;)V" } : Jvm.MethodName)) ∈ WALL := wl5 102 (by decide +kernel) rfl
theorem wd_1110 : (Jvm.Cond.code ({ cls := "java/lang/AbstractStringBuilder", name := "inflateIfNeededFor", desc := "(Ljava/lang/String;)V" } : Jvm.MethodName) prog_10_method_71_code (2 : Nat) (Option.none : Option Jvm.ClassFile.FieldType)) ∈ WALL := wl5 103 (by decide +kernel) rfl
theorem wd_1111 : (Jvm.Cond.methodLink "java/lang/AbstractStringBuilder" (40 : Nat) ({ cls := "java/lang/String", name := "coder", desc := "()B" } : Jvm.MethodName)) ∈ WALL := wl5 104 (by decide +kernel) rfl
theorem wd_1112 : (Jvm.Cond.methodLink "java/lang/AbstractStringBuilder" (195 : Nat) ({ cls := "java/lang/AbstractStringBuilder", name := "inflate", desc := "()V" } : Jvm.MethodName)) ∈ WALL := wl5 105 (by decide +kernel) rfl
theorem wd_1114 : (Jvm.Cond.instanceMethod ({ cls := "java/lang/AbstractStringBuilder", name := "inflate", desc := "()V" } : Jvm.MethodName)) ∈ WALL := wl5 107 (by decide +kernel) rfl
theorem wd_1115 : (Jvm.Cond.code ({ cls := "java/lang/AbstractStringBuilder", name := "inflate", desc := "()V" } : Jvm.MethodName) prog_10_method_11_code (2 : Nat) (Option.none : Option Jvm.ClassFile.FieldType)) ∈ WALL := wl5 108 (by decide +kernel) rfl
theorem wd_1116 : (Jvm.Cond.methodLink "java/lang/AbstractStringBuilder" (125 : Nat) ({ cls := "java/lang/StringLatin1", name := "inflate", desc := "([BI[BII)V" } : Jvm.MethodName)) ∈ WALL := wl5 109 (by decide +kernel) rfl
theorem wd_1117 : (Jvm.Cond.static ({ cls := "java/lang/StringLatin1", name := "inflate", desc := "([BI[BII)V" } : Jvm.MethodName)) ∈ WALL := wl5 110 (by decide +kernel) rfl
theorem wd_1118 : (Jvm.Cond.code ({ cls := "java/lang/StringLatin1", name := "inflate", desc := "([BI[BII)V" } : Jvm.MethodName) prog_29_method_50_code (5 : Nat) (Option.none : Option Jvm.ClassFile.FieldType)) ∈ WALL := wl5 111 (by decide +kernel) rfl
theorem wd_1119 : (Jvm.Cond.methodLink "java/lang/StringLatin1" (240 : Nat) ({ cls := "java/lang/StringUTF16", name := "inflate", desc := "([BI[BII)V" } : Jvm.MethodName)) ∈ WALL := wl5 112 (by decide +kernel) rfl
theorem wd_1120 : (Jvm.Cond.static ({ cls := "java/lang/StringUTF16", name := "inflate", desc := "([BI[BII)V" } : Jvm.MethodName)) ∈ WALL := wl5 113 (by decide +kernel) rfl
theorem wd_1121 : (Jvm.Cond.code ({ cls := "java/lang/StringUTF16", name := "inflate", desc := "([BI[BII)V" } : Jvm.MethodName) prog_30_method_86_code (6 : Nat) (Option.none : Option Jvm.ClassFile.FieldType)) ∈ WALL := wl5 114 (by decide +kernel) rfl
theorem wd_1122 : (Jvm.Cond.methodLink "java/lang/StringUTF16" (173 : Nat) ({ cls := "java/lang/StringUTF16", name := "checkBoundsOffCount", desc := "(II[B)V" } : Jvm.MethodName)) ∈ WALL := wl5 115 (by decide +kernel) rfl
theorem wd_1123 : (Jvm.Cond.static ({ cls := "java/lang/StringUTF16", name := "checkBoundsOffCount", desc := "(II[B)V" } : Jvm.MethodName)) ∈ WALL := wl5 116 (by decide +kernel) rfl
theorem wd_1124 : (Jvm.Cond.code ({ cls := "java/lang/StringUTF16", name := "checkBoundsOffCount", desc := "(II[B)V" } : Jvm.MethodName) prog_30_method_94_code (3 : Nat) (Option.none : Option Jvm.ClassFile.FieldType)) ∈ WALL := wl5 117 (by decide +kernel) rfl
theorem wd_1125 : (Jvm.Cond.methodLink "java/lang/StringUTF16" (419 : Nat) ({ cls := "java/lang/String", name := "checkBoundsOffCount", desc := "(III)I" } : Jvm.MethodName)) ∈ WALL := wl5 118 (by decide +kernel) rfl
theorem wd_1126 : (Jvm.Cond.static ({ cls := "java/lang/String", name := "checkBoundsOffCount", desc := "(III)I" } : Jvm.MethodName)) ∈ WALL := wl5 119 (by decide +kernel) rfl
theorem wd_1127 : (Jvm.Cond.code ({ cls := "java/lang/String", name := "checkBoundsOffCount", desc := "(III)I" } : Jvm.MethodName) prog_26_method_157_code (3 : Nat) (Option.some Jvm.ClassFile.FieldType.int)) ∈ WALL := wl5 120 (by decide +kernel) rfl
theorem wd_1128 : (Jvm.Cond.methodLink "java/lang/String" (1065 : Nat) ({ cls := "jdk/internal/util/Preconditions", name := "checkFromIndexSize", desc := "(IIILjava/util/function/BiFunction;)I" } : Jvm.MethodName)) ∈ WALL := wl5 121 (by decide +kernel) rfl
theorem wd_1129 : (Jvm.Cond.static ({ cls := "jdk/internal/util/Preconditions", name := "checkFromIndexSize", desc := "(IIILjava/util/function/BiFunction;)I" } : Jvm.MethodName)) ∈ WALL := wl5 122 (by decide +kernel) rfl
theorem wd_1130 : (Jvm.Cond.code ({ cls := "jdk/internal/util/Preconditions", name := "checkFromIndexSize", desc := "(IIILjava/util/function/BiFunction;)I" } : Jvm.MethodName) prog_47_method_13_code (4 : Nat) (Option.some Jvm.ClassFile.FieldType.int)) ∈ WALL := wl5 123 (by decide +kernel) rfl
theorem wd_1131 : (Jvm.Cond.methodLink "java/lang/AbstractStringBuilder" (399 : Nat) ({ cls := "java/lang/String", name := "getBytes", desc := "([BIB)V" } : Jvm.MethodName)) ∈ WALL := wl5 124 (by decide +kernel) rfl
theorem wd_1132 : (Jvm.Cond.instanceMethod ({ cls := "java/lang/String", name := "getBytes", desc := "([BIB)V" } : Jvm.MethodName)) ∈ WALL := wl5 125 (by decide +kernel) rfl
theorem wd_1133 : (Jvm.Cond.selects "java/lang/String" ({ cls := "java/lang/String", name := "getBytes", desc := "([BIB)V" } : Jvm.MethodName) ({ cls := "java/lang/String", name := "getBytes", desc := "([BIB)V" } : Jvm.MethodName)) ∈ WALL := wl5 126 (by decide +kernel) rfl
theorem wd_1134 : (Jvm.Cond.code ({ cls := "java/lang/String", name := "getBytes", desc := "([BIB)V" } : Jvm.MethodName) prog_26_method_147_code (4 : Nat) (Option.none : Option Jvm.ClassFile.FieldType)) ∈ WALL := wl5 127 (by decide +kernel) rfl
theorem wd_1135 : (Jvm.Cond.methodLink "java/lang/String" (212 : Nat) ({ cls := "java/lang/System", name := "arraycopy", desc := "(Ljava/lang/Object;ILjava/lang/Object;II)V" } : Jvm.MethodName)) ∈ WALL := wl5 128 (by decide +kernel) rfl
theorem wd_1136 : (Jvm.Cond.methodLink "java/lang/String" (106 : Nat) ({ cls := "java/lang/StringLatin1", name := "inflate", desc := "([BI[BII)V" } : Jvm.MethodName)) ∈ WALL := wl5 129 (by decide +kernel) rfl
theorem wd_1137 : (Jvm.Cond.methodLink "java/lang/StringIndexOutOfBoundsException" (19 : Nat) ({ cls := "java/lang/StringBuilder", name := "append", desc := "(I)Ljava/lang/StringBuilder;" } : Jvm.MethodName)) ∈ WALL := wl5 130 (by decide +kernel) rfl
theorem wd_1138 : (Jvm.Cond.instanceMethod ({ cls := "java/lang/StringBuilder", name := "append", desc := "(I)Ljava/lang/StringBuilder;" } : Jvm.MethodName)) ∈ WALL := wl5 131 (by decide +kernel) rfl
theorem wd_1139 : (Jvm.Cond.selects "java/lang/StringBuilder" ({ cls := "java/lang/StringBuilder", name := "append", desc := "(I)Ljava/lang/StringBuilder;" } : Jvm.MethodName) ({ cls := "java/lang/StringBuilder", name := "append", desc := "(I)Ljava/lang/StringBuilder;" } : Jvm.MethodName)) ∈ WALL := wl5 132 (by decide +kernel) rfl
theorem wd_1140 : (Jvm.Cond.code ({ cls := "java/lang/StringBuilder", name := "append", desc := "(I)Ljava/lang/StringBuilder;" } : Jvm.MethodName) prog_27_method_15_code (2 : Nat) (Option.some (Jvm.ClassFile.FieldType.object "java/lang/StringBuilder"))) ∈ WALL := wl5 133 (by decide +kernel) rfl
theorem wd_1141 : (Jvm.Cond.methodLink "java/lang/StringBuilder" (53 : Nat) ({ cls := "java/lang/AbstractStringBuilder", name := "append", desc := "(I)Ljava/lang/AbstractStringBuilder;" } : Jvm.MethodName)) ∈ WALL := wl5 134 (by decide +kernel) rfl
theorem wd_1142 : (Jvm.Cond.instanceMethod ({ cls := "java/lang/AbstractStringBuilder", name := "append", desc := "(I)Ljava/lang/AbstractStringBuilder;" } : Jvm.MethodName)) ∈ WALL := wl5 135 (by decide +kernel) rfl
theorem wd_1143 : (Jvm.Cond.code ({ cls := "java/lang/AbstractStringBuilder", name := "append", desc := "(I)Ljava/lang/AbstractStringBuilder;" } : Jvm.MethodName) prog_10_method_32_code (4 : Nat) (Option.some (Jvm.ClassFile.FieldType.object "java/lang/AbstractStringBuilder"))) ∈ WALL := wl5 136 (by decide +kernel) rfl
theorem wd_1144 : (Jvm.Cond.methodLink "java/lang/AbstractStringBuilder" (245 : Nat) ({ cls := "java/lang/Integer", name := "stringSize", desc := "(I)I" } : Jvm.MethodName)) ∈ WALL := wl5 137 (by decide +kernel) rfl
theorem wd_1145 : (Jvm.Cond.static ({ cls := "java/lang/Integer", name := "stringSize", desc := "(I)I" } : Jvm.MethodName)) ∈ WALL := wl5 138 (by decide +kernel) rfl
theorem wd_1146 : (Jvm.Cond.code ({ cls := "java/lang/Integer", name := "stringSize", desc := "(I)I" } : Jvm.MethodName) prog_21_method_13_code (4 : Nat) (Option.some Jvm.ClassFile.FieldType.int)) ∈ WALL := wl5 139 (by decide +kernel) rfl
theorem wd_1147 : (Jvm.Cond.methodLink "java/lang/AbstractStringBuilder" (248 : Nat) ({ cls := "java/lang/Integer", name := "getChars", desc := "(II[B)I" } : Jvm.MethodName)) ∈ WALL := wl5 140 (by decide +kernel) rfl
theorem wd_1148 : (Jvm.Cond.static ({ cls := "java/lang/Integer", name := "getChars", desc := "(II[B)I" } : Jvm.MethodName)) ∈ WALL := wl5 141 (by decide +kernel) rfl
theorem wd_1149 : (Jvm.Cond.code ({ cls := "java/lang/Integer", name := "getChars", desc := "(II[B)I" } : Jvm.MethodName) prog_21_method_12_code (7 : Nat) (Option.some Jvm.ClassFile.FieldType.int)) ∈ WALL := wl5 142 (by decide +kernel) rfl
theorem wd_1150 : (Jvm.Cond.fieldLink "java/lang/Integer" (83 : Nat) "java/lang/Integer" "DigitOnes" "[B") ∈ WALL := wl5 143 (by decide +kernel) rfl
theorem wd_1152 : (Jvm.Cond.fieldLink "java/lang/Integer" (87 : Nat) "java/lang/Integer" "DigitTens" "[B") ∈ WALL := wl5 145 (by decide +kernel) rfl
theorem wd_1154 : (Jvm.Cond.methodLink "java/lang/AbstractStringBuilder" (251 : Nat) ({ cls := "java/lang/StringUTF16", name := "getChars", desc := "(III[B)I" } : Jvm.MethodName)) ∈ WALL := wl5 147 (by decide +kernel) rfl
theorem wd_1155 : (Jvm.Cond.static ({ cls := "java/lang/StringUTF16", name := "getChars", desc := "(III[B)I" } : Jvm.MethodName)) ∈ WALL := wl5 148 (by decide +kernel) rfl
theorem wd_1156 : (Jvm.Cond.code ({ cls := "java/lang/StringUTF16", name := "getChars", desc := "(III[B)I" } : Jvm.MethodName) prog_30_method_77_code (5 : Nat) (Option.some Jvm.ClassFile.FieldType.int)) ∈ WALL := wl5 149 (by decide +kernel) rfl
theorem wd_1157 : (Jvm.Cond.methodLink "java/lang/StringUTF16" (393 : Nat) ({ cls := "java/lang/StringUTF16", name := "getChars", desc := "(II[B)I" } : Jvm.MethodName)) ∈ WALL := wl5 150 (by decide +kernel) rfl
theorem wd_1158 : (Jvm.Cond.static ({ cls := "java/lang/StringUTF16", name := "getChars", desc := "(II[B)I" } : Jvm.MethodName)) ∈ WALL := wl5 151 (by decide +kernel) rfl
theorem wd_1159 : (Jvm.Cond.code ({ cls := "java/lang/StringUTF16", name := "getChars", desc := "(II[B)I" } : Jvm.MethodName) prog_30_method_89_code (7 : Nat) (Option.some Jvm.ClassFile.FieldType.int)) ∈ WALL := wl5 152 (by decide +kernel) rfl
theorem wd_1160 : (Jvm.Cond.fieldLink "java/lang/StringUTF16" (403 : Nat) "java/lang/Integer" "DigitOnes" "[B") ∈ WALL := wl5 153 (by decide +kernel) rfl
theorem wd_1161 : (Jvm.Cond.fieldLink "java/lang/StringUTF16" (407 : Nat) "java/lang/Integer" "DigitTens" "[B") ∈ WALL := wl5 154 (by decide +kernel) rfl
theorem wd_1162 : (Jvm.Cond.methodLink "java/lang/StringIndexOutOfBoundsException" (22 : Nat) ({ cls := "java/lang/StringBuilder", name := "toString", desc := "()Ljava/lang/String;" } : Jvm.MethodName)) ∈ WALL := wl5 155 (by decide +kernel) rfl
theorem wd_1163 : (Jvm.Cond.instanceMethod ({ cls := "java/lang/StringBuilder", name := "toString", desc := "()Ljava/lang/String;" } : Jvm.MethodName)) ∈ WALL := wl5 156 (by decide +kernel) rfl
theorem wd_1164 : (Jvm.Cond.selects "java/lang/StringBuilder" ({ cls := "java/lang/StringBuilder", name := "toString", desc := "()Ljava/lang/String;" } : Jvm.MethodName) ({ cls := "java/lang/StringBuilder", name := "toString", desc := "()Ljava/lang/String;" } : Jvm.MethodName)) ∈ WALL := wl5 157 (by decide +kernel) rfl
theorem wd_1165 : (Jvm.Cond.code ({ cls := "java/lang/StringBuilder", name := "toString", desc := "()Ljava/lang/String;" } : Jvm.MethodName) prog_27_method_42_code (1 : Nat) (Option.some (Jvm.ClassFile.FieldType.object "java/lang/String"))) ∈ WALL := wl5 158 (by decide +kernel) rfl
theorem wd_1166 : (Jvm.Cond.classLink "java/lang/StringBuilder" (18 : Nat) "java/lang/String") ∈ WALL := wl5 159 (by decide +kernel) rfl
theorem wd_1167 : (Jvm.Cond.methodLink "java/lang/StringBuilder" (137 : Nat) ({ cls := "java/lang/String", name := "<init>", desc := "(Ljava/lang/StringBuilder;)V" } : Jvm.MethodName)) ∈ WALL := wl5 160 (by decide +kernel) rfl
theorem wd_1168 : (Jvm.Cond.instanceMethod ({ cls := "java/lang/String", name := "<init>", desc := "(Ljava/lang/StringBuilder;)V" } : Jvm.MethodName)) ∈ WALL := wl5 161 (by decide +kernel) rfl
theorem wd_1169 : (Jvm.Cond.code ({ cls := "java/lang/String", name := "<init>", desc := "(Ljava/lang/StringBuilder;)V" } : Jvm.MethodName) prog_26_method_53_code (2 : Nat) (Option.none : Option Jvm.ClassFile.FieldType)) ∈ WALL := wl5 162 (by decide +kernel) rfl
theorem wd_1170 : (Jvm.Cond.methodLink "java/lang/String" (489 : Nat) ({ cls := "java/lang/String", name := "<init>", desc := "(Ljava/lang/AbstractStringBuilder;Ljava/lang/Void;)V" } : Jvm.MethodName)) ∈ WALL := wl5 163 (by decide +kernel) rfl
theorem wd_1171 : (Jvm.Cond.instanceMethod ({ cls := "java/lang/String", name := "<init>", desc := "(Ljava/lang/AbstractStringBuilder;Ljava/lang/Void;)V" } : Jvm.MethodName)) ∈ WALL := wl5 164 (by decide +kernel) rfl
theorem wd_1172 : (Jvm.Cond.code ({ cls := "java/lang/String", name := "<init>", desc := "(Ljava/lang/AbstractStringBuilder;Ljava/lang/Void;)V" } : Jvm.MethodName) prog_26_method_150_code (5 : Nat) (Option.none : Option Jvm.ClassFile.FieldType)) ∈ WALL := wl5 165 (by decide +kernel) rfl
theorem wd_1173 : (Jvm.Cond.methodLink "java/lang/String" (1 : Nat) ({ cls := "java/lang/Object", name := "<init>", desc := "()V" } : Jvm.MethodName)) ∈ WALL := wl5 166 (by decide +kernel) rfl
theorem wd_1174 : (Jvm.Cond.methodLink "java/lang/String" (552 : Nat) ({ cls := "java/lang/AbstractStringBuilder", name := "getValue", desc := "()[B" } : Jvm.MethodName)) ∈ WALL := wl5 167 (by decide +kernel) rfl
theorem wd_1175 : (Jvm.Cond.instanceMethod ({ cls := "java/lang/AbstractStringBuilder", name := "getValue", desc := "()[B" } : Jvm.MethodName)) ∈ WALL := wl5 168 (by decide +kernel) rfl
theorem wd_1176 : (Jvm.Cond.sameMethod "java/lang/AbstractStringBuilder" "java/lang/AbstractStringBuilder" "getValue" "()[B") ∈ WALL := wl5 169 (by decide +kernel) rfl
theorem wd_1177 : (Jvm.Cond.selects "java/lang/StringBuilder" ({ cls := "java/lang/AbstractStringBuilder", name := "getValue", desc := "()[B" } : Jvm.MethodName) ({ cls := "java/lang/AbstractStringBuilder", name := "getValue", desc := "()[B" } : Jvm.MethodName)) ∈ WALL := wl5 170 (by decide +kernel) rfl
theorem wd_1178 : (Jvm.Cond.code ({ cls := "java/lang/AbstractStringBuilder", name := "getValue", desc := "()[B" } : Jvm.MethodName) prog_10_method_64_code (1 : Nat) (Option.some (Jvm.ClassFile.FieldType.array Jvm.ClassFile.FieldType.byte))) ∈ WALL := wl5 171 (by decide +kernel) rfl
theorem wd_1179 : (Jvm.Cond.methodLink "java/lang/String" (549 : Nat) ({ cls := "java/lang/AbstractStringBuilder", name := "length", desc := "()I" } : Jvm.MethodName)) ∈ WALL := wl5 172 (by decide +kernel) rfl
theorem wd_1180 : (Jvm.Cond.instanceMethod ({ cls := "java/lang/AbstractStringBuilder", name := "length", desc := "()I" } : Jvm.MethodName)) ∈ WALL := wl5 173 (by decide +kernel) rfl
theorem wd_1181 : (Jvm.Cond.sameMethod "java/lang/AbstractStringBuilder" "java/lang/AbstractStringBuilder" "length" "()I") ∈ WALL := wl5 174 (by decide +kernel) rfl
theorem wd_1182 : (Jvm.Cond.selects "java/lang/StringBuilder" ({ cls := "java/lang/AbstractStringBuilder", name := "length", desc := "()I" } : Jvm.MethodName) ({ cls := "java/lang/StringBuilder", name := "length", desc := "()I" } : Jvm.MethodName)) ∈ WALL := wl5 175 (by decide +kernel) rfl
theorem wd_1183 : (Jvm.Cond.instanceMethod ({ cls := "java/lang/StringBuilder", name := "length", desc := "()I" } : Jvm.MethodName)) ∈ WALL := wl5 176 (by decide +kernel) rfl
theorem wd_1184 : (Jvm.Cond.code ({ cls := "java/lang/StringBuilder", name := "length", desc := "()I" } : Jvm.MethodName) prog_27_method_93_code (1 : Nat) (Option.some Jvm.ClassFile.FieldType.int)) ∈ WALL := wl5 177 (by decide +kernel) rfl
theorem wd_1185 : (Jvm.Cond.methodLink "java/lang/StringBuilder" (343 : Nat) ({ cls := "java/lang/AbstractStringBuilder", name := "length", desc := "()I" } : Jvm.MethodName)) ∈ WALL := wl5 178 (by decide +kernel) rfl
theorem wd_1186 : (Jvm.Cond.code ({ cls := "java/lang/AbstractStringBuilder", name := "length", desc := "()I" } : Jvm.MethodName) prog_10_method_6_code (1 : Nat) (Option.some Jvm.ClassFile.FieldType.int)) ∈ WALL := wl5 179 (by decide +kernel) rfl
theorem wd_1187 : (Jvm.Cond.methodLink "java/lang/String" (1047 : Nat) ({ cls := "java/lang/AbstractStringBuilder", name := "isLatin1", desc := "()Z" } : Jvm.MethodName)) ∈ WALL := wl5 180 (by decide +kernel) rfl
theorem wd_1188 : (Jvm.Cond.methodLink "java/lang/String" (54 : Nat) ({ cls := "java/util/Arrays", name := "copyOfRange", desc := "([BII)[B" } : Jvm.MethodName)) ∈ WALL := wl5 181 (by decide +kernel) rfl
theorem wd_1189 : (Jvm.Cond.static ({ cls := "java/util/Arrays", name := "copyOfRange", desc := "([BII)[B" } : Jvm.MethodName)) ∈ WALL := wl5 182 (by decide +kernel) rfl
theorem wd_1190 : (Jvm.Cond.code ({ cls := "java/util/Arrays", name := "copyOfRange", desc := "([BII)[B" } : Jvm.MethodName) prog_39_method_132_code (3 : Nat) (Option.some (Jvm.ClassFile.FieldType.array Jvm.ClassFile.FieldType.byte))) ∈ WALL := wl5 183 (by decide +kernel) rfl
theorem wd_1191 : (Jvm.Cond.methodLink "java/util/Arrays" (339 : Nat) ({ cls := "java/util/Arrays", name := "copyOfRangeByte", desc := "([BII)[B" } : Jvm.MethodName)) ∈ WALL := wl5 184 (by decide +kernel) rfl
theorem wd_1192 : (Jvm.Cond.static ({ cls := "java/util/Arrays", name := "copyOfRangeByte", desc := "([BII)[B" } : Jvm.MethodName)) ∈ WALL := wl5 185 (by decide +kernel) rfl
theorem wd_1193 : (Jvm.Cond.code ({ cls := "java/util/Arrays", name := "copyOfRangeByte", desc := "([BII)[B" } : Jvm.MethodName) prog_39_method_133_code (5 : Nat) (Option.some (Jvm.ClassFile.FieldType.array Jvm.ClassFile.FieldType.byte))) ∈ WALL := wl5 186 (by decide +kernel) rfl
theorem wd_1194 : (Jvm.Cond.methodLink "java/util/Arrays" (343 : Nat) ({ cls := "java/util/Arrays", name := "checkLength", desc := "(II)V" } : Jvm.MethodName)) ∈ WALL := wl5 187 (by decide +kernel) rfl
theorem wd_1195 : (Jvm.Cond.static ({ cls := "java/util/Arrays", name := "checkLength", desc := "(II)V" } : Jvm.MethodName)) ∈ WALL := wl5 188 (by decide +kernel) rfl
theorem wd_1196 : (Jvm.Cond.code ({ cls := "java/util/Arrays", name := "checkLength", desc := "(II)V" } : Jvm.MethodName) prog_39_method_131_code (2 : Nat) (Option.none : Option Jvm.ClassFile.FieldType)) ∈ WALL := wl5 189 (by decide +kernel) rfl
theorem wd_1197 : (Jvm.Cond.classLink "java/util/Arrays" (43 : Nat) "java/lang/IllegalArgumentException") ∈ WALL := wl5 190 (by decide +kernel) rfl
theorem wd_1198 : (Jvm.Cond.classLink "java/util/Arrays" (45 : Nat) "java/lang/StringBuilder") ∈ WALL := wl5 191 (by decide +kernel) rfl
theorem wd_1199 : (Jvm.Cond.methodLink "java/util/Arrays" (47 : Nat) ({ cls := "java/lang/StringBuilder", name := "<init>", desc := "()V" } : Jvm.MethodName)) ∈ WALL := wl5 192 (by decide +kernel) rfl
theorem wd_1200 : (Jvm.Cond.methodLink "java/util/Arrays" (54 : Nat) ({ cls := "java/lang/StringBuilder", name := "append", desc := "(I)Ljava/lang/StringBuilder;" } : Jvm.MethodName)) ∈ WALL := wl5 193 (by decide +kernel) rfl
theorem wd_1202 : (Jvm.Cond.methodLink "java/util/Arrays" (50 : Nat) ({ cls := "java/lang/StringBuilder", name := "append", desc := "(Ljava/lang/String;)Ljava/lang/StringBuilder;" } : Jvm.MethodName)) ∈ WALL := wl5 195 (by decide +kernel) rfl
theorem wd_1203 : (Jvm.Cond.methodLink "java/util/Arrays" (61 : Nat) ({ cls := "java/lang/StringBuilder", name := "toString", desc := "()Ljava/lang/String;" } : Jvm.MethodName)) ∈ WALL := wl5 196 (by decide +kernel) rfl
theorem wd_1204 : (Jvm.Cond.methodLink "java/util/Arrays" (65 : Nat) ({ cls := "java/lang/IllegalArgumentException", name := "<init>", desc := "(Ljava/lang/String;)V" } : Jvm.MethodName)) ∈ WALL := wl5 197 (by decide +kernel) rfl
theorem wd_1205 : (Jvm.Cond.methodLink "java/lang/String" (1051 : Nat) ({ cls := "java/lang/StringUTF16", name := "compress", desc := "([BII)[B" } : Jvm.MethodName)) ∈ WALL := wl5 198 (by decide +kernel) rfl
theorem wd_1206 : (Jvm.Cond.static ({ cls := "java/lang/StringUTF16", name := "compress", desc := "([BII)[B" } : Jvm.MethodName)) ∈ WALL := wl5 199 (by decide +kernel) rfl
theorem wd_1207 : (Jvm.Cond.code ({ cls := "java/lang/StringUTF16", name := "compress", desc := "([BII)[B" } : Jvm.MethodName) prog_30_method_17_code (6 : Nat) (Option.some (Jvm.ClassFile.FieldType.array Jvm.ClassFile.FieldType.byte))) ∈ WALL := wl5 200 (by decide +kernel) rfl
theorem wd_1208 : (Jvm.Cond.methodLink "java/lang/StringUTF16" (123 : Nat) ({ cls := "java/lang/StringUTF16", name := "compress", desc := "([BI[BII)I" } : Jvm.MethodName)) ∈ WALL := wl5 201 (by decide +kernel) rfl
theorem wd_1209 : (Jvm.Cond.static ({ cls := "java/lang/StringUTF16", name := "compress", desc := "([BI[BII)I" } : Jvm.MethodName)) ∈ WALL := wl5 202 (by decide +kernel) rfl
theorem wd_1210 : (Jvm.Cond.code ({ cls := "java/lang/StringUTF16", name := "compress", desc := "([BI[BII)I" } : Jvm.MethodName) prog_30_method_22_code (7 : Nat) (Option.some Jvm.ClassFile.FieldType.int)) ∈ WALL := wl5 203 (by decide +kernel) rfl
theorem wd_1211 : (Jvm.Cond.methodLink "java/lang/StringUTF16" (71 : Nat) ({ cls := "java/lang/StringUTF16", name := "getChar", desc := "([BI)C" } : Jvm.MethodName)) ∈ WALL := wl5 204 (by decide +kernel) rfl
theorem wd_1212 : (Jvm.Cond.static ({ cls := "java/lang/StringUTF16", name := "getChar", desc := "([BI)C" } : Jvm.MethodName)) ∈ WALL := wl5 205 (by decide +kernel) rfl
theorem wd_1213 : (Jvm.Cond.code ({ cls := "java/lang/StringUTF16", name := "getChar", desc := "([BI)C" } : Jvm.MethodName) prog_30_method_5_code (2 : Nat) (Option.some Jvm.ClassFile.FieldType.char)) ∈ WALL := wl5 206 (by decide +kernel) rfl
theorem wd_1214 : (Jvm.Cond.methodLink "java/lang/StringUTF16" (126 : Nat) ({ cls := "java/util/Arrays", name := "copyOfRange", desc := "([BII)[B" } : Jvm.MethodName)) ∈ WALL := wl5 207 (by decide +kernel) rfl
theorem wd_1215 : (Jvm.Cond.methodLink "java/lang/String" (47 : Nat) ({ cls := "java/lang/StringUTF16", name := "coderFromArrayLen", desc := "([BI)B" } : Jvm.MethodName)) ∈ WALL := wl5 208 (by decide +kernel) rfl
theorem wd_1216 : (Jvm.Cond.static ({ cls := "java/lang/StringUTF16", name := "coderFromArrayLen", desc := "([BI)B" } : Jvm.MethodName)) ∈ WALL := wl5 209 (by decide +kernel) rfl
theorem wd_1217 : (Jvm.Cond.code ({ cls := "java/lang/StringUTF16", name := "coderFromArrayLen", desc := "([BI)B" } : Jvm.MethodName) prog_30_method_15_code (2 : Nat) (Option.some Jvm.ClassFile.FieldType.byte)) ∈ WALL := wl5 210 (by decide +kernel) rfl
theorem wd_1218 : (Jvm.Cond.fieldLink "java/lang/String" (9 : Nat) "java/lang/String" "value" "[B") ∈ WALL := wl5 211 (by decide +kernel) rfl
theorem wd_1219 : (Jvm.Cond.fieldLink "java/lang/String" (15 : Nat) "java/lang/String" "coder" "B") ∈ WALL := wl5 212 (by decide +kernel) rfl
theorem wd_1220 : (Jvm.Cond.lays "java/lang/String" "java/lang/String" "hash" "I") ∈ WALL := wl5 213 (by decide +kernel) rfl
theorem wd_1222 : (Jvm.Cond.lays "java/lang/String" "java/lang/String" "hashIsZero" "Z") ∈ WALL := wl5 215 (by decide +kernel) rfl
theorem wd_1224 : (Jvm.Cond.superclass "java/lang/String" "java/lang/Object") ∈ WALL := wl5 217 (by decide +kernel) rfl
theorem wd_1225 : (Jvm.Cond.methodLink "java/lang/StringIndexOutOfBoundsException" (7 : Nat) ({ cls := "java/lang/IndexOutOfBoundsException", name := "<init>", desc := "(Ljava/lang/String;)V" } : Jvm.MethodName)) ∈ WALL := wl5 218 (by decide +kernel) rfl
theorem wd_1226 : (Jvm.Cond.lays "java/lang/StringIndexOutOfBoundsException" "java/lang/Throwable" "backtrace" "Ljava/lang/Object;") ∈ WALL := wl5 219 (by decide +kernel) rfl
theorem wd_1227 : (Jvm.Cond.lays "java/lang/StringIndexOutOfBoundsException" "java/lang/Throwable" "detailMessage" "Ljava/lang/String;") ∈ WALL := wl5 220 (by decide +kernel) rfl
theorem wd_1228 : (Jvm.Cond.lays "java/lang/StringIndexOutOfBoundsException" "java/lang/Throwable" "cause" "Ljava/lang/Throwable;") ∈ WALL := wl5 221 (by decide +kernel) rfl
theorem wd_1229 : (Jvm.Cond.lays "java/lang/StringIndexOutOfBoundsException" "java/lang/Throwable" "stackTrace" "[Ljava/lang/StackTraceElement;") ∈ WALL := wl5 222 (by decide +kernel) rfl
theorem wd_1230 : (Jvm.Cond.lays "java/lang/StringIndexOutOfBoundsException" "java/lang/Throwable" "depth" "I") ∈ WALL := wl5 223 (by decide +kernel) rfl
theorem wd_1231 : (Jvm.Cond.lays "java/lang/StringIndexOutOfBoundsException" "java/lang/Throwable" "suppressedExceptions" "Ljava/util/List;") ∈ WALL := wl5 224 (by decide +kernel) rfl
theorem wd_1232 : (Jvm.Cond.superclass "java/lang/StringIndexOutOfBoundsException" "java/lang/IndexOutOfBoundsException") ∈ WALL := wl5 225 (by decide +kernel) rfl
theorem wd_1233 : (Jvm.Cond.methodLink "java/lang/AbstractStringBuilder" (133 : Nat) ({ cls := "java/lang/StringLatin1", name := "fillNull", desc := "([BII)V" } : Jvm.MethodName)) ∈ WALL := wl5 226 (by decide +kernel) rfl
theorem wd_1234 : (Jvm.Cond.static ({ cls := "java/lang/StringLatin1", name := "fillNull", desc := "([BII)V" } : Jvm.MethodName)) ∈ WALL := wl5 227 (by decide +kernel) rfl
theorem wd_1235 : (Jvm.Cond.code ({ cls := "java/lang/StringLatin1", name := "fillNull", desc := "([BII)V" } : Jvm.MethodName) prog_29_method_48_code (3 : Nat) (Option.none : Option Jvm.ClassFile.FieldType)) ∈ WALL := wl5 228 (by decide +kernel) rfl
theorem wd_1236 : (Jvm.Cond.methodLink "java/lang/StringLatin1" (236 : Nat) ({ cls := "java/util/Arrays", name := "fill", desc := "([BIIB)V" } : Jvm.MethodName)) ∈ WALL := wl5 229 (by decide +kernel) rfl
theorem wd_1237 : (Jvm.Cond.static ({ cls := "java/util/Arrays", name := "fill", desc := "([BIIB)V" } : Jvm.MethodName)) ∈ WALL := wl5 230 (by decide +kernel) rfl
theorem wd_1238 : (Jvm.Cond.code ({ cls := "java/util/Arrays", name := "fill", desc := "([BIIB)V" } : Jvm.MethodName) prog_39_method_110_code (5 : Nat) (Option.none : Option Jvm.ClassFile.FieldType)) ∈ WALL := wl5 231 (by decide +kernel) rfl
theorem wd_1239 : (Jvm.Cond.methodLink "java/util/Arrays" (13 : Nat) ({ cls := "java/util/Arrays", name := "rangeCheck", desc := "(III)V" } : Jvm.MethodName)) ∈ WALL := wl5 232 (by decide +kernel) rfl
theorem wd_1240 : (Jvm.Cond.static ({ cls := "java/util/Arrays", name := "rangeCheck", desc := "(III)V" } : Jvm.MethodName)) ∈ WALL := wl5 233 (by decide +kernel) rfl
theorem wd_1241 : (Jvm.Cond.code ({ cls := "java/util/Arrays", name := "rangeCheck", desc := "(III)V" } : Jvm.MethodName) prog_39_method_30_code (3 : Nat) (Option.none : Option Jvm.ClassFile.FieldType)) ∈ WALL := wl5 234 (by decide +kernel) rfl
theorem wd_1245 : (Jvm.Cond.classLink "java/util/Arrays" (68 : Nat) "java/lang/ArrayIndexOutOfBoundsException") ∈ WALL := wl5 238 (by decide +kernel) rfl
theorem wd_1246 : (Jvm.Cond.methodLink "java/util/Arrays" (70 : Nat) ({ cls := "java/lang/ArrayIndexOutOfBoundsException", name := "<init>", desc := "(I)V" } : Jvm.MethodName)) ∈ WALL := wl5 239 (by decide +kernel) rfl
theorem wd_1247 : (Jvm.Cond.instanceMethod ({ cls := "java/lang/ArrayIndexOutOfBoundsException", name := "<init>", desc := "(I)V" } : Jvm.MethodName)) ∈ WALL := wl6 0 (by decide +kernel) rfl
theorem wd_1248 : (Jvm.Cond.code ({ cls := "java/lang/ArrayIndexOutOfBoundsException", name := "<init>", desc := "(I)V" } : Jvm.MethodName) prog_13_method_3_code (2 : Nat) (Option.none : Option Jvm.ClassFile.FieldType)) ∈ WALL := wl6 1 (by decide +kernel) rfl
theorem wd_1249 : (Jvm.Cond.classLink "java/lang/ArrayIndexOutOfBoundsException" (10 : Nat) "java/lang/StringBuilder") ∈ WALL := wl6 2 (by decide +kernel) rfl
theorem wd_1250 : (Jvm.Cond.methodLink "java/lang/ArrayIndexOutOfBoundsException" (12 : Nat) ({ cls := "java/lang/StringBuilder", name := "<init>", desc := "()V" } : Jvm.MethodName)) ∈ WALL := wl6 3 (by decide +kernel) rfl
theorem wd_1252 : (Jvm.Cond.methodLink "java/lang/ArrayIndexOutOfBoundsException" (15 : Nat) ({ cls := "java/lang/StringBuilder", name := "append", desc := "(Ljava/lang/String;)Ljava/lang/StringBuilder;" } : Jvm.MethodName)) ∈ WALL := wl6 5 (by decide +kernel) rfl
theorem wd_1253 : (Jvm.Cond.methodLink "java/lang/ArrayIndexOutOfBoundsException" (19 : Nat) ({ cls := "java/lang/StringBuilder", name := "append", desc := "(I)Ljava/lang/StringBuilder;" } : Jvm.MethodName)) ∈ WALL := wl6 6 (by decide +kernel) rfl
theorem wd_1254 : (Jvm.Cond.methodLink "java/lang/ArrayIndexOutOfBoundsException" (22 : Nat) ({ cls := "java/lang/StringBuilder", name := "toString", desc := "()Ljava/lang/String;" } : Jvm.MethodName)) ∈ WALL := wl6 7 (by decide +kernel) rfl
theorem wd_1255 : (Jvm.Cond.methodLink "java/lang/AbstractStringBuilder" (137 : Nat) ({ cls := "java/lang/StringUTF16", name := "fillNull", desc := "([BII)V" } : Jvm.MethodName)) ∈ WALL := wl6 8 (by decide +kernel) rfl
theorem wd_1256 : (Jvm.Cond.static ({ cls := "java/lang/StringUTF16", name := "fillNull", desc := "([BII)V" } : Jvm.MethodName)) ∈ WALL := wl6 9 (by decide +kernel) rfl
theorem wd_1257 : (Jvm.Cond.code ({ cls := "java/lang/StringUTF16", name := "fillNull", desc := "([BII)V" } : Jvm.MethodName) prog_30_method_70_code (3 : Nat) (Option.none : Option Jvm.ClassFile.FieldType)) ∈ WALL := wl6 10 (by decide +kernel) rfl
theorem wd_1258 : (Jvm.Cond.methodLink "java/lang/StringUTF16" (380 : Nat) ({ cls := "java/util/Arrays", name := "fill", desc := "([BIIB)V" } : Jvm.MethodName)) ∈ WALL := wl6 11 (by decide +kernel) rfl
theorem wd_1259 : (Jvm.Cond.methodLink "StormBasin" (272 : Nat) ({ cls := "java/lang/StringBuilder", name := "append", desc := "(I)Ljava/lang/StringBuilder;" } : Jvm.MethodName)) ∈ WALL := wl6 12 (by decide +kernel) rfl
theorem wd_1260 : (Jvm.Cond.methodLink "StormBasin" (275 : Nat) ({ cls := "java/lang/StringBuilder", name := "append", desc := "(C)Ljava/lang/StringBuilder;" } : Jvm.MethodName)) ∈ WALL := wl6 13 (by decide +kernel) rfl
theorem wd_1261 : (Jvm.Cond.instanceMethod ({ cls := "java/lang/StringBuilder", name := "append", desc := "(C)Ljava/lang/StringBuilder;" } : Jvm.MethodName)) ∈ WALL := wl6 14 (by decide +kernel) rfl
theorem wd_1262 : (Jvm.Cond.selects "java/lang/StringBuilder" ({ cls := "java/lang/StringBuilder", name := "append", desc := "(C)Ljava/lang/StringBuilder;" } : Jvm.MethodName) ({ cls := "java/lang/StringBuilder", name := "append", desc := "(C)Ljava/lang/StringBuilder;" } : Jvm.MethodName)) ∈ WALL := wl6 15 (by decide +kernel) rfl
theorem wd_1263 : (Jvm.Cond.code ({ cls := "java/lang/StringBuilder", name := "append", desc := "(C)Ljava/lang/StringBuilder;" } : Jvm.MethodName) prog_27_method_14_code (2 : Nat) (Option.some (Jvm.ClassFile.FieldType.object "java/lang/StringBuilder"))) ∈ WALL := wl6 16 (by decide +kernel) rfl
theorem wd_1264 : (Jvm.Cond.methodLink "java/lang/StringBuilder" (50 : Nat) ({ cls := "java/lang/AbstractStringBuilder", name := "append", desc := "(C)Ljava/lang/AbstractStringBuilder;" } : Jvm.MethodName)) ∈ WALL := wl6 17 (by decide +kernel) rfl
theorem wd_1265 : (Jvm.Cond.instanceMethod ({ cls := "java/lang/AbstractStringBuilder", name := "append", desc := "(C)Ljava/lang/AbstractStringBuilder;" } : Jvm.MethodName)) ∈ WALL := wl6 18 (by decide +kernel) rfl
theorem wd_1266 : (Jvm.Cond.code ({ cls := "java/lang/AbstractStringBuilder", name := "append", desc := "(C)Ljava/lang/AbstractStringBuilder;" } : Jvm.MethodName) prog_10_method_31_code (2 : Nat) (Option.some (Jvm.ClassFile.FieldType.object "java/lang/AbstractStringBuilder"))) ∈ WALL := wl6 19 (by decide +kernel) rfl
theorem wd_1267 : (Jvm.Cond.methodLink "java/lang/AbstractStringBuilder" (191 : Nat) ({ cls := "java/lang/StringLatin1", name := "canEncode", desc := "(C)Z" } : Jvm.MethodName)) ∈ WALL := wl6 20 (by decide +kernel) rfl
theorem wd_1268 : (Jvm.Cond.static ({ cls := "java/lang/StringLatin1", name := "canEncode", desc := "(C)Z" } : Jvm.MethodName)) ∈ WALL := wl6 21 (by decide +kernel) rfl
theorem wd_1269 : (Jvm.Cond.code ({ cls := "java/lang/StringLatin1", name := "canEncode", desc := "(C)Z" } : Jvm.MethodName) prog_29_method_3_code (1 : Nat) (Option.some Jvm.ClassFile.FieldType.boolean)) ∈ WALL := wl6 22 (by decide +kernel) rfl
theorem wd_1270 : (Jvm.Cond.methodLink "java/lang/AbstractStringBuilder" (197 : Nat) ({ cls := "java/lang/StringUTF16", name := "putCharSB", desc := "([BII)V" } : Jvm.MethodName)) ∈ WALL := wl6 23 (by decide +kernel) rfl
theorem wd_1271 : (Jvm.Cond.static ({ cls := "java/lang/StringUTF16", name := "putCharSB", desc := "([BII)V" } : Jvm.MethodName)) ∈ WALL := wl6 24 (by decide +kernel) rfl
theorem wd_1272 : (Jvm.Cond.code ({ cls := "java/lang/StringUTF16", name := "putCharSB", desc := "([BII)V" } : Jvm.MethodName) prog_30_method_71_code (3 : Nat) (Option.none : Option Jvm.ClassFile.FieldType)) ∈ WALL := wl6 25 (by decide +kernel) rfl
theorem wd_1273 : (Jvm.Cond.methodLink "java/lang/StringUTF16" (67 : Nat) ({ cls := "java/lang/StringUTF16", name := "checkIndex", desc := "(I[B)V" } : Jvm.MethodName)) ∈ WALL := wl6 26 (by decide +kernel) rfl
theorem wd_1274 : (Jvm.Cond.static ({ cls := "java/lang/StringUTF16", name := "checkIndex", desc := "(I[B)V" } : Jvm.MethodName)) ∈ WALL := wl6 27 (by decide +kernel) rfl
theorem wd_1275 : (Jvm.Cond.code ({ cls := "java/lang/StringUTF16", name := "checkIndex", desc := "(I[B)V" } : Jvm.MethodName) prog_30_method_91_code (2 : Nat) (Option.none : Option Jvm.ClassFile.FieldType)) ∈ WALL := wl6 28 (by decide +kernel) rfl
theorem wd_1276 : (Jvm.Cond.methodLink "java/lang/StringUTF16" (414 : Nat) ({ cls := "java/lang/String", name := "checkIndex", desc := "(II)V" } : Jvm.MethodName)) ∈ WALL := wl6 29 (by decide +kernel) rfl
theorem wd_1277 : (Jvm.Cond.static ({ cls := "java/lang/String", name := "checkIndex", desc := "(II)V" } : Jvm.MethodName)) ∈ WALL := wl6 30 (by decide +kernel) rfl
theorem wd_1278 : (Jvm.Cond.code ({ cls := "java/lang/String", name := "checkIndex", desc := "(II)V" } : Jvm.MethodName) prog_26_method_155_code (2 : Nat) (Option.none : Option Jvm.ClassFile.FieldType)) ∈ WALL := wl6 31 (by decide +kernel) rfl
theorem wd_1279 : (Jvm.Cond.methodLink "java/lang/String" (1059 : Nat) ({ cls := "jdk/internal/util/Preconditions", name := "checkIndex", desc := "(IILjava/util/function/BiFunction;)I" } : Jvm.MethodName)) ∈ WALL := wl6 32 (by decide +kernel) rfl
theorem wd_1280 : (Jvm.Cond.methodLink "StormBasin" (291 : Nat) ({ cls := "java/lang/StringBuilder", name := "length", desc := "()I" } : Jvm.MethodName)) ∈ WALL := wl6 33 (by decide +kernel) rfl
theorem wd_1281 : (Jvm.Cond.methodLink "StormBasinLaw" (277 : Nat) ({ cls := "StormBasinLaw", name := "lineAt", desc := "(LStormBasin;I[J)I" } : Jvm.MethodName)) ∈ WALL := wl6 34 (by decide +kernel) rfl
theorem wd_1282 : (Jvm.Cond.static ({ cls := "StormBasinLaw", name := "lineAt", desc := "(LStormBasin;I[J)I" } : Jvm.MethodName)) ∈ WALL := wl6 35 (by decide +kernel) rfl
theorem wd_1283 : (Jvm.Cond.codeWith ({ cls := "StormBasinLaw", name := "lineAt", desc := "(LStormBasin;I[J)I" } : Jvm.MethodName) method_33_code (4 : Nat) (Option.some Jvm.ClassFile.FieldType.int) [((0 : Nat), (9 : Nat), (12 : Nat), (13 : Nat))]) ∈ WALL := wl6 36 (by decide +kernel) rfl
theorem wd_1284 : (Jvm.Cond.methodLink "StormBasinLaw" (120 : Nat) ({ cls := "StormBasin", name := "lineAt", desc := "(I)C" } : Jvm.MethodName)) ∈ WALL := wl6 37 (by decide +kernel) rfl
theorem wd_1285 : (Jvm.Cond.instanceMethod ({ cls := "StormBasin", name := "lineAt", desc := "(I)C" } : Jvm.MethodName)) ∈ WALL := wl6 38 (by decide +kernel) rfl
theorem wd_1286 : (Jvm.Cond.selects "StormBasin" ({ cls := "StormBasin", name := "lineAt", desc := "(I)C" } : Jvm.MethodName) ({ cls := "StormBasin", name := "lineAt", desc := "(I)C" } : Jvm.MethodName)) ∈ WALL := wl6 39 (by decide +kernel) rfl
theorem wd_1287 : (Jvm.Cond.code ({ cls := "StormBasin", name := "lineAt", desc := "(I)C" } : Jvm.MethodName) prog_1_method_43_code (2 : Nat) (Option.some Jvm.ClassFile.FieldType.char)) ∈ WALL := wl6 40 (by decide +kernel) rfl
theorem wd_1289 : (Jvm.Cond.methodLink "StormBasin" (296 : Nat) ({ cls := "java/lang/StringBuilder", name := "charAt", desc := "(I)C" } : Jvm.MethodName)) ∈ WALL := wl6 42 (by decide +kernel) rfl
theorem wd_1290 : (Jvm.Cond.instanceMethod ({ cls := "java/lang/StringBuilder", name := "charAt", desc := "(I)C" } : Jvm.MethodName)) ∈ WALL := wl6 43 (by decide +kernel) rfl
theorem wd_1291 : (Jvm.Cond.selects "java/lang/StringBuilder" ({ cls := "java/lang/StringBuilder", name := "charAt", desc := "(I)C" } : Jvm.MethodName) ({ cls := "java/lang/StringBuilder", name := "charAt", desc := "(I)C" } : Jvm.MethodName)) ∈ WALL := wl6 44 (by decide +kernel) rfl
theorem wd_1292 : (Jvm.Cond.code ({ cls := "java/lang/StringBuilder", name := "charAt", desc := "(I)C" } : Jvm.MethodName) prog_27_method_88_code (2 : Nat) (Option.some Jvm.ClassFile.FieldType.char)) ∈ WALL := wl6 45 (by decide +kernel) rfl
theorem wd_1293 : (Jvm.Cond.methodLink "java/lang/StringBuilder" (329 : Nat) ({ cls := "java/lang/AbstractStringBuilder", name := "charAt", desc := "(I)C" } : Jvm.MethodName)) ∈ WALL := wl6 46 (by decide +kernel) rfl
theorem wd_1294 : (Jvm.Cond.instanceMethod ({ cls := "java/lang/AbstractStringBuilder", name := "charAt", desc := "(I)C" } : Jvm.MethodName)) ∈ WALL := wl6 47 (by decide +kernel) rfl
theorem wd_1295 : (Jvm.Cond.code ({ cls := "java/lang/AbstractStringBuilder", name := "charAt", desc := "(I)C" } : Jvm.MethodName) prog_10_method_14_code (5 : Nat) (Option.some Jvm.ClassFile.FieldType.char)) ∈ WALL := wl6 48 (by decide +kernel) rfl
theorem wd_1296 : (Jvm.Cond.methodLink "java/lang/AbstractStringBuilder" (138 : Nat) ({ cls := "java/lang/Math", name := "min", desc := "(II)I" } : Jvm.MethodName)) ∈ WALL := wl6 49 (by decide +kernel) rfl
theorem wd_1297 : (Jvm.Cond.methodLink "java/lang/AbstractStringBuilder" (144 : Nat) ({ cls := "java/lang/String", name := "checkIndex", desc := "(II)V" } : Jvm.MethodName)) ∈ WALL := wl6 50 (by decide +kernel) rfl
theorem wd_1298 : (Jvm.Cond.methodLink "java/lang/AbstractStringBuilder" (148 : Nat) ({ cls := "java/lang/StringUTF16", name := "getChar", desc := "([BI)C" } : Jvm.MethodName)) ∈ WALL := wl6 51 (by decide +kernel) rfl
theorem wd_1299 : (Jvm.Cond.classLink "StormBasinLaw" (125 : Nat) "StormBasinModel") ∈ WALL := wl6 52 (by decide +kernel) rfl
theorem wd_1300 : (Jvm.Cond.instantiable "StormBasinModel" (38 : Nat)) ∈ WALL := wl6 53 (by decide +kernel) rfl
theorem wd_1301 : (Jvm.Cond.methodLink "StormBasinLaw" (127 : Nat) ({ cls := "StormBasinModel", name := "<init>", desc := "()V" } : Jvm.MethodName)) ∈ WALL := wl6 54 (by decide +kernel) rfl
theorem wd_1302 : (Jvm.Cond.instanceMethod ({ cls := "StormBasinModel", name := "<init>", desc := "()V" } : Jvm.MethodName)) ∈ WALL := wl6 55 (by decide +kernel) rfl
theorem wd_1303 : (Jvm.Cond.code ({ cls := "StormBasinModel", name := "<init>", desc := "()V" } : Jvm.MethodName) prog_8_method_1_code (1 : Nat) (Option.none : Option Jvm.ClassFile.FieldType)) ∈ WALL := wl6 56 (by decide +kernel) rfl
theorem wd_1304 : (Jvm.Cond.methodLink "StormBasinModel" (1 : Nat) ({ cls := "java/lang/Object", name := "<init>", desc := "()V" } : Jvm.MethodName)) ∈ WALL := wl6 57 (by decide +kernel) rfl
theorem wd_1305 : (Jvm.Cond.fieldLink "StormBasinModel" (100 : Nat) "StormBasinModel" "basins" "I") ∈ WALL := wl6 58 (by decide +kernel) rfl
theorem wd_1306 : (Jvm.Cond.fieldLink "StormBasinModel" (7 : Nat) "StormBasinModel" "areas" "[I") ∈ WALL := wl6 59 (by decide +kernel) rfl
theorem wd_1307 : (Jvm.Cond.fieldLink "StormBasinModel" (13 : Nat) "StormBasinModel" "depths" "[I") ∈ WALL := wl6 60 (by decide +kernel) rfl
theorem wd_1308 : (Jvm.Cond.fieldLink "StormBasinModel" (16 : Nat) "StormBasinModel" "widths" "[I") ∈ WALL := wl6 61 (by decide +kernel) rfl
theorem wd_1309 : (Jvm.Cond.fieldLink "StormBasinModel" (19 : Nat) "StormBasinModel" "belows" "[I") ∈ WALL := wl6 62 (by decide +kernel) rfl
theorem wd_1310 : (Jvm.Cond.fieldLink "StormBasinModel" (22 : Nat) "StormBasinModel" "hands" "[I") ∈ WALL := wl6 63 (by decide +kernel) rfl
theorem wd_1311 : (Jvm.Cond.fieldLink "StormBasinModel" (25 : Nat) "StormBasinModel" "rains" "[I") ∈ WALL := wl6 64 (by decide +kernel) rfl
theorem wd_1312 : (Jvm.Cond.fieldLink "StormBasinModel" (28 : Nat) "StormBasinModel" "cells" "[I") ∈ WALL := wl6 65 (by decide +kernel) rfl
theorem wd_1313 : (Jvm.Cond.fieldLink "StormBasinModel" (31 : Nat) "StormBasinModel" "heights" "[I") ∈ WALL := wl6 66 (by decide +kernel) rfl
theorem wd_1314 : (Jvm.Cond.fieldLink "StormBasinModel" (34 : Nat) "StormBasinModel" "volumes" "[I") ∈ WALL := wl6 67 (by decide +kernel) rfl
theorem wd_1315 : (Jvm.Cond.fieldLink "StormBasinModel" (37 : Nat) "StormBasinModel" "streets" "[I") ∈ WALL := wl6 68 (by decide +kernel) rfl
theorem wd_1316 : (Jvm.Cond.fieldLink "StormBasinModel" (40 : Nat) "StormBasinModel" "tryVolumes" "[I") ∈ WALL := wl6 69 (by decide +kernel) rfl
theorem wd_1317 : (Jvm.Cond.fieldLink "StormBasinModel" (43 : Nat) "StormBasinModel" "tryStreets" "[I") ∈ WALL := wl6 70 (by decide +kernel) rfl
theorem wd_1318 : (Jvm.Cond.fieldLink "StormBasinModel" (46 : Nat) "StormBasinModel" "outs" "[I") ∈ WALL := wl6 71 (by decide +kernel) rfl
theorem wd_1319 : (Jvm.Cond.fieldLink "StormBasinModel" (111 : Nat) "StormBasinModel" "rules" "I") ∈ WALL := wl6 72 (by decide +kernel) rfl
theorem wd_1320 : (Jvm.Cond.fieldLink "StormBasinModel" (49 : Nat) "StormBasinModel" "gates" "[I") ∈ WALL := wl6 73 (by decide +kernel) rfl
theorem wd_1321 : (Jvm.Cond.fieldLink "StormBasinModel" (52 : Nat) "StormBasinModel" "observed" "[I") ∈ WALL := wl6 74 (by decide +kernel) rfl
theorem wd_1322 : (Jvm.Cond.fieldLink "StormBasinModel" (55 : Nat) "StormBasinModel" "areFrom" "[Z") ∈ WALL := wl6 75 (by decide +kernel) rfl
theorem wd_1323 : (Jvm.Cond.fieldLink "StormBasinModel" (59 : Nat) "StormBasinModel" "levels" "[I") ∈ WALL := wl6 76 (by decide +kernel) rfl
theorem wd_1324 : (Jvm.Cond.fieldLink "StormBasinModel" (62 : Nat) "StormBasinModel" "openings" "[I") ∈ WALL := wl6 77 (by decide +kernel) rfl
theorem wd_1325 : (Jvm.Cond.fieldLink "StormBasinModel" (120 : Nat) "StormBasinModel" "clock" "I") ∈ WALL := wl6 78 (by decide +kernel) rfl
theorem wd_1326 : (Jvm.Cond.fieldLink "StormBasinModel" (148 : Nat) "StormBasinModel" "fallen" "I") ∈ WALL := wl6 79 (by decide +kernel) rfl
theorem wd_1327 : (Jvm.Cond.fieldLink "StormBasinModel" (151 : Nat) "StormBasinModel" "river" "I") ∈ WALL := wl6 80 (by decide +kernel) rfl
theorem wd_1328 : (Jvm.Cond.fieldLink "StormBasinModel" (65 : Nat) "StormBasinModel" "rainThen" "[I") ∈ WALL := wl6 81 (by decide +kernel) rfl
theorem wd_1329 : (Jvm.Cond.fieldLink "StormBasinModel" (68 : Nat) "StormBasinModel" "streetThen" "[I") ∈ WALL := wl6 82 (by decide +kernel) rfl
theorem wd_1330 : (Jvm.Cond.fieldLink "StormBasinModel" (117 : Nat) "StormBasinModel" "houses" "I") ∈ WALL := wl6 83 (by decide +kernel) rfl
theorem wd_1331 : (Jvm.Cond.fieldLink "StormBasinModel" (71 : Nat) "StormBasinModel" "houseBasins" "[I") ∈ WALL := wl6 84 (by decide +kernel) rfl
theorem wd_1332 : (Jvm.Cond.fieldLink "StormBasinModel" (74 : Nat) "StormBasinModel" "houseCells" "[I") ∈ WALL := wl6 85 (by decide +kernel) rfl
theorem wd_1333 : (Jvm.Cond.fieldLink "StormBasinModel" (77 : Nat) "StormBasinModel" "rates" "[I") ∈ WALL := wl6 86 (by decide +kernel) rfl
theorem wd_1334 : (Jvm.Cond.fieldLink "StormBasinModel" (80 : Nat) "StormBasinModel" "covers" "[I") ∈ WALL := wl6 87 (by decide +kernel) rfl
theorem wd_1335 : (Jvm.Cond.fieldLink "StormBasinModel" (83 : Nat) "StormBasinModel" "paid" "[I") ∈ WALL := wl6 88 (by decide +kernel) rfl
theorem wd_1336 : (Jvm.Cond.fieldLink "StormBasinModel" (86 : Nat) "StormBasinModel" "areClaimed" "[Z") ∈ WALL := wl6 89 (by decide +kernel) rfl
theorem wd_1337 : (Jvm.Cond.fieldLink "StormBasinModel" (194 : Nat) "StormBasinModel" "claims" "I") ∈ WALL := wl6 90 (by decide +kernel) rfl
theorem wd_1338 : (Jvm.Cond.fieldLink "StormBasinModel" (89 : Nat) "StormBasinModel" "fixedBasin" "I") ∈ WALL := wl6 91 (by decide +kernel) rfl
theorem wd_1339 : (Jvm.Cond.fieldLink "StormBasinModel" (137 : Nat) "StormBasinModel" "fixedOpening" "I") ∈ WALL := wl6 92 (by decide +kernel) rfl
theorem wd_1340 : (Jvm.Cond.fieldLink "StormBasinModel" (93 : Nat) "StormBasinModel" "line" "[C") ∈ WALL := wl6 93 (by decide +kernel) rfl
theorem wd_1341 : (Jvm.Cond.fieldLink "StormBasinModel" (207 : Nat) "StormBasinModel" "length" "I") ∈ WALL := wl6 94 (by decide +kernel) rfl
theorem wd_1342 : (Jvm.Cond.fieldLink "StormBasinModel" (97 : Nat) "StormBasinModel" "code" "I") ∈ WALL := wl6 95 (by decide +kernel) rfl
theorem wd_1343 : (Jvm.Cond.lays "StormBasinModel" "StormBasinModel" "basins" "I") ∈ WALL := wl6 96 (by decide +kernel) rfl
theorem wd_1345 : (Jvm.Cond.laysFinal "StormBasinModel" "StormBasinModel" "areas" "[I") ∈ WALL := wl6 98 (by decide +kernel) rfl
theorem wd_1347 : (Jvm.Cond.laysFinal "StormBasinModel" "StormBasinModel" "depths" "[I") ∈ WALL := wl6 100 (by decide +kernel) rfl
theorem wd_1349 : (Jvm.Cond.laysFinal "StormBasinModel" "StormBasinModel" "widths" "[I") ∈ WALL := wl6 102 (by decide +kernel) rfl
theorem wd_1351 : (Jvm.Cond.laysFinal "StormBasinModel" "StormBasinModel" "belows" "[I") ∈ WALL := wl6 104 (by decide +kernel) rfl
theorem wd_1353 : (Jvm.Cond.laysFinal "StormBasinModel" "StormBasinModel" "hands" "[I") ∈ WALL := wl6 106 (by decide +kernel) rfl
theorem wd_1355 : (Jvm.Cond.laysFinal "StormBasinModel" "StormBasinModel" "rains" "[I") ∈ WALL := wl6 108 (by decide +kernel) rfl
theorem wd_1357 : (Jvm.Cond.laysFinal "StormBasinModel" "StormBasinModel" "cells" "[I") ∈ WALL := wl6 110 (by decide +kernel) rfl
theorem wd_1359 : (Jvm.Cond.laysFinal "StormBasinModel" "StormBasinModel" "heights" "[I") ∈ WALL := wl6 112 (by decide +kernel) rfl
theorem wd_1361 : (Jvm.Cond.laysFinal "StormBasinModel" "StormBasinModel" "volumes" "[I") ∈ WALL := wl6 114 (by decide +kernel) rfl
theorem wd_1363 : (Jvm.Cond.laysFinal "StormBasinModel" "StormBasinModel" "streets" "[I") ∈ WALL := wl6 116 (by decide +kernel) rfl
theorem wd_1365 : (Jvm.Cond.laysFinal "StormBasinModel" "StormBasinModel" "tryVolumes" "[I") ∈ WALL := wl6 118 (by decide +kernel) rfl
theorem wd_1367 : (Jvm.Cond.laysFinal "StormBasinModel" "StormBasinModel" "tryStreets" "[I") ∈ WALL := wl6 120 (by decide +kernel) rfl
theorem wd_1369 : (Jvm.Cond.laysFinal "StormBasinModel" "StormBasinModel" "outs" "[I") ∈ WALL := wl6 122 (by decide +kernel) rfl
theorem wd_1371 : (Jvm.Cond.lays "StormBasinModel" "StormBasinModel" "rules" "I") ∈ WALL := wl6 124 (by decide +kernel) rfl
theorem wd_1373 : (Jvm.Cond.laysFinal "StormBasinModel" "StormBasinModel" "gates" "[I") ∈ WALL := wl6 126 (by decide +kernel) rfl
theorem wd_1375 : (Jvm.Cond.laysFinal "StormBasinModel" "StormBasinModel" "observed" "[I") ∈ WALL := wl6 128 (by decide +kernel) rfl
theorem wd_1377 : (Jvm.Cond.laysFinal "StormBasinModel" "StormBasinModel" "areFrom" "[Z") ∈ WALL := wl6 130 (by decide +kernel) rfl
theorem wd_1379 : (Jvm.Cond.laysFinal "StormBasinModel" "StormBasinModel" "levels" "[I") ∈ WALL := wl6 132 (by decide +kernel) rfl
theorem wd_1381 : (Jvm.Cond.laysFinal "StormBasinModel" "StormBasinModel" "openings" "[I") ∈ WALL := wl6 134 (by decide +kernel) rfl
theorem wd_1383 : (Jvm.Cond.lays "StormBasinModel" "StormBasinModel" "clock" "I") ∈ WALL := wl6 136 (by decide +kernel) rfl
theorem wd_1385 : (Jvm.Cond.lays "StormBasinModel" "StormBasinModel" "fallen" "I") ∈ WALL := wl6 138 (by decide +kernel) rfl
theorem wd_1387 : (Jvm.Cond.lays "StormBasinModel" "StormBasinModel" "river" "I") ∈ WALL := wl6 140 (by decide +kernel) rfl
theorem wd_1389 : (Jvm.Cond.laysFinal "StormBasinModel" "StormBasinModel" "rainThen" "[I") ∈ WALL := wl6 142 (by decide +kernel) rfl
theorem wd_1391 : (Jvm.Cond.laysFinal "StormBasinModel" "StormBasinModel" "streetThen" "[I") ∈ WALL := wl6 144 (by decide +kernel) rfl
theorem wd_1393 : (Jvm.Cond.lays "StormBasinModel" "StormBasinModel" "houses" "I") ∈ WALL := wl6 146 (by decide +kernel) rfl
theorem wd_1395 : (Jvm.Cond.laysFinal "StormBasinModel" "StormBasinModel" "houseBasins" "[I") ∈ WALL := wl6 148 (by decide +kernel) rfl
theorem wd_1397 : (Jvm.Cond.laysFinal "StormBasinModel" "StormBasinModel" "houseCells" "[I") ∈ WALL := wl6 150 (by decide +kernel) rfl
theorem wd_1399 : (Jvm.Cond.laysFinal "StormBasinModel" "StormBasinModel" "rates" "[I") ∈ WALL := wl6 152 (by decide +kernel) rfl
theorem wd_1401 : (Jvm.Cond.laysFinal "StormBasinModel" "StormBasinModel" "covers" "[I") ∈ WALL := wl6 154 (by decide +kernel) rfl
theorem wd_1403 : (Jvm.Cond.laysFinal "StormBasinModel" "StormBasinModel" "paid" "[I") ∈ WALL := wl6 156 (by decide +kernel) rfl
theorem wd_1405 : (Jvm.Cond.laysFinal "StormBasinModel" "StormBasinModel" "areClaimed" "[Z") ∈ WALL := wl6 158 (by decide +kernel) rfl
theorem wd_1407 : (Jvm.Cond.lays "StormBasinModel" "StormBasinModel" "claims" "I") ∈ WALL := wl6 160 (by decide +kernel) rfl
theorem wd_1409 : (Jvm.Cond.lays "StormBasinModel" "StormBasinModel" "fixedBasin" "I") ∈ WALL := wl6 162 (by decide +kernel) rfl
theorem wd_1411 : (Jvm.Cond.lays "StormBasinModel" "StormBasinModel" "fixedOpening" "I") ∈ WALL := wl6 164 (by decide +kernel) rfl
theorem wd_1413 : (Jvm.Cond.laysFinal "StormBasinModel" "StormBasinModel" "line" "[C") ∈ WALL := wl6 166 (by decide +kernel) rfl
theorem wd_1415 : (Jvm.Cond.lays "StormBasinModel" "StormBasinModel" "length" "I") ∈ WALL := wl6 168 (by decide +kernel) rfl
theorem wd_1417 : (Jvm.Cond.lays "StormBasinModel" "StormBasinModel" "code" "I") ∈ WALL := wl6 170 (by decide +kernel) rfl
theorem wd_1419 : (Jvm.Cond.superclass "StormBasinModel" "java/lang/Object") ∈ WALL := wl6 172 (by decide +kernel) rfl
theorem wd_1420 : (Jvm.Cond.arrayClass Jvm.ClassFile.FieldType.char) ∈ WALL := wl6 173 (by decide +kernel) rfl
theorem wd_1421 : (Jvm.Cond.methodLink "StormBasinLaw" (134 : Nat) ({ cls := "StormBasinModel", name := "thrown", desc := "()I" } : Jvm.MethodName)) ∈ WALL := wl6 174 (by decide +kernel) rfl
theorem wd_1422 : (Jvm.Cond.instanceMethod ({ cls := "StormBasinModel", name := "thrown", desc := "()I" } : Jvm.MethodName)) ∈ WALL := wl6 175 (by decide +kernel) rfl
theorem wd_1423 : (Jvm.Cond.selects "StormBasinModel" ({ cls := "StormBasinModel", name := "thrown", desc := "()I" } : Jvm.MethodName) ({ cls := "StormBasinModel", name := "thrown", desc := "()I" } : Jvm.MethodName)) ∈ WALL := wl6 176 (by decide +kernel) rfl
theorem wd_1424 : (Jvm.Cond.code ({ cls := "StormBasinModel", name := "thrown", desc := "()I" } : Jvm.MethodName) prog_8_method_2_code (1 : Nat) (Option.some Jvm.ClassFile.FieldType.int)) ∈ WALL := wl6 177 (by decide +kernel) rfl
theorem wd_1425 : (Jvm.Cond.methodLink "StormBasinLaw" (133 : Nat) ({ cls := "StormBasinModel", name := "addBasin", desc := "(IIIII)I" } : Jvm.MethodName)) ∈ WALL := wl6 178 (by decide +kernel) rfl
theorem wd_1426 : (Jvm.Cond.instanceMethod ({ cls := "StormBasinModel", name := "addBasin", desc := "(IIIII)I" } : Jvm.MethodName)) ∈ WALL := wl6 179 (by decide +kernel) rfl
theorem wd_1427 : (Jvm.Cond.selects "StormBasinModel" ({ cls := "StormBasinModel", name := "addBasin", desc := "(IIIII)I" } : Jvm.MethodName) ({ cls := "StormBasinModel", name := "addBasin", desc := "(IIIII)I" } : Jvm.MethodName)) ∈ WALL := wl6 180 (by decide +kernel) rfl
theorem wd_1428 : (Jvm.Cond.code ({ cls := "StormBasinModel", name := "addBasin", desc := "(IIIII)I" } : Jvm.MethodName) prog_8_method_11_code (8 : Nat) (Option.some Jvm.ClassFile.FieldType.int)) ∈ WALL := wl6 181 (by decide +kernel) rfl
theorem wd_1429 : (Jvm.Cond.methodLink "StormBasinModel" (107 : Nat) ({ cls := "StormBasinModel", name := "isNone", desc := "(I)Z" } : Jvm.MethodName)) ∈ WALL := wl6 182 (by decide +kernel) rfl
theorem wd_1431 : (Jvm.Cond.instanceMethod ({ cls := "StormBasinModel", name := "isNone", desc := "(I)Z" } : Jvm.MethodName)) ∈ WALL := wl6 184 (by decide +kernel) rfl
theorem wd_1432 : (Jvm.Cond.code ({ cls := "StormBasinModel", name := "isNone", desc := "(I)Z" } : Jvm.MethodName) prog_8_method_7_code (2 : Nat) (Option.some Jvm.ClassFile.FieldType.boolean)) ∈ WALL := wl6 185 (by decide +kernel) rfl
theorem wd_1433 : (Jvm.Cond.methodLink "StormBasinModel" (103 : Nat) ({ cls := "StormBasinModel", name := "in", desc := "(III)Z" } : Jvm.MethodName)) ∈ WALL := wl6 186 (by decide +kernel) rfl
theorem wd_1434 : (Jvm.Cond.static ({ cls := "StormBasinModel", name := "in", desc := "(III)Z" } : Jvm.MethodName)) ∈ WALL := wl6 187 (by decide +kernel) rfl
theorem wd_1435 : (Jvm.Cond.code ({ cls := "StormBasinModel", name := "in", desc := "(III)Z" } : Jvm.MethodName) prog_8_method_5_code (3 : Nat) (Option.some Jvm.ClassFile.FieldType.boolean)) ∈ WALL := wl6 188 (by decide +kernel) rfl
theorem wd_1436 : (Jvm.Cond.methodLink "StormBasinModel" (114 : Nat) ({ cls := "StormBasinModel", name := "fails", desc := "(I)Z" } : Jvm.MethodName)) ∈ WALL := wl6 189 (by decide +kernel) rfl
theorem wd_1438 : (Jvm.Cond.instanceMethod ({ cls := "StormBasinModel", name := "fails", desc := "(I)Z" } : Jvm.MethodName)) ∈ WALL := wl6 191 (by decide +kernel) rfl
theorem wd_1439 : (Jvm.Cond.code ({ cls := "StormBasinModel", name := "fails", desc := "(I)Z" } : Jvm.MethodName) prog_8_method_3_code (2 : Nat) (Option.some Jvm.ClassFile.FieldType.boolean)) ∈ WALL := wl6 192 (by decide +kernel) rfl
theorem wd_1440 : (Jvm.Cond.methodLink "StormBasinLaw" (141 : Nat) ({ cls := "StormBasinModel", name := "addCell", desc := "(II)I" } : Jvm.MethodName)) ∈ WALL := wl6 193 (by decide +kernel) rfl
theorem wd_1441 : (Jvm.Cond.instanceMethod ({ cls := "StormBasinModel", name := "addCell", desc := "(II)I" } : Jvm.MethodName)) ∈ WALL := wl6 194 (by decide +kernel) rfl
theorem wd_1442 : (Jvm.Cond.selects "StormBasinModel" ({ cls := "StormBasinModel", name := "addCell", desc := "(II)I" } : Jvm.MethodName) ({ cls := "StormBasinModel", name := "addCell", desc := "(II)I" } : Jvm.MethodName)) ∈ WALL := wl6 195 (by decide +kernel) rfl
theorem wd_1443 : (Jvm.Cond.code ({ cls := "StormBasinModel", name := "addCell", desc := "(II)I" } : Jvm.MethodName) prog_8_method_12_code (3 : Nat) (Option.some Jvm.ClassFile.FieldType.int)) ∈ WALL := wl6 196 (by decide +kernel) rfl
theorem wd_1444 : (Jvm.Cond.methodLink "StormBasinLaw" (145 : Nat) ({ cls := "StormBasinModel", name := "basinCount", desc := "()I" } : Jvm.MethodName)) ∈ WALL := wl6 197 (by decide +kernel) rfl
theorem wd_1445 : (Jvm.Cond.instanceMethod ({ cls := "StormBasinModel", name := "basinCount", desc := "()I" } : Jvm.MethodName)) ∈ WALL := wl6 198 (by decide +kernel) rfl
theorem wd_1446 : (Jvm.Cond.selects "StormBasinModel" ({ cls := "StormBasinModel", name := "basinCount", desc := "()I" } : Jvm.MethodName) ({ cls := "StormBasinModel", name := "basinCount", desc := "()I" } : Jvm.MethodName)) ∈ WALL := wl6 199 (by decide +kernel) rfl
theorem wd_1447 : (Jvm.Cond.code ({ cls := "StormBasinModel", name := "basinCount", desc := "()I" } : Jvm.MethodName) prog_8_method_13_code (1 : Nat) (Option.some Jvm.ClassFile.FieldType.int)) ∈ WALL := wl6 200 (by decide +kernel) rfl
theorem wd_1448 : (Jvm.Cond.methodLink "StormBasinModel" (123 : Nat) ({ cls := "StormBasinModel", name := "tells", desc := "(I)I" } : Jvm.MethodName)) ∈ WALL := wl6 201 (by decide +kernel) rfl
theorem wd_1450 : (Jvm.Cond.instanceMethod ({ cls := "StormBasinModel", name := "tells", desc := "(I)I" } : Jvm.MethodName)) ∈ WALL := wl6 203 (by decide +kernel) rfl
theorem wd_1451 : (Jvm.Cond.code ({ cls := "StormBasinModel", name := "tells", desc := "(I)I" } : Jvm.MethodName) prog_8_method_4_code (2 : Nat) (Option.some Jvm.ClassFile.FieldType.int)) ∈ WALL := wl6 204 (by decide +kernel) rfl
theorem wd_1452 : (Jvm.Cond.methodLink "StormBasinLaw" (149 : Nat) ({ cls := "StormBasinModel", name := "cellCount", desc := "(I)I" } : Jvm.MethodName)) ∈ WALL := wl6 205 (by decide +kernel) rfl
theorem wd_1453 : (Jvm.Cond.instanceMethod ({ cls := "StormBasinModel", name := "cellCount", desc := "(I)I" } : Jvm.MethodName)) ∈ WALL := wl6 206 (by decide +kernel) rfl
theorem wd_1454 : (Jvm.Cond.selects "StormBasinModel" ({ cls := "StormBasinModel", name := "cellCount", desc := "(I)I" } : Jvm.MethodName) ({ cls := "StormBasinModel", name := "cellCount", desc := "(I)I" } : Jvm.MethodName)) ∈ WALL := wl6 207 (by decide +kernel) rfl
theorem wd_1455 : (Jvm.Cond.code ({ cls := "StormBasinModel", name := "cellCount", desc := "(I)I" } : Jvm.MethodName) prog_8_method_14_code (2 : Nat) (Option.some Jvm.ClassFile.FieldType.int)) ∈ WALL := wl6 208 (by decide +kernel) rfl
theorem wd_1456 : (Jvm.Cond.methodLink "StormBasinLaw" (152 : Nat) ({ cls := "StormBasinModel", name := "capacityOf", desc := "(I)I" } : Jvm.MethodName)) ∈ WALL := wl6 209 (by decide +kernel) rfl
theorem wd_1457 : (Jvm.Cond.instanceMethod ({ cls := "StormBasinModel", name := "capacityOf", desc := "(I)I" } : Jvm.MethodName)) ∈ WALL := wl6 210 (by decide +kernel) rfl
theorem wd_1458 : (Jvm.Cond.selects "StormBasinModel" ({ cls := "StormBasinModel", name := "capacityOf", desc := "(I)I" } : Jvm.MethodName) ({ cls := "StormBasinModel", name := "capacityOf", desc := "(I)I" } : Jvm.MethodName)) ∈ WALL := wl6 211 (by decide +kernel) rfl
theorem wd_1459 : (Jvm.Cond.code ({ cls := "StormBasinModel", name := "capacityOf", desc := "(I)I" } : Jvm.MethodName) prog_8_method_16_code (2 : Nat) (Option.some Jvm.ClassFile.FieldType.int)) ∈ WALL := wl6 212 (by decide +kernel) rfl
theorem wd_1460 : (Jvm.Cond.methodLink "StormBasinModel" (127 : Nat) ({ cls := "StormBasinModel", name := "holds", desc := "(I)I" } : Jvm.MethodName)) ∈ WALL := wl6 213 (by decide +kernel) rfl
theorem wd_1462 : (Jvm.Cond.instanceMethod ({ cls := "StormBasinModel", name := "holds", desc := "(I)I" } : Jvm.MethodName)) ∈ WALL := wl6 215 (by decide +kernel) rfl
theorem wd_1463 : (Jvm.Cond.code ({ cls := "StormBasinModel", name := "holds", desc := "(I)I" } : Jvm.MethodName) prog_8_method_15_code (2 : Nat) (Option.some Jvm.ClassFile.FieldType.int)) ∈ WALL := wl6 216 (by decide +kernel) rfl
theorem wd_1464 : (Jvm.Cond.methodLink "StormBasinLaw" (155 : Nat) ({ cls := "StormBasinModel", name := "setHand", desc := "(II)I" } : Jvm.MethodName)) ∈ WALL := wl6 217 (by decide +kernel) rfl
theorem wd_1465 : (Jvm.Cond.instanceMethod ({ cls := "StormBasinModel", name := "setHand", desc := "(II)I" } : Jvm.MethodName)) ∈ WALL := wl6 218 (by decide +kernel) rfl
theorem wd_1466 : (Jvm.Cond.selects "StormBasinModel" ({ cls := "StormBasinModel", name := "setHand", desc := "(II)I" } : Jvm.MethodName) ({ cls := "StormBasinModel", name := "setHand", desc := "(II)I" } : Jvm.MethodName)) ∈ WALL := wl6 219 (by decide +kernel) rfl
theorem wd_1467 : (Jvm.Cond.code ({ cls := "StormBasinModel", name := "setHand", desc := "(II)I" } : Jvm.MethodName) prog_8_method_17_code (4 : Nat) (Option.some Jvm.ClassFile.FieldType.int)) ∈ WALL := wl6 220 (by decide +kernel) rfl
theorem wd_1468 : (Jvm.Cond.methodLink "StormBasinLaw" (159 : Nat) ({ cls := "StormBasinModel", name := "addRule", desc := "(IIZII)I" } : Jvm.MethodName)) ∈ WALL := wl6 221 (by decide +kernel) rfl
theorem wd_1469 : (Jvm.Cond.instanceMethod ({ cls := "StormBasinModel", name := "addRule", desc := "(IIZII)I" } : Jvm.MethodName)) ∈ WALL := wl6 222 (by decide +kernel) rfl
theorem wd_1470 : (Jvm.Cond.selects "StormBasinModel" ({ cls := "StormBasinModel", name := "addRule", desc := "(IIZII)I" } : Jvm.MethodName) ({ cls := "StormBasinModel", name := "addRule", desc := "(IIZII)I" } : Jvm.MethodName)) ∈ WALL := wl6 223 (by decide +kernel) rfl
theorem wd_1471 : (Jvm.Cond.code ({ cls := "StormBasinModel", name := "addRule", desc := "(IIZII)I" } : Jvm.MethodName) prog_8_method_18_code (6 : Nat) (Option.some Jvm.ClassFile.FieldType.int)) ∈ WALL := wl6 224 (by decide +kernel) rfl
theorem wd_1472 : (Jvm.Cond.methodLink "StormBasinLaw" (162 : Nat) ({ cls := "StormBasinModel", name := "removeRule", desc := "(I)I" } : Jvm.MethodName)) ∈ WALL := wl6 225 (by decide +kernel) rfl
theorem wd_1473 : (Jvm.Cond.instanceMethod ({ cls := "StormBasinModel", name := "removeRule", desc := "(I)I" } : Jvm.MethodName)) ∈ WALL := wl6 226 (by decide +kernel) rfl
theorem wd_1474 : (Jvm.Cond.selects "StormBasinModel" ({ cls := "StormBasinModel", name := "removeRule", desc := "(I)I" } : Jvm.MethodName) ({ cls := "StormBasinModel", name := "removeRule", desc := "(I)I" } : Jvm.MethodName)) ∈ WALL := wl6 227 (by decide +kernel) rfl
theorem wd_1475 : (Jvm.Cond.code ({ cls := "StormBasinModel", name := "removeRule", desc := "(I)I" } : Jvm.MethodName) prog_8_method_19_code (3 : Nat) (Option.some Jvm.ClassFile.FieldType.int)) ∈ WALL := wl6 228 (by decide +kernel) rfl
theorem wd_1476 : (Jvm.Cond.methodLink "StormBasinModel" (130 : Nat) ({ cls := "StormBasinModel", name := "isNoRule", desc := "(I)Z" } : Jvm.MethodName)) ∈ WALL := wl6 229 (by decide +kernel) rfl
theorem wd_1478 : (Jvm.Cond.instanceMethod ({ cls := "StormBasinModel", name := "isNoRule", desc := "(I)Z" } : Jvm.MethodName)) ∈ WALL := wl6 231 (by decide +kernel) rfl
theorem wd_1479 : (Jvm.Cond.code ({ cls := "StormBasinModel", name := "isNoRule", desc := "(I)Z" } : Jvm.MethodName) prog_8_method_9_code (2 : Nat) (Option.some Jvm.ClassFile.FieldType.boolean)) ∈ WALL := wl6 232 (by decide +kernel) rfl
theorem wd_1480 : (Jvm.Cond.methodLink "StormBasinLaw" (166 : Nat) ({ cls := "StormBasinModel", name := "ruleCount", desc := "()I" } : Jvm.MethodName)) ∈ WALL := wl6 233 (by decide +kernel) rfl
theorem wd_1481 : (Jvm.Cond.instanceMethod ({ cls := "StormBasinModel", name := "ruleCount", desc := "()I" } : Jvm.MethodName)) ∈ WALL := wl6 234 (by decide +kernel) rfl
theorem wd_1482 : (Jvm.Cond.selects "StormBasinModel" ({ cls := "StormBasinModel", name := "ruleCount", desc := "()I" } : Jvm.MethodName) ({ cls := "StormBasinModel", name := "ruleCount", desc := "()I" } : Jvm.MethodName)) ∈ WALL := wl6 235 (by decide +kernel) rfl
theorem wd_1483 : (Jvm.Cond.code ({ cls := "StormBasinModel", name := "ruleCount", desc := "()I" } : Jvm.MethodName) prog_8_method_20_code (1 : Nat) (Option.some Jvm.ClassFile.FieldType.int)) ∈ WALL := wl6 236 (by decide +kernel) rfl
theorem wd_1484 : (Jvm.Cond.methodLink "StormBasinLaw" (169 : Nat) ({ cls := "StormBasinModel", name := "doesHold", desc := "(I)Z" } : Jvm.MethodName)) ∈ WALL := wl6 237 (by decide +kernel) rfl
theorem wd_1485 : (Jvm.Cond.instanceMethod ({ cls := "StormBasinModel", name := "doesHold", desc := "(I)Z" } : Jvm.MethodName)) ∈ WALL := wl6 238 (by decide +kernel) rfl
theorem wd_1486 : (Jvm.Cond.selects "StormBasinModel" ({ cls := "StormBasinModel", name := "doesHold", desc := "(I)Z" } : Jvm.MethodName) ({ cls := "StormBasinModel", name := "doesHold", desc := "(I)Z" } : Jvm.MethodName)) ∈ WALL := wl6 239 (by decide +kernel) rfl
theorem wd_1487 : (Jvm.Cond.code ({ cls := "StormBasinModel", name := "doesHold", desc := "(I)Z" } : Jvm.MethodName) prog_8_method_22_code (2 : Nat) (Option.some Jvm.ClassFile.FieldType.boolean)) ∈ WALL := wl7 0 (by decide +kernel) rfl
theorem wd_1488 : (Jvm.Cond.methodLink "StormBasinModel" (133 : Nat) ({ cls := "StormBasinModel", name := "isTrue", desc := "(I[I)Z" } : Jvm.MethodName)) ∈ WALL := wl7 1 (by decide +kernel) rfl
theorem wd_1490 : (Jvm.Cond.instanceMethod ({ cls := "StormBasinModel", name := "isTrue", desc := "(I[I)Z" } : Jvm.MethodName)) ∈ WALL := wl7 3 (by decide +kernel) rfl
theorem wd_1491 : (Jvm.Cond.code ({ cls := "StormBasinModel", name := "isTrue", desc := "(I[I)Z" } : Jvm.MethodName) prog_8_method_21_code (3 : Nat) (Option.some Jvm.ClassFile.FieldType.boolean)) ∈ WALL := wl7 4 (by decide +kernel) rfl
theorem wd_1492 : (Jvm.Cond.methodLink "StormBasinLaw" (172 : Nat) ({ cls := "StormBasinModel", name := "openingNow", desc := "(I)I" } : Jvm.MethodName)) ∈ WALL := wl7 5 (by decide +kernel) rfl
theorem wd_1493 : (Jvm.Cond.instanceMethod ({ cls := "StormBasinModel", name := "openingNow", desc := "(I)I" } : Jvm.MethodName)) ∈ WALL := wl7 6 (by decide +kernel) rfl
theorem wd_1494 : (Jvm.Cond.selects "StormBasinModel" ({ cls := "StormBasinModel", name := "openingNow", desc := "(I)I" } : Jvm.MethodName) ({ cls := "StormBasinModel", name := "openingNow", desc := "(I)I" } : Jvm.MethodName)) ∈ WALL := wl7 7 (by decide +kernel) rfl
theorem wd_1495 : (Jvm.Cond.code ({ cls := "StormBasinModel", name := "openingNow", desc := "(I)I" } : Jvm.MethodName) prog_8_method_24_code (2 : Nat) (Option.some Jvm.ClassFile.FieldType.int)) ∈ WALL := wl7 8 (by decide +kernel) rfl
theorem wd_1496 : (Jvm.Cond.methodLink "StormBasinModel" (140 : Nat) ({ cls := "StormBasinModel", name := "opening", desc := "(I[I)I" } : Jvm.MethodName)) ∈ WALL := wl7 9 (by decide +kernel) rfl
theorem wd_1498 : (Jvm.Cond.instanceMethod ({ cls := "StormBasinModel", name := "opening", desc := "(I[I)I" } : Jvm.MethodName)) ∈ WALL := wl7 11 (by decide +kernel) rfl
theorem wd_1499 : (Jvm.Cond.code ({ cls := "StormBasinModel", name := "opening", desc := "(I[I)I" } : Jvm.MethodName) prog_8_method_23_code (5 : Nat) (Option.some Jvm.ClassFile.FieldType.int)) ∈ WALL := wl7 12 (by decide +kernel) rfl
theorem wd_1500 : (Jvm.Cond.methodLink "StormBasinLaw" (175 : Nat) ({ cls := "StormBasinModel", name := "setRain", desc := "(II)I" } : Jvm.MethodName)) ∈ WALL := wl7 13 (by decide +kernel) rfl
theorem wd_1501 : (Jvm.Cond.instanceMethod ({ cls := "StormBasinModel", name := "setRain", desc := "(II)I" } : Jvm.MethodName)) ∈ WALL := wl7 14 (by decide +kernel) rfl
theorem wd_1502 : (Jvm.Cond.selects "StormBasinModel" ({ cls := "StormBasinModel", name := "setRain", desc := "(II)I" } : Jvm.MethodName) ({ cls := "StormBasinModel", name := "setRain", desc := "(II)I" } : Jvm.MethodName)) ∈ WALL := wl7 15 (by decide +kernel) rfl
theorem wd_1503 : (Jvm.Cond.code ({ cls := "StormBasinModel", name := "setRain", desc := "(II)I" } : Jvm.MethodName) prog_8_method_25_code (4 : Nat) (Option.some Jvm.ClassFile.FieldType.int)) ∈ WALL := wl7 16 (by decide +kernel) rfl
theorem wd_1504 : (Jvm.Cond.methodLink "StormBasinLaw" (178 : Nat) ({ cls := "StormBasinModel", name := "pass", desc := "(I)I" } : Jvm.MethodName)) ∈ WALL := wl7 17 (by decide +kernel) rfl
theorem wd_1505 : (Jvm.Cond.instanceMethod ({ cls := "StormBasinModel", name := "pass", desc := "(I)I" } : Jvm.MethodName)) ∈ WALL := wl7 18 (by decide +kernel) rfl
theorem wd_1506 : (Jvm.Cond.selects "StormBasinModel" ({ cls := "StormBasinModel", name := "pass", desc := "(I)I" } : Jvm.MethodName) ({ cls := "StormBasinModel", name := "pass", desc := "(I)I" } : Jvm.MethodName)) ∈ WALL := wl7 19 (by decide +kernel) rfl
theorem wd_1507 : (Jvm.Cond.code ({ cls := "StormBasinModel", name := "pass", desc := "(I)I" } : Jvm.MethodName) prog_8_method_27_code (4 : Nat) (Option.some Jvm.ClassFile.FieldType.int)) ∈ WALL := wl7 20 (by decide +kernel) rfl
theorem wd_1508 : (Jvm.Cond.methodLink "StormBasinModel" (154 : Nat) ({ cls := "StormBasinModel", name := "flows", desc := "([I[I)I" } : Jvm.MethodName)) ∈ WALL := wl7 21 (by decide +kernel) rfl
theorem wd_1510 : (Jvm.Cond.instanceMethod ({ cls := "StormBasinModel", name := "flows", desc := "([I[I)I" } : Jvm.MethodName)) ∈ WALL := wl7 23 (by decide +kernel) rfl
theorem wd_1511 : (Jvm.Cond.code ({ cls := "StormBasinModel", name := "flows", desc := "([I[I)I" } : Jvm.MethodName) prog_8_method_26_code (5 : Nat) (Option.some Jvm.ClassFile.FieldType.int)) ∈ WALL := wl7 24 (by decide +kernel) rfl
theorem wd_1512 : (Jvm.Cond.methodLink "StormBasinModel" (144 : Nat) ({ cls := "StormBasinModel", name := "lesser", desc := "(II)I" } : Jvm.MethodName)) ∈ WALL := wl7 25 (by decide +kernel) rfl
theorem wd_1513 : (Jvm.Cond.static ({ cls := "StormBasinModel", name := "lesser", desc := "(II)I" } : Jvm.MethodName)) ∈ WALL := wl7 26 (by decide +kernel) rfl
theorem wd_1514 : (Jvm.Cond.code ({ cls := "StormBasinModel", name := "lesser", desc := "(II)I" } : Jvm.MethodName) prog_8_method_6_code (2 : Nat) (Option.some Jvm.ClassFile.FieldType.int)) ∈ WALL := wl7 27 (by decide +kernel) rfl
theorem wd_1515 : (Jvm.Cond.methodLink "StormBasinLaw" (182 : Nat) ({ cls := "StormBasinModel", name := "clock", desc := "()I" } : Jvm.MethodName)) ∈ WALL := wl7 28 (by decide +kernel) rfl
theorem wd_1516 : (Jvm.Cond.instanceMethod ({ cls := "StormBasinModel", name := "clock", desc := "()I" } : Jvm.MethodName)) ∈ WALL := wl7 29 (by decide +kernel) rfl
theorem wd_1517 : (Jvm.Cond.selects "StormBasinModel" ({ cls := "StormBasinModel", name := "clock", desc := "()I" } : Jvm.MethodName) ({ cls := "StormBasinModel", name := "clock", desc := "()I" } : Jvm.MethodName)) ∈ WALL := wl7 30 (by decide +kernel) rfl
theorem wd_1518 : (Jvm.Cond.code ({ cls := "StormBasinModel", name := "clock", desc := "()I" } : Jvm.MethodName) prog_8_method_28_code (1 : Nat) (Option.some Jvm.ClassFile.FieldType.int)) ∈ WALL := wl7 31 (by decide +kernel) rfl
theorem wd_1519 : (Jvm.Cond.methodLink "StormBasinLaw" (185 : Nat) ({ cls := "StormBasinModel", name := "volumeOf", desc := "(I)I" } : Jvm.MethodName)) ∈ WALL := wl7 32 (by decide +kernel) rfl
theorem wd_1520 : (Jvm.Cond.instanceMethod ({ cls := "StormBasinModel", name := "volumeOf", desc := "(I)I" } : Jvm.MethodName)) ∈ WALL := wl7 33 (by decide +kernel) rfl
theorem wd_1521 : (Jvm.Cond.selects "StormBasinModel" ({ cls := "StormBasinModel", name := "volumeOf", desc := "(I)I" } : Jvm.MethodName) ({ cls := "StormBasinModel", name := "volumeOf", desc := "(I)I" } : Jvm.MethodName)) ∈ WALL := wl7 34 (by decide +kernel) rfl
theorem wd_1522 : (Jvm.Cond.code ({ cls := "StormBasinModel", name := "volumeOf", desc := "(I)I" } : Jvm.MethodName) prog_8_method_29_code (2 : Nat) (Option.some Jvm.ClassFile.FieldType.int)) ∈ WALL := wl7 35 (by decide +kernel) rfl
theorem wd_1523 : (Jvm.Cond.methodLink "StormBasinLaw" (188 : Nat) ({ cls := "StormBasinModel", name := "levelOf", desc := "(I)I" } : Jvm.MethodName)) ∈ WALL := wl7 36 (by decide +kernel) rfl
theorem wd_1524 : (Jvm.Cond.instanceMethod ({ cls := "StormBasinModel", name := "levelOf", desc := "(I)I" } : Jvm.MethodName)) ∈ WALL := wl7 37 (by decide +kernel) rfl
theorem wd_1525 : (Jvm.Cond.selects "StormBasinModel" ({ cls := "StormBasinModel", name := "levelOf", desc := "(I)I" } : Jvm.MethodName) ({ cls := "StormBasinModel", name := "levelOf", desc := "(I)I" } : Jvm.MethodName)) ∈ WALL := wl7 38 (by decide +kernel) rfl
theorem wd_1526 : (Jvm.Cond.code ({ cls := "StormBasinModel", name := "levelOf", desc := "(I)I" } : Jvm.MethodName) prog_8_method_30_code (2 : Nat) (Option.some Jvm.ClassFile.FieldType.int)) ∈ WALL := wl7 39 (by decide +kernel) rfl
theorem wd_1527 : (Jvm.Cond.methodLink "StormBasinLaw" (191 : Nat) ({ cls := "StormBasinModel", name := "streetVolume", desc := "(I)I" } : Jvm.MethodName)) ∈ WALL := wl7 40 (by decide +kernel) rfl
theorem wd_1528 : (Jvm.Cond.instanceMethod ({ cls := "StormBasinModel", name := "streetVolume", desc := "(I)I" } : Jvm.MethodName)) ∈ WALL := wl7 41 (by decide +kernel) rfl
theorem wd_1529 : (Jvm.Cond.selects "StormBasinModel" ({ cls := "StormBasinModel", name := "streetVolume", desc := "(I)I" } : Jvm.MethodName) ({ cls := "StormBasinModel", name := "streetVolume", desc := "(I)I" } : Jvm.MethodName)) ∈ WALL := wl7 42 (by decide +kernel) rfl
theorem wd_1530 : (Jvm.Cond.code ({ cls := "StormBasinModel", name := "streetVolume", desc := "(I)I" } : Jvm.MethodName) prog_8_method_31_code (2 : Nat) (Option.some Jvm.ClassFile.FieldType.int)) ∈ WALL := wl7 43 (by decide +kernel) rfl
theorem wd_1531 : (Jvm.Cond.methodLink "StormBasinLaw" (195 : Nat) ({ cls := "StormBasinModel", name := "rainTotal", desc := "()I" } : Jvm.MethodName)) ∈ WALL := wl7 44 (by decide +kernel) rfl
theorem wd_1532 : (Jvm.Cond.instanceMethod ({ cls := "StormBasinModel", name := "rainTotal", desc := "()I" } : Jvm.MethodName)) ∈ WALL := wl7 45 (by decide +kernel) rfl
theorem wd_1533 : (Jvm.Cond.selects "StormBasinModel" ({ cls := "StormBasinModel", name := "rainTotal", desc := "()I" } : Jvm.MethodName) ({ cls := "StormBasinModel", name := "rainTotal", desc := "()I" } : Jvm.MethodName)) ∈ WALL := wl7 46 (by decide +kernel) rfl
theorem wd_1534 : (Jvm.Cond.code ({ cls := "StormBasinModel", name := "rainTotal", desc := "()I" } : Jvm.MethodName) prog_8_method_32_code (1 : Nat) (Option.some Jvm.ClassFile.FieldType.int)) ∈ WALL := wl7 47 (by decide +kernel) rfl
theorem wd_1535 : (Jvm.Cond.methodLink "StormBasinLaw" (199 : Nat) ({ cls := "StormBasinModel", name := "riverTotal", desc := "()I" } : Jvm.MethodName)) ∈ WALL := wl7 48 (by decide +kernel) rfl
theorem wd_1536 : (Jvm.Cond.instanceMethod ({ cls := "StormBasinModel", name := "riverTotal", desc := "()I" } : Jvm.MethodName)) ∈ WALL := wl7 49 (by decide +kernel) rfl
theorem wd_1537 : (Jvm.Cond.selects "StormBasinModel" ({ cls := "StormBasinModel", name := "riverTotal", desc := "()I" } : Jvm.MethodName) ({ cls := "StormBasinModel", name := "riverTotal", desc := "()I" } : Jvm.MethodName)) ∈ WALL := wl7 50 (by decide +kernel) rfl
theorem wd_1538 : (Jvm.Cond.code ({ cls := "StormBasinModel", name := "riverTotal", desc := "()I" } : Jvm.MethodName) prog_8_method_33_code (1 : Nat) (Option.some Jvm.ClassFile.FieldType.int)) ∈ WALL := wl7 51 (by decide +kernel) rfl
theorem wd_1539 : (Jvm.Cond.methodLink "StormBasinLaw" (203 : Nat) ({ cls := "StormBasinModel", name := "heldTotal", desc := "()I" } : Jvm.MethodName)) ∈ WALL := wl7 52 (by decide +kernel) rfl
theorem wd_1540 : (Jvm.Cond.instanceMethod ({ cls := "StormBasinModel", name := "heldTotal", desc := "()I" } : Jvm.MethodName)) ∈ WALL := wl7 53 (by decide +kernel) rfl
theorem wd_1541 : (Jvm.Cond.selects "StormBasinModel" ({ cls := "StormBasinModel", name := "heldTotal", desc := "()I" } : Jvm.MethodName) ({ cls := "StormBasinModel", name := "heldTotal", desc := "()I" } : Jvm.MethodName)) ∈ WALL := wl7 54 (by decide +kernel) rfl
theorem wd_1542 : (Jvm.Cond.code ({ cls := "StormBasinModel", name := "heldTotal", desc := "()I" } : Jvm.MethodName) prog_8_method_35_code (1 : Nat) (Option.some Jvm.ClassFile.FieldType.int)) ∈ WALL := wl7 55 (by decide +kernel) rfl
theorem wd_1543 : (Jvm.Cond.methodLink "StormBasinModel" (158 : Nat) ({ cls := "StormBasinModel", name := "held", desc := "()I" } : Jvm.MethodName)) ∈ WALL := wl7 56 (by decide +kernel) rfl
theorem wd_1545 : (Jvm.Cond.instanceMethod ({ cls := "StormBasinModel", name := "held", desc := "()I" } : Jvm.MethodName)) ∈ WALL := wl7 58 (by decide +kernel) rfl
theorem wd_1546 : (Jvm.Cond.code ({ cls := "StormBasinModel", name := "held", desc := "()I" } : Jvm.MethodName) prog_8_method_34_code (3 : Nat) (Option.some Jvm.ClassFile.FieldType.int)) ∈ WALL := wl7 59 (by decide +kernel) rfl
theorem wd_1547 : (Jvm.Cond.methodLink "StormBasinLaw" (208 : Nat) ({ cls := "StormBasinModel", name := "isBalanced", desc := "()Z" } : Jvm.MethodName)) ∈ WALL := wl7 60 (by decide +kernel) rfl
theorem wd_1548 : (Jvm.Cond.instanceMethod ({ cls := "StormBasinModel", name := "isBalanced", desc := "()Z" } : Jvm.MethodName)) ∈ WALL := wl7 61 (by decide +kernel) rfl
theorem wd_1549 : (Jvm.Cond.selects "StormBasinModel" ({ cls := "StormBasinModel", name := "isBalanced", desc := "()Z" } : Jvm.MethodName) ({ cls := "StormBasinModel", name := "isBalanced", desc := "()Z" } : Jvm.MethodName)) ∈ WALL := wl7 62 (by decide +kernel) rfl
theorem wd_1550 : (Jvm.Cond.code ({ cls := "StormBasinModel", name := "isBalanced", desc := "()Z" } : Jvm.MethodName) prog_8_method_36_code (1 : Nat) (Option.some Jvm.ClassFile.FieldType.boolean)) ∈ WALL := wl7 63 (by decide +kernel) rfl
theorem wd_1551 : (Jvm.Cond.methodLink "StormBasinLaw" (211 : Nat) ({ cls := "StormBasinModel", name := "depthAt", desc := "(II)I" } : Jvm.MethodName)) ∈ WALL := wl7 64 (by decide +kernel) rfl
theorem wd_1552 : (Jvm.Cond.instanceMethod ({ cls := "StormBasinModel", name := "depthAt", desc := "(II)I" } : Jvm.MethodName)) ∈ WALL := wl7 65 (by decide +kernel) rfl
theorem wd_1553 : (Jvm.Cond.selects "StormBasinModel" ({ cls := "StormBasinModel", name := "depthAt", desc := "(II)I" } : Jvm.MethodName) ({ cls := "StormBasinModel", name := "depthAt", desc := "(II)I" } : Jvm.MethodName)) ∈ WALL := wl7 66 (by decide +kernel) rfl
theorem wd_1554 : (Jvm.Cond.code ({ cls := "StormBasinModel", name := "depthAt", desc := "(II)I" } : Jvm.MethodName) prog_8_method_41_code (3 : Nat) (Option.some Jvm.ClassFile.FieldType.int)) ∈ WALL := wl7 67 (by decide +kernel) rfl
theorem wd_1555 : (Jvm.Cond.methodLink "StormBasinModel" (176 : Nat) ({ cls := "StormBasinModel", name := "deep", desc := "(II)I" } : Jvm.MethodName)) ∈ WALL := wl7 68 (by decide +kernel) rfl
theorem wd_1557 : (Jvm.Cond.instanceMethod ({ cls := "StormBasinModel", name := "deep", desc := "(II)I" } : Jvm.MethodName)) ∈ WALL := wl7 70 (by decide +kernel) rfl
theorem wd_1558 : (Jvm.Cond.code ({ cls := "StormBasinModel", name := "deep", desc := "(II)I" } : Jvm.MethodName) prog_8_method_40_code (3 : Nat) (Option.some Jvm.ClassFile.FieldType.int)) ∈ WALL := wl7 71 (by decide +kernel) rfl
theorem wd_1559 : (Jvm.Cond.methodLink "StormBasinModel" (168 : Nat) ({ cls := "StormBasinModel", name := "isNoCell", desc := "(II)Z" } : Jvm.MethodName)) ∈ WALL := wl7 72 (by decide +kernel) rfl
theorem wd_1561 : (Jvm.Cond.instanceMethod ({ cls := "StormBasinModel", name := "isNoCell", desc := "(II)Z" } : Jvm.MethodName)) ∈ WALL := wl7 74 (by decide +kernel) rfl
theorem wd_1562 : (Jvm.Cond.code ({ cls := "StormBasinModel", name := "isNoCell", desc := "(II)Z" } : Jvm.MethodName) prog_8_method_8_code (3 : Nat) (Option.some Jvm.ClassFile.FieldType.boolean)) ∈ WALL := wl7 75 (by decide +kernel) rfl
theorem wd_1563 : (Jvm.Cond.methodLink "StormBasinModel" (172 : Nat) ({ cls := "StormBasinModel", name := "depth", desc := "(III)I" } : Jvm.MethodName)) ∈ WALL := wl7 76 (by decide +kernel) rfl
theorem wd_1565 : (Jvm.Cond.instanceMethod ({ cls := "StormBasinModel", name := "depth", desc := "(III)I" } : Jvm.MethodName)) ∈ WALL := wl7 78 (by decide +kernel) rfl
theorem wd_1566 : (Jvm.Cond.code ({ cls := "StormBasinModel", name := "depth", desc := "(III)I" } : Jvm.MethodName) prog_8_method_39_code (8 : Nat) (Option.some Jvm.ClassFile.FieldType.int)) ∈ WALL := wl7 79 (by decide +kernel) rfl
theorem wd_1567 : (Jvm.Cond.methodLink "StormBasinModel" (165 : Nat) ({ cls := "StormBasinModel", name := "heightOf", desc := "(II)I" } : Jvm.MethodName)) ∈ WALL := wl7 80 (by decide +kernel) rfl
theorem wd_1569 : (Jvm.Cond.instanceMethod ({ cls := "StormBasinModel", name := "heightOf", desc := "(II)I" } : Jvm.MethodName)) ∈ WALL := wl7 82 (by decide +kernel) rfl
theorem wd_1570 : (Jvm.Cond.code ({ cls := "StormBasinModel", name := "heightOf", desc := "(II)I" } : Jvm.MethodName) prog_8_method_38_code (6 : Nat) (Option.some Jvm.ClassFile.FieldType.int)) ∈ WALL := wl7 83 (by decide +kernel) rfl
theorem wd_1571 : (Jvm.Cond.methodLink "StormBasinModel" (162 : Nat) ({ cls := "StormBasinModel", name := "upTo", desc := "(II)I" } : Jvm.MethodName)) ∈ WALL := wl7 84 (by decide +kernel) rfl
theorem wd_1573 : (Jvm.Cond.instanceMethod ({ cls := "StormBasinModel", name := "upTo", desc := "(II)I" } : Jvm.MethodName)) ∈ WALL := wl7 86 (by decide +kernel) rfl
theorem wd_1574 : (Jvm.Cond.code ({ cls := "StormBasinModel", name := "upTo", desc := "(II)I" } : Jvm.MethodName) prog_8_method_37_code (5 : Nat) (Option.some Jvm.ClassFile.FieldType.int)) ∈ WALL := wl7 87 (by decide +kernel) rfl
theorem wd_1575 : (Jvm.Cond.methodLink "StormBasinLaw" (214 : Nat) ({ cls := "StormBasinModel", name := "depthByPouring", desc := "(II)I" } : Jvm.MethodName)) ∈ WALL := wl7 88 (by decide +kernel) rfl
theorem wd_1576 : (Jvm.Cond.instanceMethod ({ cls := "StormBasinModel", name := "depthByPouring", desc := "(II)I" } : Jvm.MethodName)) ∈ WALL := wl7 89 (by decide +kernel) rfl
theorem wd_1577 : (Jvm.Cond.selects "StormBasinModel" ({ cls := "StormBasinModel", name := "depthByPouring", desc := "(II)I" } : Jvm.MethodName) ({ cls := "StormBasinModel", name := "depthByPouring", desc := "(II)I" } : Jvm.MethodName)) ∈ WALL := wl7 90 (by decide +kernel) rfl
theorem wd_1578 : (Jvm.Cond.code ({ cls := "StormBasinModel", name := "depthByPouring", desc := "(II)I" } : Jvm.MethodName) prog_8_method_42_code (3 : Nat) (Option.some Jvm.ClassFile.FieldType.int)) ∈ WALL := wl7 91 (by decide +kernel) rfl
theorem wd_1579 : (Jvm.Cond.methodLink "StormBasinLaw" (218 : Nat) ({ cls := "StormBasinModel", name := "depthThen", desc := "(III)I" } : Jvm.MethodName)) ∈ WALL := wl7 92 (by decide +kernel) rfl
theorem wd_1580 : (Jvm.Cond.instanceMethod ({ cls := "StormBasinModel", name := "depthThen", desc := "(III)I" } : Jvm.MethodName)) ∈ WALL := wl7 93 (by decide +kernel) rfl
theorem wd_1581 : (Jvm.Cond.selects "StormBasinModel" ({ cls := "StormBasinModel", name := "depthThen", desc := "(III)I" } : Jvm.MethodName) ({ cls := "StormBasinModel", name := "depthThen", desc := "(III)I" } : Jvm.MethodName)) ∈ WALL := wl7 94 (by decide +kernel) rfl
theorem wd_1582 : (Jvm.Cond.code ({ cls := "StormBasinModel", name := "depthThen", desc := "(III)I" } : Jvm.MethodName) prog_8_method_44_code (4 : Nat) (Option.some Jvm.ClassFile.FieldType.int)) ∈ WALL := wl7 95 (by decide +kernel) rfl
theorem wd_1583 : (Jvm.Cond.methodLink "StormBasinModel" (179 : Nat) ({ cls := "StormBasinModel", name := "then", desc := "(III)I" } : Jvm.MethodName)) ∈ WALL := wl7 96 (by decide +kernel) rfl
theorem wd_1585 : (Jvm.Cond.instanceMethod ({ cls := "StormBasinModel", name := "then", desc := "(III)I" } : Jvm.MethodName)) ∈ WALL := wl7 98 (by decide +kernel) rfl
theorem wd_1586 : (Jvm.Cond.code ({ cls := "StormBasinModel", name := "then", desc := "(III)I" } : Jvm.MethodName) prog_8_method_43_code (4 : Nat) (Option.some Jvm.ClassFile.FieldType.int)) ∈ WALL := wl7 99 (by decide +kernel) rfl
theorem wd_1587 : (Jvm.Cond.methodLink "StormBasinLaw" (221 : Nat) ({ cls := "StormBasinModel", name := "wetCells", desc := "(I)I" } : Jvm.MethodName)) ∈ WALL := wl7 100 (by decide +kernel) rfl
theorem wd_1588 : (Jvm.Cond.instanceMethod ({ cls := "StormBasinModel", name := "wetCells", desc := "(I)I" } : Jvm.MethodName)) ∈ WALL := wl7 101 (by decide +kernel) rfl
theorem wd_1589 : (Jvm.Cond.selects "StormBasinModel" ({ cls := "StormBasinModel", name := "wetCells", desc := "(I)I" } : Jvm.MethodName) ({ cls := "StormBasinModel", name := "wetCells", desc := "(I)I" } : Jvm.MethodName)) ∈ WALL := wl7 102 (by decide +kernel) rfl
theorem wd_1590 : (Jvm.Cond.code ({ cls := "StormBasinModel", name := "wetCells", desc := "(I)I" } : Jvm.MethodName) prog_8_method_46_code (2 : Nat) (Option.some Jvm.ClassFile.FieldType.int)) ∈ WALL := wl7 103 (by decide +kernel) rfl
theorem wd_1591 : (Jvm.Cond.methodLink "StormBasinModel" (182 : Nat) ({ cls := "StormBasinModel", name := "wet", desc := "(II)I" } : Jvm.MethodName)) ∈ WALL := wl7 104 (by decide +kernel) rfl
theorem wd_1593 : (Jvm.Cond.instanceMethod ({ cls := "StormBasinModel", name := "wet", desc := "(II)I" } : Jvm.MethodName)) ∈ WALL := wl7 106 (by decide +kernel) rfl
theorem wd_1594 : (Jvm.Cond.code ({ cls := "StormBasinModel", name := "wet", desc := "(II)I" } : Jvm.MethodName) prog_8_method_45_code (5 : Nat) (Option.some Jvm.ClassFile.FieldType.int)) ∈ WALL := wl7 107 (by decide +kernel) rfl
theorem wd_1595 : (Jvm.Cond.methodLink "StormBasinLaw" (224 : Nat) ({ cls := "StormBasinModel", name := "wetHours", desc := "(II)I" } : Jvm.MethodName)) ∈ WALL := wl7 108 (by decide +kernel) rfl
theorem wd_1596 : (Jvm.Cond.instanceMethod ({ cls := "StormBasinModel", name := "wetHours", desc := "(II)I" } : Jvm.MethodName)) ∈ WALL := wl7 109 (by decide +kernel) rfl
theorem wd_1597 : (Jvm.Cond.selects "StormBasinModel" ({ cls := "StormBasinModel", name := "wetHours", desc := "(II)I" } : Jvm.MethodName) ({ cls := "StormBasinModel", name := "wetHours", desc := "(II)I" } : Jvm.MethodName)) ∈ WALL := wl7 110 (by decide +kernel) rfl
theorem wd_1598 : (Jvm.Cond.code ({ cls := "StormBasinModel", name := "wetHours", desc := "(II)I" } : Jvm.MethodName) prog_8_method_47_code (5 : Nat) (Option.some Jvm.ClassFile.FieldType.int)) ∈ WALL := wl7 111 (by decide +kernel) rfl
theorem wd_1599 : (Jvm.Cond.methodLink "StormBasinLaw" (228 : Nat) ({ cls := "StormBasinModel", name := "floodedSoFar", desc := "()I" } : Jvm.MethodName)) ∈ WALL := wl7 112 (by decide +kernel) rfl
theorem wd_1600 : (Jvm.Cond.instanceMethod ({ cls := "StormBasinModel", name := "floodedSoFar", desc := "()I" } : Jvm.MethodName)) ∈ WALL := wl7 113 (by decide +kernel) rfl
theorem wd_1601 : (Jvm.Cond.selects "StormBasinModel" ({ cls := "StormBasinModel", name := "floodedSoFar", desc := "()I" } : Jvm.MethodName) ({ cls := "StormBasinModel", name := "floodedSoFar", desc := "()I" } : Jvm.MethodName)) ∈ WALL := wl7 114 (by decide +kernel) rfl
theorem wd_1602 : (Jvm.Cond.code ({ cls := "StormBasinModel", name := "floodedSoFar", desc := "()I" } : Jvm.MethodName) prog_8_method_48_code (4 : Nat) (Option.some Jvm.ClassFile.FieldType.int)) ∈ WALL := wl7 115 (by decide +kernel) rfl
theorem wd_1603 : (Jvm.Cond.methodLink "StormBasinLaw" (232 : Nat) ({ cls := "StormBasinModel", name := "addHouse", desc := "(IIII)I" } : Jvm.MethodName)) ∈ WALL := wl7 116 (by decide +kernel) rfl
theorem wd_1604 : (Jvm.Cond.instanceMethod ({ cls := "StormBasinModel", name := "addHouse", desc := "(IIII)I" } : Jvm.MethodName)) ∈ WALL := wl7 117 (by decide +kernel) rfl
theorem wd_1605 : (Jvm.Cond.selects "StormBasinModel" ({ cls := "StormBasinModel", name := "addHouse", desc := "(IIII)I" } : Jvm.MethodName) ({ cls := "StormBasinModel", name := "addHouse", desc := "(IIII)I" } : Jvm.MethodName)) ∈ WALL := wl7 118 (by decide +kernel) rfl
theorem wd_1606 : (Jvm.Cond.code ({ cls := "StormBasinModel", name := "addHouse", desc := "(IIII)I" } : Jvm.MethodName) prog_8_method_49_code (5 : Nat) (Option.some Jvm.ClassFile.FieldType.int)) ∈ WALL := wl7 119 (by decide +kernel) rfl
theorem wd_1607 : (Jvm.Cond.methodLink "StormBasinLaw" (236 : Nat) ({ cls := "StormBasinModel", name := "houseCount", desc := "()I" } : Jvm.MethodName)) ∈ WALL := wl7 120 (by decide +kernel) rfl
theorem wd_1608 : (Jvm.Cond.instanceMethod ({ cls := "StormBasinModel", name := "houseCount", desc := "()I" } : Jvm.MethodName)) ∈ WALL := wl7 121 (by decide +kernel) rfl
theorem wd_1609 : (Jvm.Cond.selects "StormBasinModel" ({ cls := "StormBasinModel", name := "houseCount", desc := "()I" } : Jvm.MethodName) ({ cls := "StormBasinModel", name := "houseCount", desc := "()I" } : Jvm.MethodName)) ∈ WALL := wl7 122 (by decide +kernel) rfl
theorem wd_1610 : (Jvm.Cond.code ({ cls := "StormBasinModel", name := "houseCount", desc := "()I" } : Jvm.MethodName) prog_8_method_50_code (1 : Nat) (Option.some Jvm.ClassFile.FieldType.int)) ∈ WALL := wl7 123 (by decide +kernel) rfl
theorem wd_1611 : (Jvm.Cond.methodLink "StormBasinLaw" (239 : Nat) ({ cls := "StormBasinModel", name := "wasWet", desc := "(II)Z" } : Jvm.MethodName)) ∈ WALL := wl7 124 (by decide +kernel) rfl
theorem wd_1612 : (Jvm.Cond.instanceMethod ({ cls := "StormBasinModel", name := "wasWet", desc := "(II)Z" } : Jvm.MethodName)) ∈ WALL := wl7 125 (by decide +kernel) rfl
theorem wd_1613 : (Jvm.Cond.selects "StormBasinModel" ({ cls := "StormBasinModel", name := "wasWet", desc := "(II)Z" } : Jvm.MethodName) ({ cls := "StormBasinModel", name := "wasWet", desc := "(II)Z" } : Jvm.MethodName)) ∈ WALL := wl7 126 (by decide +kernel) rfl
theorem wd_1614 : (Jvm.Cond.code ({ cls := "StormBasinModel", name := "wasWet", desc := "(II)Z" } : Jvm.MethodName) prog_8_method_53_code (3 : Nat) (Option.some Jvm.ClassFile.FieldType.boolean)) ∈ WALL := wl7 127 (by decide +kernel) rfl
theorem wd_1615 : (Jvm.Cond.methodLink "StormBasinModel" (188 : Nat) ({ cls := "StormBasinModel", name := "isNoHour", desc := "(II)Z" } : Jvm.MethodName)) ∈ WALL := wl7 128 (by decide +kernel) rfl
theorem wd_1617 : (Jvm.Cond.instanceMethod ({ cls := "StormBasinModel", name := "isNoHour", desc := "(II)Z" } : Jvm.MethodName)) ∈ WALL := wl7 130 (by decide +kernel) rfl
theorem wd_1618 : (Jvm.Cond.code ({ cls := "StormBasinModel", name := "isNoHour", desc := "(II)Z" } : Jvm.MethodName) prog_8_method_51_code (3 : Nat) (Option.some Jvm.ClassFile.FieldType.boolean)) ∈ WALL := wl7 131 (by decide +kernel) rfl
theorem wd_1619 : (Jvm.Cond.methodLink "StormBasinModel" (185 : Nat) ({ cls := "StormBasinModel", name := "isNoHouse", desc := "(I)Z" } : Jvm.MethodName)) ∈ WALL := wl7 132 (by decide +kernel) rfl
theorem wd_1621 : (Jvm.Cond.instanceMethod ({ cls := "StormBasinModel", name := "isNoHouse", desc := "(I)Z" } : Jvm.MethodName)) ∈ WALL := wl7 134 (by decide +kernel) rfl
theorem wd_1622 : (Jvm.Cond.code ({ cls := "StormBasinModel", name := "isNoHouse", desc := "(I)Z" } : Jvm.MethodName) prog_8_method_10_code (2 : Nat) (Option.some Jvm.ClassFile.FieldType.boolean)) ∈ WALL := wl7 135 (by decide +kernel) rfl
theorem wd_1623 : (Jvm.Cond.methodLink "StormBasinModel" (191 : Nat) ({ cls := "StormBasinModel", name := "worth", desc := "(II)I" } : Jvm.MethodName)) ∈ WALL := wl7 136 (by decide +kernel) rfl
theorem wd_1625 : (Jvm.Cond.instanceMethod ({ cls := "StormBasinModel", name := "worth", desc := "(II)I" } : Jvm.MethodName)) ∈ WALL := wl7 138 (by decide +kernel) rfl
theorem wd_1626 : (Jvm.Cond.code ({ cls := "StormBasinModel", name := "worth", desc := "(II)I" } : Jvm.MethodName) prog_8_method_52_code (3 : Nat) (Option.some Jvm.ClassFile.FieldType.int)) ∈ WALL := wl7 139 (by decide +kernel) rfl
theorem wd_1627 : (Jvm.Cond.methodLink "StormBasinLaw" (242 : Nat) ({ cls := "StormBasinModel", name := "worthOf", desc := "(II)I" } : Jvm.MethodName)) ∈ WALL := wl7 140 (by decide +kernel) rfl
theorem wd_1628 : (Jvm.Cond.instanceMethod ({ cls := "StormBasinModel", name := "worthOf", desc := "(II)I" } : Jvm.MethodName)) ∈ WALL := wl7 141 (by decide +kernel) rfl
theorem wd_1629 : (Jvm.Cond.selects "StormBasinModel" ({ cls := "StormBasinModel", name := "worthOf", desc := "(II)I" } : Jvm.MethodName) ({ cls := "StormBasinModel", name := "worthOf", desc := "(II)I" } : Jvm.MethodName)) ∈ WALL := wl7 142 (by decide +kernel) rfl
theorem wd_1630 : (Jvm.Cond.code ({ cls := "StormBasinModel", name := "worthOf", desc := "(II)I" } : Jvm.MethodName) prog_8_method_54_code (3 : Nat) (Option.some Jvm.ClassFile.FieldType.int)) ∈ WALL := wl7 143 (by decide +kernel) rfl
theorem wd_1631 : (Jvm.Cond.methodLink "StormBasinLaw" (245 : Nat) ({ cls := "StormBasinModel", name := "claim", desc := "(II)I" } : Jvm.MethodName)) ∈ WALL := wl7 144 (by decide +kernel) rfl
theorem wd_1632 : (Jvm.Cond.instanceMethod ({ cls := "StormBasinModel", name := "claim", desc := "(II)I" } : Jvm.MethodName)) ∈ WALL := wl7 145 (by decide +kernel) rfl
theorem wd_1633 : (Jvm.Cond.selects "StormBasinModel" ({ cls := "StormBasinModel", name := "claim", desc := "(II)I" } : Jvm.MethodName) ({ cls := "StormBasinModel", name := "claim", desc := "(II)I" } : Jvm.MethodName)) ∈ WALL := wl7 146 (by decide +kernel) rfl
theorem wd_1634 : (Jvm.Cond.code ({ cls := "StormBasinModel", name := "claim", desc := "(II)I" } : Jvm.MethodName) prog_8_method_56_code (3 : Nat) (Option.some Jvm.ClassFile.FieldType.int)) ∈ WALL := wl7 147 (by decide +kernel) rfl
theorem wd_1635 : (Jvm.Cond.methodLink "StormBasinModel" (197 : Nat) ({ cls := "StormBasinModel", name := "pays", desc := "(II)I" } : Jvm.MethodName)) ∈ WALL := wl7 148 (by decide +kernel) rfl
theorem wd_1637 : (Jvm.Cond.instanceMethod ({ cls := "StormBasinModel", name := "pays", desc := "(II)I" } : Jvm.MethodName)) ∈ WALL := wl7 150 (by decide +kernel) rfl
theorem wd_1638 : (Jvm.Cond.code ({ cls := "StormBasinModel", name := "pays", desc := "(II)I" } : Jvm.MethodName) prog_8_method_55_code (4 : Nat) (Option.some Jvm.ClassFile.FieldType.int)) ∈ WALL := wl7 151 (by decide +kernel) rfl
theorem wd_1639 : (Jvm.Cond.methodLink "StormBasinLaw" (248 : Nat) ({ cls := "StormBasinModel", name := "claimWorst", desc := "(I)I" } : Jvm.MethodName)) ∈ WALL := wl7 152 (by decide +kernel) rfl
theorem wd_1640 : (Jvm.Cond.instanceMethod ({ cls := "StormBasinModel", name := "claimWorst", desc := "(I)I" } : Jvm.MethodName)) ∈ WALL := wl7 153 (by decide +kernel) rfl
theorem wd_1641 : (Jvm.Cond.selects "StormBasinModel" ({ cls := "StormBasinModel", name := "claimWorst", desc := "(I)I" } : Jvm.MethodName) ({ cls := "StormBasinModel", name := "claimWorst", desc := "(I)I" } : Jvm.MethodName)) ∈ WALL := wl7 154 (by decide +kernel) rfl
theorem wd_1642 : (Jvm.Cond.code ({ cls := "StormBasinModel", name := "claimWorst", desc := "(I)I" } : Jvm.MethodName) prog_8_method_57_code (6 : Nat) (Option.some Jvm.ClassFile.FieldType.int)) ∈ WALL := wl7 155 (by decide +kernel) rfl
theorem wd_1643 : (Jvm.Cond.methodLink "StormBasinLaw" (251 : Nat) ({ cls := "StormBasinModel", name := "claimCount", desc := "(I)I" } : Jvm.MethodName)) ∈ WALL := wl7 156 (by decide +kernel) rfl
theorem wd_1644 : (Jvm.Cond.instanceMethod ({ cls := "StormBasinModel", name := "claimCount", desc := "(I)I" } : Jvm.MethodName)) ∈ WALL := wl7 157 (by decide +kernel) rfl
theorem wd_1645 : (Jvm.Cond.selects "StormBasinModel" ({ cls := "StormBasinModel", name := "claimCount", desc := "(I)I" } : Jvm.MethodName) ({ cls := "StormBasinModel", name := "claimCount", desc := "(I)I" } : Jvm.MethodName)) ∈ WALL := wl7 158 (by decide +kernel) rfl
theorem wd_1646 : (Jvm.Cond.code ({ cls := "StormBasinModel", name := "claimCount", desc := "(I)I" } : Jvm.MethodName) prog_8_method_58_code (4 : Nat) (Option.some Jvm.ClassFile.FieldType.int)) ∈ WALL := wl7 159 (by decide +kernel) rfl
theorem wd_1647 : (Jvm.Cond.methodLink "StormBasinLaw" (254 : Nat) ({ cls := "StormBasinModel", name := "paidTo", desc := "(I)I" } : Jvm.MethodName)) ∈ WALL := wl7 160 (by decide +kernel) rfl
theorem wd_1648 : (Jvm.Cond.instanceMethod ({ cls := "StormBasinModel", name := "paidTo", desc := "(I)I" } : Jvm.MethodName)) ∈ WALL := wl7 161 (by decide +kernel) rfl
theorem wd_1649 : (Jvm.Cond.selects "StormBasinModel" ({ cls := "StormBasinModel", name := "paidTo", desc := "(I)I" } : Jvm.MethodName) ({ cls := "StormBasinModel", name := "paidTo", desc := "(I)I" } : Jvm.MethodName)) ∈ WALL := wl7 162 (by decide +kernel) rfl
theorem wd_1650 : (Jvm.Cond.code ({ cls := "StormBasinModel", name := "paidTo", desc := "(I)I" } : Jvm.MethodName) prog_8_method_59_code (2 : Nat) (Option.some Jvm.ClassFile.FieldType.int)) ∈ WALL := wl7 163 (by decide +kernel) rfl
theorem wd_1651 : (Jvm.Cond.methodLink "StormBasinLaw" (259 : Nat) ({ cls := "StormBasinModel", name := "paidTotal", desc := "()J" } : Jvm.MethodName)) ∈ WALL := wl7 164 (by decide +kernel) rfl
theorem wd_1652 : (Jvm.Cond.instanceMethod ({ cls := "StormBasinModel", name := "paidTotal", desc := "()J" } : Jvm.MethodName)) ∈ WALL := wl7 165 (by decide +kernel) rfl
theorem wd_1653 : (Jvm.Cond.selects "StormBasinModel" ({ cls := "StormBasinModel", name := "paidTotal", desc := "()J" } : Jvm.MethodName) ({ cls := "StormBasinModel", name := "paidTotal", desc := "()J" } : Jvm.MethodName)) ∈ WALL := wl7 166 (by decide +kernel) rfl
theorem wd_1654 : (Jvm.Cond.code ({ cls := "StormBasinModel", name := "paidTotal", desc := "()J" } : Jvm.MethodName) prog_8_method_61_code (1 : Nat) (Option.some Jvm.ClassFile.FieldType.long)) ∈ WALL := wl7 167 (by decide +kernel) rfl
theorem wd_1655 : (Jvm.Cond.methodLink "StormBasinModel" (200 : Nat) ({ cls := "StormBasinModel", name := "allPaid", desc := "()J" } : Jvm.MethodName)) ∈ WALL := wl7 168 (by decide +kernel) rfl
theorem wd_1657 : (Jvm.Cond.instanceMethod ({ cls := "StormBasinModel", name := "allPaid", desc := "()J" } : Jvm.MethodName)) ∈ WALL := wl7 170 (by decide +kernel) rfl
theorem wd_1658 : (Jvm.Cond.code ({ cls := "StormBasinModel", name := "allPaid", desc := "()J" } : Jvm.MethodName) prog_8_method_60_code (4 : Nat) (Option.some Jvm.ClassFile.FieldType.long)) ∈ WALL := wl7 171 (by decide +kernel) rfl
theorem wd_1659 : (Jvm.Cond.methodLink "StormBasinLaw" (263 : Nat) ({ cls := "StormBasinModel", name := "meanPayment", desc := "()D" } : Jvm.MethodName)) ∈ WALL := wl7 172 (by decide +kernel) rfl
theorem wd_1660 : (Jvm.Cond.instanceMethod ({ cls := "StormBasinModel", name := "meanPayment", desc := "()D" } : Jvm.MethodName)) ∈ WALL := wl7 173 (by decide +kernel) rfl
theorem wd_1661 : (Jvm.Cond.selects "StormBasinModel" ({ cls := "StormBasinModel", name := "meanPayment", desc := "()D" } : Jvm.MethodName) ({ cls := "StormBasinModel", name := "meanPayment", desc := "()D" } : Jvm.MethodName)) ∈ WALL := wl7 174 (by decide +kernel) rfl
theorem wd_1662 : (Jvm.Cond.code ({ cls := "StormBasinModel", name := "meanPayment", desc := "()D" } : Jvm.MethodName) prog_8_method_62_code (1 : Nat) (Option.some Jvm.ClassFile.FieldType.double)) ∈ WALL := wl7 175 (by decide +kernel) rfl
theorem wd_1663 : (Jvm.Cond.methodLink "StormBasinLaw" (267 : Nat) ({ cls := "StormBasinModel", name := "floodedWith", desc := "()I" } : Jvm.MethodName)) ∈ WALL := wl7 176 (by decide +kernel) rfl
theorem wd_1664 : (Jvm.Cond.instanceMethod ({ cls := "StormBasinModel", name := "floodedWith", desc := "()I" } : Jvm.MethodName)) ∈ WALL := wl7 177 (by decide +kernel) rfl
theorem wd_1665 : (Jvm.Cond.selects "StormBasinModel" ({ cls := "StormBasinModel", name := "floodedWith", desc := "()I" } : Jvm.MethodName) ({ cls := "StormBasinModel", name := "floodedWith", desc := "()I" } : Jvm.MethodName)) ∈ WALL := wl7 178 (by decide +kernel) rfl
theorem wd_1666 : (Jvm.Cond.code ({ cls := "StormBasinModel", name := "floodedWith", desc := "()I" } : Jvm.MethodName) prog_8_method_64_code (1 : Nat) (Option.some Jvm.ClassFile.FieldType.int)) ∈ WALL := wl7 179 (by decide +kernel) rfl
theorem wd_1667 : (Jvm.Cond.methodLink "StormBasinModel" (204 : Nat) ({ cls := "StormBasinModel", name := "trial", desc := "(II)I" } : Jvm.MethodName)) ∈ WALL := wl7 180 (by decide +kernel) rfl
theorem wd_1669 : (Jvm.Cond.instanceMethod ({ cls := "StormBasinModel", name := "trial", desc := "(II)I" } : Jvm.MethodName)) ∈ WALL := wl7 182 (by decide +kernel) rfl
theorem wd_1670 : (Jvm.Cond.code ({ cls := "StormBasinModel", name := "trial", desc := "(II)I" } : Jvm.MethodName) prog_8_method_63_code (6 : Nat) (Option.some Jvm.ClassFile.FieldType.int)) ∈ WALL := wl7 183 (by decide +kernel) rfl
theorem wd_1671 : (Jvm.Cond.methodLink "StormBasinLaw" (270 : Nat) ({ cls := "StormBasinModel", name := "floodedWithOpening", desc := "(II)I" } : Jvm.MethodName)) ∈ WALL := wl7 184 (by decide +kernel) rfl
theorem wd_1672 : (Jvm.Cond.instanceMethod ({ cls := "StormBasinModel", name := "floodedWithOpening", desc := "(II)I" } : Jvm.MethodName)) ∈ WALL := wl7 185 (by decide +kernel) rfl
theorem wd_1673 : (Jvm.Cond.selects "StormBasinModel" ({ cls := "StormBasinModel", name := "floodedWithOpening", desc := "(II)I" } : Jvm.MethodName) ({ cls := "StormBasinModel", name := "floodedWithOpening", desc := "(II)I" } : Jvm.MethodName)) ∈ WALL := wl7 186 (by decide +kernel) rfl
theorem wd_1674 : (Jvm.Cond.code ({ cls := "StormBasinModel", name := "floodedWithOpening", desc := "(II)I" } : Jvm.MethodName) prog_8_method_65_code (3 : Nat) (Option.some Jvm.ClassFile.FieldType.int)) ∈ WALL := wl7 187 (by decide +kernel) rfl
theorem wd_1675 : (Jvm.Cond.methodLink "StormBasinLaw" (273 : Nat) ({ cls := "StormBasinModel", name := "bestOpening", desc := "(I)I" } : Jvm.MethodName)) ∈ WALL := wl7 188 (by decide +kernel) rfl
theorem wd_1676 : (Jvm.Cond.instanceMethod ({ cls := "StormBasinModel", name := "bestOpening", desc := "(I)I" } : Jvm.MethodName)) ∈ WALL := wl7 189 (by decide +kernel) rfl
theorem wd_1677 : (Jvm.Cond.selects "StormBasinModel" ({ cls := "StormBasinModel", name := "bestOpening", desc := "(I)I" } : Jvm.MethodName) ({ cls := "StormBasinModel", name := "bestOpening", desc := "(I)I" } : Jvm.MethodName)) ∈ WALL := wl7 190 (by decide +kernel) rfl
theorem wd_1678 : (Jvm.Cond.code ({ cls := "StormBasinModel", name := "bestOpening", desc := "(I)I" } : Jvm.MethodName) prog_8_method_66_code (6 : Nat) (Option.some Jvm.ClassFile.FieldType.int)) ∈ WALL := wl7 191 (by decide +kernel) rfl
theorem wd_1679 : (Jvm.Cond.methodLink "StormBasinLaw" (276 : Nat) ({ cls := "StormBasinModel", name := "writeRule", desc := "(I)I" } : Jvm.MethodName)) ∈ WALL := wl7 192 (by decide +kernel) rfl
theorem wd_1680 : (Jvm.Cond.instanceMethod ({ cls := "StormBasinModel", name := "writeRule", desc := "(I)I" } : Jvm.MethodName)) ∈ WALL := wl7 193 (by decide +kernel) rfl
theorem wd_1681 : (Jvm.Cond.selects "StormBasinModel" ({ cls := "StormBasinModel", name := "writeRule", desc := "(I)I" } : Jvm.MethodName) ({ cls := "StormBasinModel", name := "writeRule", desc := "(I)I" } : Jvm.MethodName)) ∈ WALL := wl7 194 (by decide +kernel) rfl
theorem wd_1682 : (Jvm.Cond.code ({ cls := "StormBasinModel", name := "writeRule", desc := "(I)I" } : Jvm.MethodName) prog_8_method_69_code (2 : Nat) (Option.some Jvm.ClassFile.FieldType.int)) ∈ WALL := wl7 195 (by decide +kernel) rfl
theorem wd_1683 : (Jvm.Cond.methodLink "StormBasinModel" (214 : Nat) ({ cls := "StormBasinModel", name := "putsNumber", desc := "(I)V" } : Jvm.MethodName)) ∈ WALL := wl7 196 (by decide +kernel) rfl
theorem wd_1685 : (Jvm.Cond.instanceMethod ({ cls := "StormBasinModel", name := "putsNumber", desc := "(I)V" } : Jvm.MethodName)) ∈ WALL := wl7 198 (by decide +kernel) rfl
theorem wd_1686 : (Jvm.Cond.code ({ cls := "StormBasinModel", name := "putsNumber", desc := "(I)V" } : Jvm.MethodName) prog_8_method_68_code (2 : Nat) (Option.none : Option Jvm.ClassFile.FieldType)) ∈ WALL := wl7 199 (by decide +kernel) rfl
theorem wd_1687 : (Jvm.Cond.methodLink "StormBasinModel" (210 : Nat) ({ cls := "StormBasinModel", name := "puts", desc := "(C)V" } : Jvm.MethodName)) ∈ WALL := wl7 200 (by decide +kernel) rfl
theorem wd_1689 : (Jvm.Cond.instanceMethod ({ cls := "StormBasinModel", name := "puts", desc := "(C)V" } : Jvm.MethodName)) ∈ WALL := wl7 202 (by decide +kernel) rfl
theorem wd_1690 : (Jvm.Cond.code ({ cls := "StormBasinModel", name := "puts", desc := "(C)V" } : Jvm.MethodName) prog_8_method_67_code (2 : Nat) (Option.none : Option Jvm.ClassFile.FieldType)) ∈ WALL := wl7 203 (by decide +kernel) rfl
theorem wd_1691 : (Jvm.Cond.methodLink "StormBasinLaw" (279 : Nat) ({ cls := "StormBasinModel", name := "lineAt", desc := "(I)C" } : Jvm.MethodName)) ∈ WALL := wl7 204 (by decide +kernel) rfl
theorem wd_1692 : (Jvm.Cond.instanceMethod ({ cls := "StormBasinModel", name := "lineAt", desc := "(I)C" } : Jvm.MethodName)) ∈ WALL := wl7 205 (by decide +kernel) rfl
theorem wd_1693 : (Jvm.Cond.selects "StormBasinModel" ({ cls := "StormBasinModel", name := "lineAt", desc := "(I)C" } : Jvm.MethodName) ({ cls := "StormBasinModel", name := "lineAt", desc := "(I)C" } : Jvm.MethodName)) ∈ WALL := wl7 206 (by decide +kernel) rfl
theorem wd_1694 : (Jvm.Cond.code ({ cls := "StormBasinModel", name := "lineAt", desc := "(I)C" } : Jvm.MethodName) prog_8_method_70_code (2 : Nat) (Option.some Jvm.ClassFile.FieldType.char)) ∈ WALL := wl7 207 (by decide +kernel) rfl
theorem wd_1695 : (Jvm.Cond.arrayClass Jvm.ClassFile.FieldType.long) ∈ WALL := wl7 208 (by decide +kernel) rfl
theorem wd_1696 : (Jvm.Cond.arrayClass Jvm.ClassFile.FieldType.double) ∈ WALL := wl7 209 (by decide +kernel) rfl
theorem wd_1697 : (Jvm.Cond.sameMethod "java/lang/Throwable" "java/lang/Throwable" "fillInStackTrace" "(I)Ljava/lang/Throwable;") ∈ WALL := wl7 210 (by decide +kernel) rfl
theorem wd_1698 : (Jvm.Cond.sameMethod "java/lang/AbstractStringBuilder" "java/lang/AbstractStringBuilder" "setLength" "(I)V") ∈ WALL := wl7 211 (by decide +kernel) rfl
theorem wd_1699 : (Jvm.Cond.sameMethod "java/lang/AbstractStringBuilder" "java/lang/AbstractStringBuilder" "append" "(Ljava/lang/String;)Ljava/lang/AbstractStringBuilder;") ∈ WALL := wl7 212 (by decide +kernel) rfl
theorem wd_1700 : (Jvm.Cond.sameMethod "java/lang/AbstractStringBuilder" "java/lang/AbstractStringBuilder" "appendNull" "()Ljava/lang/AbstractStringBuilder;") ∈ WALL := wl7 213 (by decide +kernel) rfl
theorem wd_1701 : (Jvm.Cond.sameMethod "java/lang/AbstractStringBuilder" "java/lang/AbstractStringBuilder" "ensureCapacityInternal" "(I)V") ∈ WALL := wl7 214 (by decide +kernel) rfl
theorem wd_1702 : (Jvm.Cond.sameMethod "java/lang/AbstractStringBuilder" "java/lang/AbstractStringBuilder" "newCapacity" "(I)I") ∈ WALL := wl7 215 (by decide +kernel) rfl
theorem wd_1703 : (Jvm.Cond.sameMethod "java/lang/AbstractStringBuilder" "java/lang/AbstractStringBuilder" "putStringAt" "(ILjava/lang/String;)V") ∈ WALL := wl7 216 (by decide +kernel) rfl
theorem wd_1704 : (Jvm.Cond.sameMethod "java/lang/AbstractStringBuilder" "java/lang/AbstractStringBuilder" "inflateIfNeededFor" "(Ljava/lang/String;)V") ∈ WALL := wl7 217 (by decide +kernel) rfl
theorem wd_1705 : (Jvm.Cond.sameMethod "java/lang/AbstractStringBuilder" "java/lang/AbstractStringBuilder" "inflate" "()V") ∈ WALL := wl7 218 (by decide +kernel) rfl
theorem wd_1706 : (Jvm.Cond.sameMethod "java/lang/AbstractStringBuilder" "java/lang/AbstractStringBuilder" "append" "(I)Ljava/lang/AbstractStringBuilder;") ∈ WALL := wl7 219 (by decide +kernel) rfl
theorem wd_1707 : (Jvm.Cond.sameMethod "java/lang/AbstractStringBuilder" "java/lang/AbstractStringBuilder" "append" "(C)Ljava/lang/AbstractStringBuilder;") ∈ WALL := wl7 220 (by decide +kernel) rfl
theorem wd_1708 : (Jvm.Cond.selects "java/lang/StringBuilder" ({ cls := "java/lang/StringBuilder", name := "length", desc := "()I" } : Jvm.MethodName) ({ cls := "java/lang/StringBuilder", name := "length", desc := "()I" } : Jvm.MethodName)) ∈ WALL := wl7 221 (by decide +kernel) rfl
theorem wd_1709 : (Jvm.Cond.sameMethod "java/lang/AbstractStringBuilder" "java/lang/AbstractStringBuilder" "charAt" "(I)C") ∈ WALL := wl7 222 (by decide +kernel) rfl
theorem wd_1731 : (Jvm.Cond.sameMethod "[Ljava/lang/Object;" "java/lang/Object" "getClass" "()Ljava/lang/Class;") ∈ WALL := wl8 4 (by decide +kernel) rfl
theorem wd_1732 : (Jvm.Cond.selects "[Ljava/lang/Object;" ({ cls := "java/lang/Object", name := "getClass", desc := "()Ljava/lang/Class;" } : Jvm.MethodName) ({ cls := "java/lang/Object", name := "getClass", desc := "()Ljava/lang/Class;" } : Jvm.MethodName)) ∈ WALL := wl8 5 (by decide +kernel) rfl
set_option maxRecDepth 100000 in
theorem us_J0 : ∀ w ∈ u_ws RJ0 TJ0 4, w ∈ WALL := List.forall_mem_cons.mpr ⟨wd_404, List.forall_mem_cons.mpr ⟨wd_406, List.forall_mem_cons.mpr ⟨wd_1220, List.forall_mem_cons.mpr ⟨wd_1222, fun _ h => absurd h List.not_mem_nil⟩⟩⟩⟩
set_option maxRecDepth 100000 in
theorem us_J4 : ∀ w ∈ u_ws RJ4 TJ4 4, w ∈ WALL := List.forall_mem_cons.mpr ⟨wd_163, List.forall_mem_cons.mpr ⟨wd_165, List.forall_mem_cons.mpr ⟨wd_167, List.forall_mem_cons.mpr ⟨wd_169, fun _ h => absurd h List.not_mem_nil⟩⟩⟩⟩
set_option maxRecDepth 100000 in
theorem us_Jx00060 : ∀ w ∈ u_ws RJx00060 TJx00060 6, w ∈ WALL := List.forall_mem_cons.mpr ⟨wd_371, List.forall_mem_cons.mpr ⟨wd_373, List.forall_mem_cons.mpr ⟨wd_375, List.forall_mem_cons.mpr ⟨wd_377, List.forall_mem_cons.mpr ⟨wd_379, List.forall_mem_cons.mpr ⟨wd_381, fun _ h => absurd h List.not_mem_nil⟩⟩⟩⟩⟩⟩
set_option maxRecDepth 100000 in
theorem us_Jx7c733 : ∀ w ∈ u_ws RJx7c733 TJx7c733 6, w ∈ WALL := List.forall_mem_cons.mpr ⟨wd_1226, List.forall_mem_cons.mpr ⟨wd_1227, List.forall_mem_cons.mpr ⟨wd_1228, List.forall_mem_cons.mpr ⟨wd_1229, List.forall_mem_cons.mpr ⟨wd_1230, List.forall_mem_cons.mpr ⟨wd_1231, fun _ h => absurd h List.not_mem_nil⟩⟩⟩⟩⟩⟩
set_option maxRecDepth 100000 in
theorem us_Jx4a65c : ∀ w ∈ u_ws RJx4a65c TJx4a65c 3, w ∈ WALL := List.forall_mem_cons.mpr ⟨wd_113, List.forall_mem_cons.mpr ⟨wd_109, List.forall_mem_cons.mpr ⟨wd_111, fun _ h => absurd h List.not_mem_nil⟩⟩⟩
set_option maxRecDepth 100000 in
theorem us_X0 : ∀ w ∈ u_ws RX0 TX0 8, w ∈ WALL := List.forall_mem_cons.mpr ⟨wd_514, List.forall_mem_cons.mpr ⟨wd_516, List.forall_mem_cons.mpr ⟨wd_518, List.forall_mem_cons.mpr ⟨wd_520, List.forall_mem_cons.mpr ⟨wd_522, List.forall_mem_cons.mpr ⟨wd_524, List.forall_mem_cons.mpr ⟨wd_526, List.forall_mem_cons.mpr ⟨wd_528, fun _ h => absurd h List.not_mem_nil⟩⟩⟩⟩⟩⟩⟩⟩
set_option maxRecDepth 100000 in
theorem us_X1 : ∀ w ∈ u_ws RX1 TX1 7, w ∈ WALL := List.forall_mem_cons.mpr ⟨wd_853, List.forall_mem_cons.mpr ⟨wd_855, List.forall_mem_cons.mpr ⟨wd_857, List.forall_mem_cons.mpr ⟨wd_859, List.forall_mem_cons.mpr ⟨wd_861, List.forall_mem_cons.mpr ⟨wd_863, List.forall_mem_cons.mpr ⟨wd_865, fun _ h => absurd h List.not_mem_nil⟩⟩⟩⟩⟩⟩⟩
set_option maxRecDepth 100000 in
theorem us_X2 : ∀ w ∈ u_ws RX2 TX2 5, w ∈ WALL := List.forall_mem_cons.mpr ⟨wd_673, List.forall_mem_cons.mpr ⟨wd_675, List.forall_mem_cons.mpr ⟨wd_677, List.forall_mem_cons.mpr ⟨wd_679, List.forall_mem_cons.mpr ⟨wd_681, fun _ h => absurd h List.not_mem_nil⟩⟩⟩⟩⟩
set_option maxRecDepth 100000 in
theorem us_X3 : ∀ w ∈ u_ws RX3 TX3 5, w ∈ WALL := List.forall_mem_cons.mpr ⟨wd_490, List.forall_mem_cons.mpr ⟨wd_492, List.forall_mem_cons.mpr ⟨wd_494, List.forall_mem_cons.mpr ⟨wd_496, List.forall_mem_cons.mpr ⟨wd_498, fun _ h => absurd h List.not_mem_nil⟩⟩⟩⟩⟩
set_option maxRecDepth 100000 in
theorem us_X4 : ∀ w ∈ u_ws RX4 TX4 4, w ∈ WALL := List.forall_mem_cons.mpr ⟨wd_130, List.forall_mem_cons.mpr ⟨wd_132, List.forall_mem_cons.mpr ⟨wd_134, List.forall_mem_cons.mpr ⟨wd_136, fun _ h => absurd h List.not_mem_nil⟩⟩⟩⟩
set_option maxRecDepth 100000 in
theorem us_X5 : ∀ w ∈ u_ws RX5 TX5 9, w ∈ WALL := List.forall_mem_cons.mpr ⟨wd_182, List.forall_mem_cons.mpr ⟨wd_184, List.forall_mem_cons.mpr ⟨wd_186, List.forall_mem_cons.mpr ⟨wd_188, List.forall_mem_cons.mpr ⟨wd_190, List.forall_mem_cons.mpr ⟨wd_192, List.forall_mem_cons.mpr ⟨wd_194, List.forall_mem_cons.mpr ⟨wd_196, List.forall_mem_cons.mpr ⟨wd_198, fun _ h => absurd h List.not_mem_nil⟩⟩⟩⟩⟩⟩⟩⟩⟩
set_option maxRecDepth 100000 in
theorem us_X6 : ∀ w ∈ u_ws RX6 TX6 38, w ∈ WALL := List.forall_mem_cons.mpr ⟨wd_1343, List.forall_mem_cons.mpr ⟨wd_1345, List.forall_mem_cons.mpr ⟨wd_1347, List.forall_mem_cons.mpr ⟨wd_1349, List.forall_mem_cons.mpr ⟨wd_1351, List.forall_mem_cons.mpr ⟨wd_1353, List.forall_mem_cons.mpr ⟨wd_1355, List.forall_mem_cons.mpr ⟨wd_1357, List.forall_mem_cons.mpr ⟨wd_1359, List.forall_mem_cons.mpr ⟨wd_1361, List.forall_mem_cons.mpr ⟨wd_1363, List.forall_mem_cons.mpr ⟨wd_1365, List.forall_mem_cons.mpr ⟨wd_1367, List.forall_mem_cons.mpr ⟨wd_1369, List.forall_mem_cons.mpr ⟨wd_1371, List.forall_mem_cons.mpr ⟨wd_1373, List.forall_mem_cons.mpr ⟨wd_1375, List.forall_mem_cons.mpr ⟨wd_1377, List.forall_mem_cons.mpr ⟨wd_1379, List.forall_mem_cons.mpr ⟨wd_1381, List.forall_mem_cons.mpr ⟨wd_1383, List.forall_mem_cons.mpr ⟨wd_1385, List.forall_mem_cons.mpr ⟨wd_1387, List.forall_mem_cons.mpr ⟨wd_1389, List.forall_mem_cons.mpr ⟨wd_1391, List.forall_mem_cons.mpr ⟨wd_1393, List.forall_mem_cons.mpr ⟨wd_1395, List.forall_mem_cons.mpr ⟨wd_1397, List.forall_mem_cons.mpr ⟨wd_1399, List.forall_mem_cons.mpr ⟨wd_1401, List.forall_mem_cons.mpr ⟨wd_1403, List.forall_mem_cons.mpr ⟨wd_1405, List.forall_mem_cons.mpr ⟨wd_1407, List.forall_mem_cons.mpr ⟨wd_1409, List.forall_mem_cons.mpr ⟨wd_1411, List.forall_mem_cons.mpr ⟨wd_1413, List.forall_mem_cons.mpr ⟨wd_1415, List.forall_mem_cons.mpr ⟨wd_1417, fun _ h => absurd h List.not_mem_nil⟩⟩⟩⟩⟩⟩⟩⟩⟩⟩⟩⟩⟩⟩⟩⟩⟩⟩⟩⟩⟩⟩⟩⟩⟩⟩⟩⟩⟩⟩⟩⟩⟩⟩⟩⟩⟩⟩
theorem fd_X0_15 : FdZ RX0 15 5 1 .int true := ⟨RX0, TX0, 8, tyX0, "StormBasin$Basin", rfl, by decide, us_X0, wd_503, .inl rfl, tyX0_ok, nmX0, rfl, rfl⟩
theorem fd_X0_18 : FdZ RX0 18 5 2 .int true := ⟨RX0, TX0, 8, tyX0, "StormBasin$Basin", rfl, by decide, us_X0, wd_504, .inl rfl, tyX0_ok, nmX0, rfl, rfl⟩
theorem fd_X0_21 : FdZ RX0 21 5 3 .int true := ⟨RX0, TX0, 8, tyX0, "StormBasin$Basin", rfl, by decide, us_X0, wd_506, .inl rfl, tyX0_ok, nmX0, rfl, rfl⟩
theorem fd_X0_29 : FdZ RX0 29 5 4 (.object "StormBasin$Street") true := ⟨RX0, TX0, 8, tyX0, "StormBasin$Basin", rfl, by decide, us_X0, wd_508, .inl rfl, tyX0_ok, nmX0, rfl, rfl⟩
theorem fd_X0_33 : FdZ RX0 33 5 5 (.array .int) true := ⟨RX0, TX0, 8, tyX0, "StormBasin$Basin", rfl, by decide, us_X0, wd_510, .inl rfl, tyX0_ok, nmX0, rfl, rfl⟩
theorem fd_X0_9 : FdZ RX0 9 5 0 .int true := ⟨RX0, TX0, 8, tyX0, "StormBasin$Basin", rfl, by decide, us_X0, wd_501, .inl rfl, tyX0_ok, nmX0, rfl, rfl⟩
theorem fd_X1_15 : FdZ RX1 15 6 1 .int true := ⟨RX1, TX1, 7, tyX1, "StormBasin$House", rfl, by decide, us_X1, wd_844, .inl rfl, tyX1_ok, nmX1, rfl, rfl⟩
theorem fd_X1_19 : FdZ RX1 19 6 2 .int true := ⟨RX1, TX1, 7, tyX1, "StormBasin$House", rfl, by decide, us_X1, wd_845, .inl rfl, tyX1_ok, nmX1, rfl, rfl⟩
theorem fd_X1_22 : FdZ RX1 22 6 3 .int true := ⟨RX1, TX1, 7, tyX1, "StormBasin$House", rfl, by decide, us_X1, wd_846, .inl rfl, tyX1_ok, nmX1, rfl, rfl⟩
theorem fd_X1_25 : FdZ RX1 25 6 4 (.array .boolean) true := ⟨RX1, TX1, 7, tyX1, "StormBasin$House", rfl, by decide, us_X1, wd_847, .inl rfl, tyX1_ok, nmX1, rfl, rfl⟩
theorem fd_X1_29 : FdZ RX1 29 8 3 (.array .int) true := ⟨RX3, TX3, 5, tyX3, "StormBasin$Street", rfl, by decide, us_X3, wd_486, .inl rfl, tyX3_ok, nmX3, rfl, rfl⟩
theorem fd_X1_47 : FdZ RX1 47 6 6 .int false := ⟨RX1, TX1, 7, tyX1, "StormBasin$House", rfl, by decide, us_X1, wd_851, .inl rfl, tyX1_ok, nmX1, rfl, rfl⟩
theorem fd_X1_55 : FdZ RX1 55 6 5 .int false := ⟨RX1, TX1, 7, tyX1, "StormBasin$House", rfl, by decide, us_X1, wd_849, .inl rfl, tyX1_ok, nmX1, rfl, rfl⟩
theorem fd_X1_9 : FdZ RX1 9 6 0 (.object "StormBasin$Street") true := ⟨RX1, TX1, 7, tyX1, "StormBasin$House", rfl, by decide, us_X1, wd_843, .inl rfl, tyX1_ok, nmX1, rfl, rfl⟩
theorem fd_X2_13 : FdZ RX2 13 7 1 .int true := ⟨RX2, TX2, 5, tyX2, "StormBasin$Rule", rfl, by decide, us_X2, wd_665, .inl rfl, tyX2_ok, nmX2, rfl, rfl⟩
theorem fd_X2_16 : FdZ RX2 16 7 2 .boolean true := ⟨RX2, TX2, 5, tyX2, "StormBasin$Rule", rfl, by decide, us_X2, wd_667, .inl rfl, tyX2_ok, nmX2, rfl, rfl⟩
theorem fd_X2_20 : FdZ RX2 20 7 3 .int true := ⟨RX2, TX2, 5, tyX2, "StormBasin$Rule", rfl, by decide, us_X2, wd_669, .inl rfl, tyX2_ok, nmX2, rfl, rfl⟩
theorem fd_X2_23 : FdZ RX2 23 7 4 .int true := ⟨RX2, TX2, 5, tyX2, "StormBasin$Rule", rfl, by decide, us_X2, wd_671, .inl rfl, tyX2_ok, nmX2, rfl, rfl⟩
theorem fd_X2_7 : FdZ RX2 7 7 0 .int true := ⟨RX2, TX2, 5, tyX2, "StormBasin$Rule", rfl, by decide, us_X2, wd_663, .inl rfl, tyX2_ok, nmX2, rfl, rfl⟩
theorem fd_X3_15 : FdZ RX3 15 8 4 .int false := ⟨RX3, TX3, 5, tyX3, "StormBasin$Street", rfl, by decide, us_X3, wd_488, .inl rfl, tyX3_ok, nmX3, rfl, rfl⟩
theorem fd_X3_19 : FdZ RX3 19 8 1 (.array .int) true := ⟨RX3, TX3, 5, tyX3, "StormBasin$Street", rfl, by decide, us_X3, wd_483, .inl rfl, tyX3_ok, nmX3, rfl, rfl⟩
theorem fd_X3_22 : FdZ RX3 22 8 2 (.array .int) true := ⟨RX3, TX3, 5, tyX3, "StormBasin$Street", rfl, by decide, us_X3, wd_484, .inl rfl, tyX3_ok, nmX3, rfl, rfl⟩
theorem fd_X3_25 : FdZ RX3 25 8 3 (.array .int) true := ⟨RX3, TX3, 5, tyX3, "StormBasin$Street", rfl, by decide, us_X3, wd_485, .inl rfl, tyX3_ok, nmX3, rfl, rfl⟩
theorem fd_X3_9 : FdZ RX3 9 8 0 (.array .int) true := ⟨RX3, TX3, 5, tyX3, "StormBasin$Street", rfl, by decide, us_X3, wd_482, .inl rfl, tyX3_ok, nmX3, rfl, rfl⟩
theorem fd_X4_15 : FdZ RX4 15 9 1 (.array .int) true := ⟨RX4, TX4, 4, tyX4, "StormBasin$Water", rfl, by decide, us_X4, wd_124, .inl rfl, tyX4_ok, nmX4, rfl, rfl⟩
theorem fd_X4_18 : FdZ RX4 18 9 2 (.array .int) true := ⟨RX4, TX4, 4, tyX4, "StormBasin$Water", rfl, by decide, us_X4, wd_126, .inl rfl, tyX4_ok, nmX4, rfl, rfl⟩
theorem fd_X4_27 : FdZ RX4 27 9 3 .int false := ⟨RX4, TX4, 4, tyX4, "StormBasin$Water", rfl, by decide, us_X4, wd_128, .inl rfl, tyX4_ok, nmX4, rfl, rfl⟩
theorem fd_X4_9 : FdZ RX4 9 9 0 (.array .int) true := ⟨RX4, TX4, 4, tyX4, "StormBasin$Water", rfl, by decide, us_X4, wd_122, .inl rfl, tyX4_ok, nmX4, rfl, rfl⟩
theorem fd_X5_10 : FdZ RX5 10 10 0 (.object "java/util/ArrayList") true := ⟨RX5, TX5, 9, tyX5, "StormBasin", rfl, by decide, us_X5, wd_173, .inl rfl, tyX5_ok, nmX5, rfl, rfl⟩
theorem fd_X5_105 : FdZ RX5 105 5 6 .int false := ⟨RX0, TX0, 8, tyX0, "StormBasin$Basin", rfl, by decide, us_X0, wd_512, .inl rfl, tyX0_ok, nmX0, rfl, rfl⟩
theorem fd_X5_140 : FdZ RX5 140 5 7 .int false := ⟨RX0, TX0, 8, tyX0, "StormBasin$Basin", rfl, by decide, us_X0, wd_513, .inl rfl, tyX0_ok, nmX0, rfl, rfl⟩
theorem fd_X5_151 : FdZ RX5 151 10 6 .int false := ⟨RX5, TX5, 9, tyX5, "StormBasin", rfl, by decide, us_X5, wd_179, .inl rfl, tyX5_ok, nmX5, rfl, rfl⟩
theorem fd_X5_159 : FdZ RX5 159 9 0 (.array .int) true := ⟨RX4, TX4, 4, tyX4, "StormBasin$Water", rfl, by decide, us_X4, wd_123, .inl rfl, tyX4_ok, nmX4, rfl, rfl⟩
theorem fd_X5_16 : FdZ RX5 16 10 1 (.object "java/util/ArrayList") true := ⟨RX5, TX5, 9, tyX5, "StormBasin", rfl, by decide, us_X5, wd_174, .inl rfl, tyX5_ok, nmX5, rfl, rfl⟩
theorem fd_X5_166 : FdZ RX5 166 9 1 (.array .int) true := ⟨RX4, TX4, 4, tyX4, "StormBasin$Water", rfl, by decide, us_X4, wd_125, .inl rfl, tyX4_ok, nmX4, rfl, rfl⟩
theorem fd_X5_169 : FdZ RX5 169 10 7 .int false := ⟨RX5, TX5, 9, tyX5, "StormBasin", rfl, by decide, us_X5, wd_180, .inl rfl, tyX5_ok, nmX5, rfl, rfl⟩
theorem fd_X5_172 : FdZ RX5 172 9 3 .int false := ⟨RX4, TX4, 4, tyX4, "StormBasin$Water", rfl, by decide, us_X4, wd_129, .inl rfl, tyX4_ok, nmX4, rfl, rfl⟩
theorem fd_X5_19 : FdZ RX5 19 10 2 (.object "java/util/ArrayList") true := ⟨RX5, TX5, 9, tyX5, "StormBasin", rfl, by decide, us_X5, wd_175, .inl rfl, tyX5_ok, nmX5, rfl, rfl⟩
theorem fd_X5_192 : FdZ RX5 192 8 3 (.array .int) true := ⟨RX3, TX3, 5, tyX3, "StormBasin$Street", rfl, by decide, us_X3, wd_487, .inl rfl, tyX3_ok, nmX3, rfl, rfl⟩
theorem fd_X5_203 : FdZ RX5 203 10 8 .int false := ⟨RX5, TX5, 9, tyX5, "StormBasin", rfl, by decide, us_X5, wd_181, .inl rfl, tyX5_ok, nmX5, rfl, rfl⟩
theorem fd_X5_231 : FdZ RX5 231 6 4 (.array .boolean) true := ⟨RX1, TX1, 7, tyX1, "StormBasin$House", rfl, by decide, us_X1, wd_848, .inl rfl, tyX1_ok, nmX1, rfl, rfl⟩
theorem fd_X5_248 : FdZ RX5 248 6 5 .int false := ⟨RX1, TX1, 7, tyX1, "StormBasin$House", rfl, by decide, us_X1, wd_850, .inl rfl, tyX1_ok, nmX1, rfl, rfl⟩
theorem fd_X5_25 : FdZ RX5 25 10 3 (.object "StormBasin$Water") true := ⟨RX5, TX5, 9, tyX5, "StormBasin", rfl, by decide, us_X5, wd_176, .inl rfl, tyX5_ok, nmX5, rfl, rfl⟩
theorem fd_X5_251 : FdZ RX5 251 6 6 .int false := ⟨RX1, TX1, 7, tyX1, "StormBasin$House", rfl, by decide, us_X1, wd_852, .inl rfl, tyX1_ok, nmX1, rfl, rfl⟩
theorem fd_X5_269 : FdZ RX5 269 7 0 .int true := ⟨RX2, TX2, 5, tyX2, "StormBasin$Rule", rfl, by decide, us_X2, wd_664, .inl rfl, tyX2_ok, nmX2, rfl, rfl⟩
theorem fd_X5_278 : FdZ RX5 278 7 1 .int true := ⟨RX2, TX2, 5, tyX2, "StormBasin$Rule", rfl, by decide, us_X2, wd_666, .inl rfl, tyX2_ok, nmX2, rfl, rfl⟩
theorem fd_X5_281 : FdZ RX5 281 7 2 .boolean true := ⟨RX2, TX2, 5, tyX2, "StormBasin$Rule", rfl, by decide, us_X2, wd_668, .inl rfl, tyX2_ok, nmX2, rfl, rfl⟩
theorem fd_X5_285 : FdZ RX5 285 7 3 .int true := ⟨RX2, TX2, 5, tyX2, "StormBasin$Rule", rfl, by decide, us_X2, wd_670, .inl rfl, tyX2_ok, nmX2, rfl, rfl⟩
theorem fd_X5_288 : FdZ RX5 288 7 4 .int true := ⟨RX2, TX2, 5, tyX2, "StormBasin$Rule", rfl, by decide, us_X2, wd_672, .inl rfl, tyX2_ok, nmX2, rfl, rfl⟩
theorem fd_X5_29 : FdZ RX5 29 10 4 (.object "StormBasin$Water") true := ⟨RX5, TX5, 9, tyX5, "StormBasin", rfl, by decide, us_X5, wd_177, .inl rfl, tyX5_ok, nmX5, rfl, rfl⟩
theorem fd_X5_316 : FdZ RX5 316 5 5 (.array .int) true := ⟨RX0, TX0, 8, tyX0, "StormBasin$Basin", rfl, by decide, us_X0, wd_511, .inl rfl, tyX0_ok, nmX0, rfl, rfl⟩
theorem fd_X5_330 : FdZ RX5 330 9 2 (.array .int) true := ⟨RX4, TX4, 4, tyX4, "StormBasin$Water", rfl, by decide, us_X4, wd_127, .inl rfl, tyX4_ok, nmX4, rfl, rfl⟩
theorem fd_X5_333 : FdZ RX5 333 5 2 .int true := ⟨RX0, TX0, 8, tyX0, "StormBasin$Basin", rfl, by decide, us_X0, wd_505, .inl rfl, tyX0_ok, nmX0, rfl, rfl⟩
theorem fd_X5_341 : FdZ RX5 341 5 3 .int true := ⟨RX0, TX0, 8, tyX0, "StormBasin$Basin", rfl, by decide, us_X0, wd_507, .inl rfl, tyX0_ok, nmX0, rfl, rfl⟩
theorem fd_X5_35 : FdZ RX5 35 10 5 (.object "java/lang/StringBuilder") true := ⟨RX5, TX5, 9, tyX5, "StormBasin", rfl, by decide, us_X5, wd_178, .inl rfl, tyX5_ok, nmX5, rfl, rfl⟩
theorem fd_X5_351 : FdZ RX5 351 5 0 .int true := ⟨RX0, TX0, 8, tyX0, "StormBasin$Basin", rfl, by decide, us_X0, wd_502, .inl rfl, tyX0_ok, nmX0, rfl, rfl⟩
theorem fd_X5_84 : FdZ RX5 84 5 4 (.object "StormBasin$Street") true := ⟨RX0, TX0, 8, tyX0, "StormBasin$Basin", rfl, by decide, us_X0, wd_509, .inl rfl, tyX0_ok, nmX0, rfl, rfl⟩
theorem fd_X5_88 : FdZ RX5 88 8 4 .int false := ⟨RX3, TX3, 5, tyX3, "StormBasin$Street", rfl, by decide, us_X3, wd_489, .inl rfl, tyX3_ok, nmX3, rfl, rfl⟩
theorem fd_X6_100 : FdZ RX6 100 11 0 .int false := ⟨RX6, TX6, 38, tyX6, "StormBasinModel", rfl, by decide, us_X6, wd_1305, .inl rfl, tyX6_ok, nmX6, rfl, rfl⟩
theorem fd_X6_111 : FdZ RX6 111 11 14 .int false := ⟨RX6, TX6, 38, tyX6, "StormBasinModel", rfl, by decide, us_X6, wd_1319, .inl rfl, tyX6_ok, nmX6, rfl, rfl⟩
theorem fd_X6_117 : FdZ RX6 117 11 25 .int false := ⟨RX6, TX6, 38, tyX6, "StormBasinModel", rfl, by decide, us_X6, wd_1330, .inl rfl, tyX6_ok, nmX6, rfl, rfl⟩
theorem fd_X6_120 : FdZ RX6 120 11 20 .int false := ⟨RX6, TX6, 38, tyX6, "StormBasinModel", rfl, by decide, us_X6, wd_1325, .inl rfl, tyX6_ok, nmX6, rfl, rfl⟩
theorem fd_X6_13 : FdZ RX6 13 11 2 (.array .int) true := ⟨RX6, TX6, 38, tyX6, "StormBasinModel", rfl, by decide, us_X6, wd_1307, .inl rfl, tyX6_ok, nmX6, rfl, rfl⟩
theorem fd_X6_137 : FdZ RX6 137 11 34 .int false := ⟨RX6, TX6, 38, tyX6, "StormBasinModel", rfl, by decide, us_X6, wd_1339, .inl rfl, tyX6_ok, nmX6, rfl, rfl⟩
theorem fd_X6_148 : FdZ RX6 148 11 21 .int false := ⟨RX6, TX6, 38, tyX6, "StormBasinModel", rfl, by decide, us_X6, wd_1326, .inl rfl, tyX6_ok, nmX6, rfl, rfl⟩
theorem fd_X6_151 : FdZ RX6 151 11 22 .int false := ⟨RX6, TX6, 38, tyX6, "StormBasinModel", rfl, by decide, us_X6, wd_1327, .inl rfl, tyX6_ok, nmX6, rfl, rfl⟩
theorem fd_X6_16 : FdZ RX6 16 11 3 (.array .int) true := ⟨RX6, TX6, 38, tyX6, "StormBasinModel", rfl, by decide, us_X6, wd_1308, .inl rfl, tyX6_ok, nmX6, rfl, rfl⟩
theorem fd_X6_19 : FdZ RX6 19 11 4 (.array .int) true := ⟨RX6, TX6, 38, tyX6, "StormBasinModel", rfl, by decide, us_X6, wd_1309, .inl rfl, tyX6_ok, nmX6, rfl, rfl⟩
theorem fd_X6_194 : FdZ RX6 194 11 32 .int false := ⟨RX6, TX6, 38, tyX6, "StormBasinModel", rfl, by decide, us_X6, wd_1337, .inl rfl, tyX6_ok, nmX6, rfl, rfl⟩
theorem fd_X6_207 : FdZ RX6 207 11 36 .int false := ⟨RX6, TX6, 38, tyX6, "StormBasinModel", rfl, by decide, us_X6, wd_1341, .inl rfl, tyX6_ok, nmX6, rfl, rfl⟩
theorem fd_X6_22 : FdZ RX6 22 11 5 (.array .int) true := ⟨RX6, TX6, 38, tyX6, "StormBasinModel", rfl, by decide, us_X6, wd_1310, .inl rfl, tyX6_ok, nmX6, rfl, rfl⟩
theorem fd_X6_25 : FdZ RX6 25 11 6 (.array .int) true := ⟨RX6, TX6, 38, tyX6, "StormBasinModel", rfl, by decide, us_X6, wd_1311, .inl rfl, tyX6_ok, nmX6, rfl, rfl⟩
theorem fd_X6_28 : FdZ RX6 28 11 7 (.array .int) true := ⟨RX6, TX6, 38, tyX6, "StormBasinModel", rfl, by decide, us_X6, wd_1312, .inl rfl, tyX6_ok, nmX6, rfl, rfl⟩
theorem fd_X6_31 : FdZ RX6 31 11 8 (.array .int) true := ⟨RX6, TX6, 38, tyX6, "StormBasinModel", rfl, by decide, us_X6, wd_1313, .inl rfl, tyX6_ok, nmX6, rfl, rfl⟩
theorem fd_X6_34 : FdZ RX6 34 11 9 (.array .int) true := ⟨RX6, TX6, 38, tyX6, "StormBasinModel", rfl, by decide, us_X6, wd_1314, .inl rfl, tyX6_ok, nmX6, rfl, rfl⟩
theorem fd_X6_37 : FdZ RX6 37 11 10 (.array .int) true := ⟨RX6, TX6, 38, tyX6, "StormBasinModel", rfl, by decide, us_X6, wd_1315, .inl rfl, tyX6_ok, nmX6, rfl, rfl⟩
theorem fd_X6_40 : FdZ RX6 40 11 11 (.array .int) true := ⟨RX6, TX6, 38, tyX6, "StormBasinModel", rfl, by decide, us_X6, wd_1316, .inl rfl, tyX6_ok, nmX6, rfl, rfl⟩
theorem fd_X6_43 : FdZ RX6 43 11 12 (.array .int) true := ⟨RX6, TX6, 38, tyX6, "StormBasinModel", rfl, by decide, us_X6, wd_1317, .inl rfl, tyX6_ok, nmX6, rfl, rfl⟩
theorem fd_X6_46 : FdZ RX6 46 11 13 (.array .int) true := ⟨RX6, TX6, 38, tyX6, "StormBasinModel", rfl, by decide, us_X6, wd_1318, .inl rfl, tyX6_ok, nmX6, rfl, rfl⟩
theorem fd_X6_49 : FdZ RX6 49 11 15 (.array .int) true := ⟨RX6, TX6, 38, tyX6, "StormBasinModel", rfl, by decide, us_X6, wd_1320, .inl rfl, tyX6_ok, nmX6, rfl, rfl⟩
theorem fd_X6_52 : FdZ RX6 52 11 16 (.array .int) true := ⟨RX6, TX6, 38, tyX6, "StormBasinModel", rfl, by decide, us_X6, wd_1321, .inl rfl, tyX6_ok, nmX6, rfl, rfl⟩
theorem fd_X6_55 : FdZ RX6 55 11 17 (.array .boolean) true := ⟨RX6, TX6, 38, tyX6, "StormBasinModel", rfl, by decide, us_X6, wd_1322, .inl rfl, tyX6_ok, nmX6, rfl, rfl⟩
theorem fd_X6_59 : FdZ RX6 59 11 18 (.array .int) true := ⟨RX6, TX6, 38, tyX6, "StormBasinModel", rfl, by decide, us_X6, wd_1323, .inl rfl, tyX6_ok, nmX6, rfl, rfl⟩
theorem fd_X6_62 : FdZ RX6 62 11 19 (.array .int) true := ⟨RX6, TX6, 38, tyX6, "StormBasinModel", rfl, by decide, us_X6, wd_1324, .inl rfl, tyX6_ok, nmX6, rfl, rfl⟩
theorem fd_X6_65 : FdZ RX6 65 11 23 (.array .int) true := ⟨RX6, TX6, 38, tyX6, "StormBasinModel", rfl, by decide, us_X6, wd_1328, .inl rfl, tyX6_ok, nmX6, rfl, rfl⟩
theorem fd_X6_68 : FdZ RX6 68 11 24 (.array .int) true := ⟨RX6, TX6, 38, tyX6, "StormBasinModel", rfl, by decide, us_X6, wd_1329, .inl rfl, tyX6_ok, nmX6, rfl, rfl⟩
theorem fd_X6_7 : FdZ RX6 7 11 1 (.array .int) true := ⟨RX6, TX6, 38, tyX6, "StormBasinModel", rfl, by decide, us_X6, wd_1306, .inl rfl, tyX6_ok, nmX6, rfl, rfl⟩
theorem fd_X6_71 : FdZ RX6 71 11 26 (.array .int) true := ⟨RX6, TX6, 38, tyX6, "StormBasinModel", rfl, by decide, us_X6, wd_1331, .inl rfl, tyX6_ok, nmX6, rfl, rfl⟩
theorem fd_X6_74 : FdZ RX6 74 11 27 (.array .int) true := ⟨RX6, TX6, 38, tyX6, "StormBasinModel", rfl, by decide, us_X6, wd_1332, .inl rfl, tyX6_ok, nmX6, rfl, rfl⟩
theorem fd_X6_77 : FdZ RX6 77 11 28 (.array .int) true := ⟨RX6, TX6, 38, tyX6, "StormBasinModel", rfl, by decide, us_X6, wd_1333, .inl rfl, tyX6_ok, nmX6, rfl, rfl⟩
theorem fd_X6_80 : FdZ RX6 80 11 29 (.array .int) true := ⟨RX6, TX6, 38, tyX6, "StormBasinModel", rfl, by decide, us_X6, wd_1334, .inl rfl, tyX6_ok, nmX6, rfl, rfl⟩
theorem fd_X6_83 : FdZ RX6 83 11 30 (.array .int) true := ⟨RX6, TX6, 38, tyX6, "StormBasinModel", rfl, by decide, us_X6, wd_1335, .inl rfl, tyX6_ok, nmX6, rfl, rfl⟩
theorem fd_X6_86 : FdZ RX6 86 11 31 (.array .boolean) true := ⟨RX6, TX6, 38, tyX6, "StormBasinModel", rfl, by decide, us_X6, wd_1336, .inl rfl, tyX6_ok, nmX6, rfl, rfl⟩
theorem fd_X6_89 : FdZ RX6 89 11 33 .int false := ⟨RX6, TX6, 38, tyX6, "StormBasinModel", rfl, by decide, us_X6, wd_1338, .inl rfl, tyX6_ok, nmX6, rfl, rfl⟩
theorem fd_X6_93 : FdZ RX6 93 11 35 (.array .char) true := ⟨RX6, TX6, 38, tyX6, "StormBasinModel", rfl, by decide, us_X6, wd_1340, .inl rfl, tyX6_ok, nmX6, rfl, rfl⟩
theorem fd_X6_97 : FdZ RX6 97 11 37 .int false := ⟨RX6, TX6, 38, tyX6, "StormBasinModel", rfl, by decide, us_X6, wd_1342, .inl rfl, tyX6_ok, nmX6, rfl, rfl⟩
theorem fd_J5_15 : FdZ RJ5 15 1 0 (.array .byte) false := ⟨RJ4, TJ4, 4, tyJ4, "java/lang/AbstractStringBuilder", rfl, by decide, us_J4, wd_158, .inl rfl, tyJ4_ok, nmJ4, rfl, rfl⟩
theorem fd_J5_22 : FdZ RJ5 22 1 1 .byte false := ⟨RJ4, TJ4, 4, tyJ4, "java/lang/AbstractStringBuilder", rfl, by decide, us_J4, wd_159, .inl rfl, tyJ4_ok, nmJ4, rfl, rfl⟩
theorem fd_J5_73 : FdZ RJ5 73 1 2 .boolean false := ⟨RJ4, TJ4, 4, tyJ4, "java/lang/AbstractStringBuilder", rfl, by decide, us_J4, wd_160, .inl rfl, tyJ4_ok, nmJ4, rfl, rfl⟩
theorem fd_J5_79 : FdZ RJ5 79 1 3 .int false := ⟨RJ4, TJ4, 4, tyJ4, "java/lang/AbstractStringBuilder", rfl, by decide, us_J4, wd_162, .inl rfl, tyJ4_ok, nmJ4, rfl, rfl⟩
theorem fd_J0_1048 : FdZ RJ0 1048 1 2 .boolean false := ⟨RJ4, TJ4, 4, tyJ4, "java/lang/AbstractStringBuilder", rfl, by decide, us_J4, wd_161, .inl rfl, tyJ4_ok, nmJ4, rfl, rfl⟩
theorem fd_J0_15 : FdZ RJ0 15 0 1 .byte true := ⟨RJ0, TJ0, 4, tyJ0, "java/lang/String", rfl, by decide, us_J0, wd_1219, .inl rfl, tyJ0_ok, nmJ0, rfl, rfl⟩
theorem fd_J0_9 : FdZ RJ0 9 0 0 (.array .byte) true := ⟨RJ0, TJ0, 4, tyJ0, "java/lang/String", rfl, by decide, us_J0, wd_1218, .inl rfl, tyJ0_ok, nmJ0, rfl, rfl⟩
theorem fd_Jxc12de_7_Jx4a65c : FdZ RJxc12de 7 4 0 .int false := ⟨RJx4a65c, TJx4a65c, 3, tyJx4a65c, "java/util/AbstractList", rfl, by decide, us_Jx4a65c, wd_106, .inl rfl, tyJx4a65c_ok, nmJx4a65c, rfl, rfl⟩
theorem fd_Jx4a65c_48 : FdZ RJx4a65c 48 4 2 .int false := ⟨RJx4a65c, TJx4a65c, 3, tyJx4a65c, "java/util/ArrayList", rfl, by decide, us_Jx4a65c, wd_105, .inl rfl, tyJx4a65c_ok, nmJx4a65c, rfl, rfl⟩
theorem fd_Jx4a65c_63 : FdZ RJx4a65c 63 4 0 .int false := ⟨RJx4a65c, TJx4a65c, 3, tyJx4a65c, "java/util/ArrayList", rfl, by decide, us_Jx4a65c, wd_107, .inr wd_108, tyJx4a65c_ok, nmJx4a65c, rfl, rfl⟩
theorem fd_Jx4a65c_9 : FdZ RJx4a65c 9 4 1 (.array (.object "java/lang/Object")) false := ⟨RJx4a65c, TJx4a65c, 3, tyJx4a65c, "java/util/ArrayList", rfl, by decide, us_Jx4a65c, wd_104, .inl rfl, tyJx4a65c_ok, nmJx4a65c, rfl, rfl⟩
theorem cw_X0_26 : CwZ RX0 26 yX3_init cX3_init 2 none 1 := ⟨wd_478, wd_66, wd_480, ⟨by decide, by decide, by decide +kernel⟩⟩
theorem cw_X1_35 : CwZ RX1 35 yX3_isWet cX3_isWet 3 (some Jvm.ClassFile.FieldType.boolean) 2 := ⟨wd_885, wd_66, wd_324, ⟨by decide, by decide, by decide +kernel⟩⟩
theorem cw_X1_39 : CwZ RX1 39 yX3_depthOf cX3_depthOf 7 (some .int) 2 := ⟨wd_897, wd_66, wd_781, ⟨by decide, by decide, by decide +kernel⟩⟩
theorem cw_X1_43 : CwZ RX1 43 yX1_worthAt cX1_worthAt 2 (some .int) 1 := ⟨wd_927, wd_74, wd_896, ⟨by decide, by decide, by decide +kernel⟩⟩
theorem cw_X1_50 : CwZ RX1 50 yJ9_min_7cf53 cJ9_min_7cf53 2 (some .int) 2 := ⟨wd_928, wd_68, wd_299, ⟨by decide, by decide, by decide +kernel⟩⟩
theorem cw_X3_28 : CwZ RX3 28 yX3_volumeBefore cX3_volumeBefore 4 (some .int) 1 := ⟨wd_615, wd_66, wd_618, ⟨by decide, by decide, by decide +kernel⟩⟩
theorem cw_X3_32 : CwZ RX3 32 yX3_cellsAhead cX3_cellsAhead 5 (some .int) 2 := ⟨wd_619, wd_66, wd_622, ⟨by decide, by decide, by decide +kernel⟩⟩
theorem cw_X3_36 : CwZ RX3 36 yJ9_max_7cf53 cJ9_max_7cf53 2 (some .int) 2 := ⟨wd_623, wd_68, wd_552, ⟨by decide, by decide, by decide +kernel⟩⟩
theorem cw_X3_41 : CwZ RX3 41 yX3_isWet cX3_isWet 3 (some Jvm.ClassFile.FieldType.boolean) 2 := ⟨wd_321, wd_66, wd_324, ⟨by decide, by decide, by decide +kernel⟩⟩
theorem cw_X3_45 : CwZ RX3 45 yX3_cellsUpTo cX3_cellsUpTo 2 (some .int) 1 := ⟨wd_782, wd_66, wd_785, ⟨by decide, by decide, by decide +kernel⟩⟩
theorem cw_X3_48 : CwZ RX3 48 yJ7_fill_53178 cJ7_fill_53178 4 none 2 := ⟨wd_797, wd_69, wd_278, ⟨by decide, by decide, by decide +kernel⟩⟩
theorem cw_X3_54 : CwZ RX3 54 yX3_lowestCell cX3_lowestCell 3 (some .int) 0 := ⟨wd_798, wd_66, wd_801, ⟨by decide, by decide, by decide +kernel⟩⟩
theorem cw_X4_21 : CwZ RX4 21 yJ7_fill_53178 cJ7_fill_53178 4 none 2 := ⟨wd_276, wd_69, wd_278, ⟨by decide, by decide, by decide +kernel⟩⟩
theorem cw_X4_31 : CwZ RX4 31 yJ9_min_7cf53 cJ9_min_7cf53 2 (some .int) 2 := ⟨wd_312, wd_68, wd_299, ⟨by decide, by decide, by decide +kernel⟩⟩
theorem cw_X5_102 : CwZ RX5 102 yX5_requireOpening cX5_requireOpening 1 none 1 := ⟨wd_645, wd_48, wd_647, ⟨by decide, by decide, by decide +kernel⟩⟩
theorem cw_X5_108 : CwZ RX5 108 yX5_requireBasin cX5_requireBasin 2 none 1 := ⟨wd_605, wd_48, wd_608, ⟨by decide, by decide, by decide +kernel⟩⟩
theorem cw_X5_117 : CwZ RX5 117 yX2_init cX2_init 6 none 5 := ⟨wd_659, wd_73, wd_661, ⟨by decide, by decide, by decide +kernel⟩⟩
theorem cw_X5_120 : CwZ RX5 120 yX5_requireRule cX5_requireRule 2 none 1 := ⟨wd_691, wd_48, wd_694, ⟨by decide, by decide, by decide +kernel⟩⟩
theorem cw_X5_123 : CwZ RX5 123 yJx4a65c_remove_915e3 cJx4a65c_remove_915e3 4 (some (Jvm.ClassFile.FieldType.object "java/lang/Object")) 1 := ⟨wd_696, wd_51, wd_699, ⟨by decide, by decide, by decide +kernel⟩⟩
theorem cw_X5_127 : CwZ RX5 127 yJx4a65c_get_915e3 cJx4a65c_get_915e3 2 (some (Jvm.ClassFile.FieldType.object "java/lang/Object")) 1 := ⟨wd_249, wd_51, wd_252, ⟨by decide, by decide, by decide +kernel⟩⟩
theorem cw_X5_130 : CwZ RX5 130 yX5_holdsBy cX5_holdsBy 3 (some Jvm.ClassFile.FieldType.boolean) 2 := ⟨wd_289, wd_48, wd_292, ⟨by decide, by decide, by decide +kernel⟩⟩
theorem cw_X5_134 : CwZ RX5 134 yX5_openingBy cX5_openingBy 5 (some .int) 2 := ⟨wd_284, wd_48, wd_287, ⟨by decide, by decide, by decide +kernel⟩⟩
theorem cw_X5_145 : CwZ RX5 145 yJx4a65c_isEmpty_aae02 cJx4a65c_isEmpty_aae02 1 (some Jvm.ClassFile.FieldType.boolean) 0 := ⟨wd_735, wd_51, wd_738, ⟨by decide, by decide, by decide +kernel⟩⟩
theorem cw_X5_156 : CwZ RX5 156 yX5_passOneHour cX5_passOneHour 4 none 0 := ⟨wd_741, wd_48, wd_744, ⟨by decide, by decide, by decide +kernel⟩⟩
theorem cw_X5_163 : CwZ RX5 163 yX5_levelBy cX5_levelBy 3 (some .int) 2 := ⟨wd_293, wd_48, wd_296, ⟨by decide, by decide, by decide +kernel⟩⟩
theorem cw_X5_175 : CwZ RX5 175 yX4_held cX4_held 3 (some .int) 0 := ⟨wd_229, wd_52, wd_232, ⟨by decide, by decide, by decide +kernel⟩⟩
theorem cw_X5_178 : CwZ RX5 178 yX5_streetWith cX5_streetWith 4 (some (Jvm.ClassFile.FieldType.object "StormBasin$Street")) 2 := ⟨wd_773, wd_48, wd_776, ⟨by decide, by decide, by decide +kernel⟩⟩
theorem cw_X5_182 : CwZ RX5 182 yX3_depthOf cX3_depthOf 7 (some .int) 2 := ⟨wd_778, wd_66, wd_781, ⟨by decide, by decide, by decide +kernel⟩⟩
theorem cw_X5_186 : CwZ RX5 186 yX3_depthPoured cX3_depthPoured 4 (some .int) 2 := ⟨wd_793, wd_66, wd_796, ⟨by decide, by decide, by decide +kernel⟩⟩
theorem cw_X5_189 : CwZ RX5 189 yX5_requireHour cX5_requireHour 2 none 1 := ⟨wd_809, wd_48, wd_812, ⟨by decide, by decide, by decide +kernel⟩⟩
theorem cw_X5_195 : CwZ RX5 195 yX3_countWet cX3_countWet 4 (some .int) 1 := ⟨wd_317, wd_66, wd_320, ⟨by decide, by decide, by decide +kernel⟩⟩
theorem cw_X5_199 : CwZ RX5 199 yX3_isWet cX3_isWet 3 (some Jvm.ClassFile.FieldType.boolean) 2 := ⟨wd_828, wd_66, wd_324, ⟨by decide, by decide, by decide +kernel⟩⟩
theorem cw_X5_212 : CwZ RX5 212 yX1_init cX1_init 5 none 4 := ⟨wd_839, wd_74, wd_841, ⟨by decide, by decide, by decide +kernel⟩⟩
theorem cw_X5_215 : CwZ RX5 215 yX5_houseOf cX5_houseOf 2 (some (Jvm.ClassFile.FieldType.object "StormBasin$House")) 1 := ⟨wd_876, wd_48, wd_879, ⟨by decide, by decide, by decide +kernel⟩⟩
theorem cw_X5_219 : CwZ RX5 219 yX1_isWetAt cX1_isWetAt 2 (some Jvm.ClassFile.FieldType.boolean) 1 := ⟨wd_881, wd_74, wd_884, ⟨by decide, by decide, by decide +kernel⟩⟩
theorem cw_X5_223 : CwZ RX5 223 yX1_worthAt cX1_worthAt 2 (some .int) 1 := ⟨wd_893, wd_74, wd_896, ⟨by decide, by decide, by decide +kernel⟩⟩
theorem cw_X5_237 : CwZ RX5 237 yX1_pay cX1_pay 3 (some .int) 1 := ⟨wd_923, wd_74, wd_926, ⟨by decide, by decide, by decide +kernel⟩⟩
theorem cw_X5_24 : CwZ RX5 24 yX4_init cX4_init 1 none 0 := ⟨wd_118, wd_52, wd_120, ⟨by decide, by decide, by decide +kernel⟩⟩
theorem cw_X5_240 : CwZ RX5 240 yX1_worstHour cX1_worstHour 6 (some .int) 1 := ⟨wd_937, wd_74, wd_940, ⟨by decide, by decide, by decide +kernel⟩⟩
theorem cw_X5_259 : CwZ RX5 259 yX5_paidTotal cX5_paidTotal 4 (some Jvm.ClassFile.FieldType.long) 0 := ⟨wd_995, wd_48, wd_248, ⟨by decide, by decide, by decide +kernel⟩⟩
theorem cw_X5_263 : CwZ RX5 263 yX5_tryPastRain cX5_tryPastRain 5 (some .int) 2 := ⟨wd_268, wd_48, wd_271, ⟨by decide, by decide, by decide +kernel⟩⟩
theorem cw_X5_266 : CwZ RX5 266 yJ4_setLength_d00df cJ4_setLength_d00df 2 none 1 := ⟨wd_1017, wd_54, wd_1020, ⟨by decide, by decide, by decide +kernel⟩⟩
theorem cw_X5_272 : CwZ RX5 272 yJ4_append_bf812 cJ4_append_bf812 2 (some (Jvm.ClassFile.FieldType.object "java/lang/StringBuilder")) 1 := ⟨wd_1259, wd_54, wd_1140, ⟨by decide, by decide, by decide +kernel⟩⟩
theorem cw_X5_275 : CwZ RX5 275 yJ4_append_cf468 cJ4_append_cf468 2 (some (Jvm.ClassFile.FieldType.object "java/lang/StringBuilder")) 1 := ⟨wd_1260, wd_54, wd_1263, ⟨by decide, by decide, by decide +kernel⟩⟩
theorem cw_X5_291 : CwZ RX5 291 yJ4_length_8abf5 cJ4_length_8abf5 1 (some .int) 0 := ⟨wd_1280, wd_54, wd_1184, ⟨by decide, by decide, by decide +kernel⟩⟩
theorem cw_X5_296 : CwZ RX5 296 yJ4_charAt_5068e cJ4_charAt_5068e 2 (some Jvm.ClassFile.FieldType.char) 1 := ⟨wd_1289, wd_54, wd_1292, ⟨by decide, by decide, by decide +kernel⟩⟩
theorem cw_X5_319 : CwZ RX5 319 yX5_moveWater cX5_moveWater 7 none 4 := ⟨wd_279, wd_48, wd_282, ⟨by decide, by decide, by decide +kernel⟩⟩
theorem cw_X5_323 : CwZ RX5 323 yX5_wetCellsBy cX5_wetCellsBy 4 (some .int) 1 := ⟨wd_313, wd_48, wd_316, ⟨by decide, by decide, by decide +kernel⟩⟩
theorem cw_X5_327 : CwZ RX5 327 yX4_clear cX4_clear 1 none 0 := ⟨wd_272, wd_52, wd_275, ⟨by decide, by decide, by decide +kernel⟩⟩
theorem cw_X5_336 : CwZ RX5 336 yJ9_min_7cf53 cJ9_min_7cf53 2 (some .int) 2 := ⟨wd_297, wd_68, wd_299, ⟨by decide, by decide, by decide +kernel⟩⟩
theorem cw_X5_34 : CwZ RX5 34 yJ4_init_da8c8 cJ4_init_da8c8 1 none 0 := ⟨wd_142, wd_54, wd_144, ⟨by decide, by decide, by decide +kernel⟩⟩
theorem cw_X5_344 : CwZ RX5 344 yX4_runThroughGate cX4_runThroughGate 3 none 2 := ⟨wd_300, wd_52, wd_303, ⟨by decide, by decide, by decide +kernel⟩⟩
theorem cw_X5_348 : CwZ RX5 348 yX4_settle cX4_settle 5 none 2 := ⟨wd_308, wd_52, wd_311, ⟨by decide, by decide, by decide +kernel⟩⟩
theorem cw_X5_39 : CwZ RX5 39 yJx4a65c_size_8abf5 cJx4a65c_size_8abf5 1 (some .int) 0 := ⟨wd_205, wd_51, wd_208, ⟨by decide, by decide, by decide +kernel⟩⟩
theorem cw_X5_43 : CwZ RX5 43 yX5_isWithin cX5_isWithin 3 (some Jvm.ClassFile.FieldType.boolean) 3 := ⟨wd_414, wd_48, wd_416, ⟨by decide, by decide, by decide +kernel⟩⟩
theorem cw_X5_59 : CwZ RX5 59 yX5_requireHeight cX5_requireHeight 1 none 1 := ⟨wd_446, wd_48, wd_448, ⟨by decide, by decide, by decide +kernel⟩⟩
theorem cw_X5_68 : CwZ RX5 68 yX5_requireBeforeFirstHour cX5_requireBeforeFirstHour 1 none 0 := ⟨wd_466, wd_48, wd_469, ⟨by decide, by decide, by decide +kernel⟩⟩
theorem cw_X5_73 : CwZ RX5 73 yX0_init cX0_init 6 none 5 := ⟨wd_472, wd_65, wd_474, ⟨by decide, by decide, by decide +kernel⟩⟩
theorem cw_X5_76 : CwZ RX5 76 yJx4a65c_add_9ea2d cJx4a65c_add_9ea2d 2 (some Jvm.ClassFile.FieldType.boolean) 1 := ⟨wd_531, wd_51, wd_534, ⟨by decide, by decide, by decide +kernel⟩⟩
theorem cw_X5_80 : CwZ RX5 80 yX5_basinOf cX5_basinOf 2 (some (Jvm.ClassFile.FieldType.object "StormBasin$Basin")) 1 := ⟨wd_601, wd_48, wd_604, ⟨by decide, by decide, by decide +kernel⟩⟩
theorem cw_X5_9 : CwZ RX5 9 yJx4a65c_init_da8c8 cJx4a65c_init_da8c8 1 none 0 := ⟨wd_92, wd_51, wd_94, ⟨by decide, by decide, by decide +kernel⟩⟩
theorem cw_X5_96 : CwZ RX5 96 yX3_append cX3_append 3 none 1 := ⟨wd_611, wd_66, wd_614, ⟨by decide, by decide, by decide +kernel⟩⟩
theorem cw_X5_99 : CwZ RX5 99 yX0_capacity cX0_capacity 1 (some .int) 0 := ⟨wd_304, wd_65, wd_307, ⟨by decide, by decide, by decide +kernel⟩⟩
theorem cw_L_102 : CwZ RL 102 yX5_paidTo cX5_paidTo 2 (some .int) 1 := ⟨wd_967, wd_48, wd_970, ⟨by decide, by decide, by decide +kernel⟩⟩
theorem cw_L_105 : CwZ RL 105 yX5_meanPayment cX5_meanPayment 3 (some Jvm.ClassFile.FieldType.double) 0 := ⟨wd_988, wd_48, wd_991, ⟨by decide, by decide, by decide +kernel⟩⟩
theorem cw_L_111 : CwZ RL 111 yX5_floodedWithOpening cX5_floodedWithOpening 3 (some .int) 2 := ⟨wd_999, wd_48, wd_1002, ⟨by decide, by decide, by decide +kernel⟩⟩
theorem cw_L_114 : CwZ RL 114 yX5_bestOpening cX5_bestOpening 6 (some .int) 1 := ⟨wd_1006, wd_48, wd_1009, ⟨by decide, by decide, by decide +kernel⟩⟩
theorem cw_L_117 : CwZ RL 117 yX5_writeRule cX5_writeRule 3 (some .int) 1 := ⟨wd_1013, wd_48, wd_1016, ⟨by decide, by decide, by decide +kernel⟩⟩
theorem cw_L_120 : CwZ RL 120 yX5_lineAt cX5_lineAt 2 (some Jvm.ClassFile.FieldType.char) 1 := ⟨wd_1284, wd_48, wd_1287, ⟨by decide, by decide, by decide +kernel⟩⟩
theorem cw_L_124 : CwZ RL 124 yX5_init cX5_init 1 none 0 := ⟨wd_84, wd_48, wd_86, ⟨by decide, by decide, by decide +kernel⟩⟩
theorem cw_L_127 : CwZ RL 127 yX6_init cX6_init 1 none 0 := ⟨wd_1301, wd_57, wd_1303, ⟨by decide, by decide, by decide +kernel⟩⟩
theorem cw_L_133 : CwZ RL 133 yX6_addBasin cX6_addBasin 8 (some .int) 5 := ⟨wd_1425, wd_57, wd_1428, ⟨by decide, by decide, by decide +kernel⟩⟩
theorem cw_L_134 : CwZ RL 134 yX6_thrown cX6_thrown 1 (some .int) 0 := ⟨wd_1421, wd_57, wd_1424, ⟨by decide, by decide, by decide +kernel⟩⟩
theorem cw_L_141 : CwZ RL 141 yX6_addCell cX6_addCell 3 (some .int) 2 := ⟨wd_1440, wd_57, wd_1443, ⟨by decide, by decide, by decide +kernel⟩⟩
theorem cw_L_142 : CwZ RL 142 yX5_basinCount cX5_basinCount 1 (some .int) 0 := ⟨wd_201, wd_48, wd_204, ⟨by decide, by decide, by decide +kernel⟩⟩
theorem cw_L_145 : CwZ RL 145 yX6_basinCount cX6_basinCount 1 (some .int) 0 := ⟨wd_1444, wd_57, wd_1447, ⟨by decide, by decide, by decide +kernel⟩⟩
theorem cw_L_149 : CwZ RL 149 yX6_cellCount cX6_cellCount 2 (some .int) 1 := ⟨wd_1452, wd_57, wd_1455, ⟨by decide, by decide, by decide +kernel⟩⟩
theorem cw_L_152 : CwZ RL 152 yX6_capacityOf cX6_capacityOf 2 (some .int) 1 := ⟨wd_1456, wd_57, wd_1459, ⟨by decide, by decide, by decide +kernel⟩⟩
theorem cw_L_155 : CwZ RL 155 yX6_setHand cX6_setHand 4 (some .int) 2 := ⟨wd_1464, wd_57, wd_1467, ⟨by decide, by decide, by decide +kernel⟩⟩
theorem cw_L_159 : CwZ RL 159 yX6_addRule cX6_addRule 6 (some .int) 5 := ⟨wd_1468, wd_57, wd_1471, ⟨by decide, by decide, by decide +kernel⟩⟩
theorem cw_L_162 : CwZ RL 162 yX6_removeRule cX6_removeRule 3 (some .int) 1 := ⟨wd_1472, wd_57, wd_1475, ⟨by decide, by decide, by decide +kernel⟩⟩
theorem cw_L_163 : CwZ RL 163 yX5_ruleCount cX5_ruleCount 1 (some .int) 0 := ⟨wd_209, wd_48, wd_212, ⟨by decide, by decide, by decide +kernel⟩⟩
theorem cw_L_166 : CwZ RL 166 yX6_ruleCount cX6_ruleCount 1 (some .int) 0 := ⟨wd_1480, wd_57, wd_1483, ⟨by decide, by decide, by decide +kernel⟩⟩
theorem cw_L_169 : CwZ RL 169 yX6_doesHold cX6_doesHold 2 (some Jvm.ClassFile.FieldType.boolean) 1 := ⟨wd_1484, wd_57, wd_1487, ⟨by decide, by decide, by decide +kernel⟩⟩
theorem cw_L_172 : CwZ RL 172 yX6_openingNow cX6_openingNow 2 (some .int) 1 := ⟨wd_1492, wd_57, wd_1495, ⟨by decide, by decide, by decide +kernel⟩⟩
theorem cw_L_175 : CwZ RL 175 yX6_setRain cX6_setRain 4 (some .int) 2 := ⟨wd_1500, wd_57, wd_1503, ⟨by decide, by decide, by decide +kernel⟩⟩
theorem cw_L_178 : CwZ RL 178 yX6_pass cX6_pass 4 (some .int) 1 := ⟨wd_1504, wd_57, wd_1507, ⟨by decide, by decide, by decide +kernel⟩⟩
theorem cw_L_179 : CwZ RL 179 yX5_clock cX5_clock 1 (some .int) 0 := ⟨wd_213, wd_48, wd_216, ⟨by decide, by decide, by decide +kernel⟩⟩
theorem cw_L_182 : CwZ RL 182 yX6_clock cX6_clock 1 (some .int) 0 := ⟨wd_1515, wd_57, wd_1518, ⟨by decide, by decide, by decide +kernel⟩⟩
theorem cw_L_185 : CwZ RL 185 yX6_volumeOf cX6_volumeOf 2 (some .int) 1 := ⟨wd_1519, wd_57, wd_1522, ⟨by decide, by decide, by decide +kernel⟩⟩
theorem cw_L_188 : CwZ RL 188 yX6_levelOf cX6_levelOf 2 (some .int) 1 := ⟨wd_1523, wd_57, wd_1526, ⟨by decide, by decide, by decide +kernel⟩⟩
theorem cw_L_19 : CwZ RL 19 yX5_addCell cX5_addCell 4 (some .int) 2 := ⟨wd_597, wd_48, wd_600, ⟨by decide, by decide, by decide +kernel⟩⟩
theorem cw_L_191 : CwZ RL 191 yX6_streetVolume cX6_streetVolume 2 (some .int) 1 := ⟨wd_1527, wd_57, wd_1530, ⟨by decide, by decide, by decide +kernel⟩⟩
theorem cw_L_192 : CwZ RL 192 yX5_rainTotal cX5_rainTotal 1 (some .int) 0 := ⟨wd_217, wd_48, wd_220, ⟨by decide, by decide, by decide +kernel⟩⟩
theorem cw_L_195 : CwZ RL 195 yX6_rainTotal cX6_rainTotal 1 (some .int) 0 := ⟨wd_1531, wd_57, wd_1534, ⟨by decide, by decide, by decide +kernel⟩⟩
theorem cw_L_196 : CwZ RL 196 yX5_riverTotal cX5_riverTotal 1 (some .int) 0 := ⟨wd_221, wd_48, wd_224, ⟨by decide, by decide, by decide +kernel⟩⟩
theorem cw_L_199 : CwZ RL 199 yX6_riverTotal cX6_riverTotal 1 (some .int) 0 := ⟨wd_1535, wd_57, wd_1538, ⟨by decide, by decide, by decide +kernel⟩⟩
theorem cw_L_200 : CwZ RL 200 yX5_heldTotal cX5_heldTotal 1 (some .int) 0 := ⟨wd_225, wd_48, wd_228, ⟨by decide, by decide, by decide +kernel⟩⟩
theorem cw_L_203 : CwZ RL 203 yX6_heldTotal cX6_heldTotal 1 (some .int) 0 := ⟨wd_1539, wd_57, wd_1542, ⟨by decide, by decide, by decide +kernel⟩⟩
theorem cw_L_204 : CwZ RL 204 yX5_isBalanced cX5_isBalanced 1 (some Jvm.ClassFile.FieldType.boolean) 0 := ⟨wd_233, wd_48, wd_236, ⟨by decide, by decide, by decide +kernel⟩⟩
theorem cw_L_208 : CwZ RL 208 yX6_isBalanced cX6_isBalanced 1 (some Jvm.ClassFile.FieldType.boolean) 0 := ⟨wd_1547, wd_57, wd_1550, ⟨by decide, by decide, by decide +kernel⟩⟩
theorem cw_L_211 : CwZ RL 211 yX6_depthAt cX6_depthAt 3 (some .int) 2 := ⟨wd_1551, wd_57, wd_1554, ⟨by decide, by decide, by decide +kernel⟩⟩
theorem cw_L_214 : CwZ RL 214 yX6_depthByPouring cX6_depthByPouring 3 (some .int) 2 := ⟨wd_1575, wd_57, wd_1578, ⟨by decide, by decide, by decide +kernel⟩⟩
theorem cw_L_218 : CwZ RL 218 yX6_depthThen cX6_depthThen 4 (some .int) 3 := ⟨wd_1579, wd_57, wd_1582, ⟨by decide, by decide, by decide +kernel⟩⟩
theorem cw_L_221 : CwZ RL 221 yX6_wetCells cX6_wetCells 2 (some .int) 1 := ⟨wd_1587, wd_57, wd_1590, ⟨by decide, by decide, by decide +kernel⟩⟩
theorem cw_L_224 : CwZ RL 224 yX6_wetHours cX6_wetHours 5 (some .int) 2 := ⟨wd_1595, wd_57, wd_1598, ⟨by decide, by decide, by decide +kernel⟩⟩
theorem cw_L_225 : CwZ RL 225 yX5_floodedSoFar cX5_floodedSoFar 1 (some .int) 0 := ⟨wd_237, wd_48, wd_240, ⟨by decide, by decide, by decide +kernel⟩⟩
theorem cw_L_228 : CwZ RL 228 yX6_floodedSoFar cX6_floodedSoFar 4 (some .int) 0 := ⟨wd_1599, wd_57, wd_1602, ⟨by decide, by decide, by decide +kernel⟩⟩
theorem cw_L_23 : CwZ RL 23 yX5_cellCount cX5_cellCount 2 (some .int) 1 := ⟨wd_627, wd_48, wd_630, ⟨by decide, by decide, by decide +kernel⟩⟩
theorem cw_L_232 : CwZ RL 232 yX6_addHouse cX6_addHouse 5 (some .int) 4 := ⟨wd_1603, wd_57, wd_1606, ⟨by decide, by decide, by decide +kernel⟩⟩
theorem cw_L_233 : CwZ RL 233 yX5_houseCount cX5_houseCount 1 (some .int) 0 := ⟨wd_241, wd_48, wd_244, ⟨by decide, by decide, by decide +kernel⟩⟩
theorem cw_L_236 : CwZ RL 236 yX6_houseCount cX6_houseCount 1 (some .int) 0 := ⟨wd_1607, wd_57, wd_1610, ⟨by decide, by decide, by decide +kernel⟩⟩
theorem cw_L_239 : CwZ RL 239 yX6_wasWet cX6_wasWet 3 (some Jvm.ClassFile.FieldType.boolean) 2 := ⟨wd_1611, wd_57, wd_1614, ⟨by decide, by decide, by decide +kernel⟩⟩
theorem cw_L_242 : CwZ RL 242 yX6_worthOf cX6_worthOf 3 (some .int) 2 := ⟨wd_1627, wd_57, wd_1630, ⟨by decide, by decide, by decide +kernel⟩⟩
theorem cw_L_245 : CwZ RL 245 yX6_claim cX6_claim 3 (some .int) 2 := ⟨wd_1631, wd_57, wd_1634, ⟨by decide, by decide, by decide +kernel⟩⟩
theorem cw_L_248 : CwZ RL 248 yX6_claimWorst cX6_claimWorst 6 (some .int) 1 := ⟨wd_1639, wd_57, wd_1642, ⟨by decide, by decide, by decide +kernel⟩⟩
theorem cw_L_251 : CwZ RL 251 yX6_claimCount cX6_claimCount 4 (some .int) 1 := ⟨wd_1643, wd_57, wd_1646, ⟨by decide, by decide, by decide +kernel⟩⟩
theorem cw_L_254 : CwZ RL 254 yX6_paidTo cX6_paidTo 2 (some .int) 1 := ⟨wd_1647, wd_57, wd_1650, ⟨by decide, by decide, by decide +kernel⟩⟩
theorem cw_L_255 : CwZ RL 255 yX5_paidTotal cX5_paidTotal 4 (some Jvm.ClassFile.FieldType.long) 0 := ⟨wd_245, wd_48, wd_248, ⟨by decide, by decide, by decide +kernel⟩⟩
theorem cw_L_259 : CwZ RL 259 yX6_paidTotal cX6_paidTotal 1 (some Jvm.ClassFile.FieldType.long) 0 := ⟨wd_1651, wd_57, wd_1654, ⟨by decide, by decide, by decide +kernel⟩⟩
theorem cw_L_263 : CwZ RL 263 yX6_meanPayment cX6_meanPayment 1 (some Jvm.ClassFile.FieldType.double) 0 := ⟨wd_1659, wd_57, wd_1662, ⟨by decide, by decide, by decide +kernel⟩⟩
theorem cw_L_264 : CwZ RL 264 yX5_floodedWith cX5_floodedWith 1 (some .int) 0 := ⟨wd_264, wd_48, wd_267, ⟨by decide, by decide, by decide +kernel⟩⟩
theorem cw_L_267 : CwZ RL 267 yX6_floodedWith cX6_floodedWith 1 (some .int) 0 := ⟨wd_1663, wd_57, wd_1666, ⟨by decide, by decide, by decide +kernel⟩⟩
theorem cw_L_27 : CwZ RL 27 yX5_capacityOf cX5_capacityOf 2 (some .int) 1 := ⟨wd_634, wd_48, wd_637, ⟨by decide, by decide, by decide +kernel⟩⟩
theorem cw_L_270 : CwZ RL 270 yX6_floodedWithOpening cX6_floodedWithOpening 3 (some .int) 2 := ⟨wd_1671, wd_57, wd_1674, ⟨by decide, by decide, by decide +kernel⟩⟩
theorem cw_L_273 : CwZ RL 273 yX6_bestOpening cX6_bestOpening 6 (some .int) 1 := ⟨wd_1675, wd_57, wd_1678, ⟨by decide, by decide, by decide +kernel⟩⟩
theorem cw_L_276 : CwZ RL 276 yX6_writeRule cX6_writeRule 2 (some .int) 1 := ⟨wd_1679, wd_57, wd_1682, ⟨by decide, by decide, by decide +kernel⟩⟩
theorem cw_L_279 : CwZ RL 279 yX6_lineAt cX6_lineAt 2 (some Jvm.ClassFile.FieldType.char) 1 := ⟨wd_1691, wd_57, wd_1694, ⟨by decide, by decide, by decide +kernel⟩⟩
theorem cw_L_30 : CwZ RL 30 yX5_setHand cX5_setHand 5 (some .int) 2 := ⟨wd_641, wd_48, wd_644, ⟨by decide, by decide, by decide +kernel⟩⟩
theorem cw_L_33 : CwZ RL 33 yX5_addRule cX5_addRule 6 (some .int) 5 := ⟨wd_652, wd_48, wd_655, ⟨by decide, by decide, by decide +kernel⟩⟩
theorem cw_L_37 : CwZ RL 37 yX5_removeRule cX5_removeRule 2 (some .int) 1 := ⟨wd_687, wd_48, wd_690, ⟨by decide, by decide, by decide +kernel⟩⟩
theorem cw_L_40 : CwZ RL 40 yX5_doesHold cX5_doesHold 2 (some Jvm.ClassFile.FieldType.boolean) 1 := ⟨wd_708, wd_48, wd_711, ⟨by decide, by decide, by decide +kernel⟩⟩
theorem cw_L_44 : CwZ RL 44 yX5_openingNow cX5_openingNow 2 (some .int) 1 := ⟨wd_715, wd_48, wd_718, ⟨by decide, by decide, by decide +kernel⟩⟩
theorem cw_L_47 : CwZ RL 47 yX5_setRain cX5_setRain 5 (some .int) 2 := ⟨wd_722, wd_48, wd_725, ⟨by decide, by decide, by decide +kernel⟩⟩
theorem cw_L_50 : CwZ RL 50 yX5_pass cX5_pass 3 (some .int) 1 := ⟨wd_730, wd_48, wd_733, ⟨by decide, by decide, by decide +kernel⟩⟩
theorem cw_L_53 : CwZ RL 53 yX5_volumeOf cX5_volumeOf 2 (some .int) 1 := ⟨wd_748, wd_48, wd_751, ⟨by decide, by decide, by decide +kernel⟩⟩
theorem cw_L_56 : CwZ RL 56 yX5_levelOf cX5_levelOf 2 (some .int) 1 := ⟨wd_755, wd_48, wd_758, ⟨by decide, by decide, by decide +kernel⟩⟩
theorem cw_L_59 : CwZ RL 59 yX5_streetVolume cX5_streetVolume 2 (some .int) 1 := ⟨wd_762, wd_48, wd_765, ⟨by decide, by decide, by decide +kernel⟩⟩
theorem cw_L_62 : CwZ RL 62 yX5_depthAt cX5_depthAt 4 (some .int) 2 := ⟨wd_769, wd_48, wd_772, ⟨by decide, by decide, by decide +kernel⟩⟩
theorem cw_L_65 : CwZ RL 65 yX5_depthByPouring cX5_depthByPouring 4 (some .int) 2 := ⟨wd_789, wd_48, wd_792, ⟨by decide, by decide, by decide +kernel⟩⟩
theorem cw_L_68 : CwZ RL 68 yX5_depthThen cX5_depthThen 5 (some .int) 3 := ⟨wd_805, wd_48, wd_808, ⟨by decide, by decide, by decide +kernel⟩⟩
theorem cw_L_7 : CwZ RL 7 yX5_addBasin cX5_addBasin 8 (some .int) 5 := ⟨wd_410, wd_48, wd_413, ⟨by decide, by decide, by decide +kernel⟩⟩
theorem cw_L_72 : CwZ RL 72 yX5_wetCells cX5_wetCells 2 (some .int) 1 := ⟨wd_817, wd_48, wd_820, ⟨by decide, by decide, by decide +kernel⟩⟩
theorem cw_L_75 : CwZ RL 75 yX5_wetHours cX5_wetHours 6 (some .int) 2 := ⟨wd_824, wd_48, wd_827, ⟨by decide, by decide, by decide +kernel⟩⟩
theorem cw_L_78 : CwZ RL 78 yX5_addHouse cX5_addHouse 7 (some .int) 4 := ⟨wd_832, wd_48, wd_835, ⟨by decide, by decide, by decide +kernel⟩⟩
theorem cw_L_82 : CwZ RL 82 yX5_wasWet cX5_wasWet 4 (some Jvm.ClassFile.FieldType.boolean) 2 := ⟨wd_872, wd_48, wd_875, ⟨by decide, by decide, by decide +kernel⟩⟩
theorem cw_L_86 : CwZ RL 86 yX5_worthOf cX5_worthOf 4 (some .int) 2 := ⟨wd_889, wd_48, wd_892, ⟨by decide, by decide, by decide +kernel⟩⟩
theorem cw_L_89 : CwZ RL 89 yX5_claim cX5_claim 4 (some .int) 2 := ⟨wd_902, wd_48, wd_905, ⟨by decide, by decide, by decide +kernel⟩⟩
theorem cw_L_94 : CwZ RL 94 yX5_claimWorst cX5_claimWorst 4 (some .int) 1 := ⟨wd_933, wd_48, wd_936, ⟨by decide, by decide, by decide +kernel⟩⟩
theorem cw_L_99 : CwZ RL 99 yX5_claimCount cX5_claimCount 2 (some .int) 1 := ⟨wd_960, wd_48, wd_963, ⟨by decide, by decide, by decide +kernel⟩⟩
theorem cw_X6_103 : CwZ RX6 103 yX6_in cX6_in 3 (some Jvm.ClassFile.FieldType.boolean) 3 := ⟨wd_1433, wd_57, wd_1435, ⟨by decide, by decide, by decide +kernel⟩⟩
theorem cw_X6_107 : CwZ RX6 107 yX6_isNone cX6_isNone 2 (some Jvm.ClassFile.FieldType.boolean) 1 := ⟨wd_1429, wd_57, wd_1432, ⟨by decide, by decide, by decide +kernel⟩⟩
theorem cw_X6_114 : CwZ RX6 114 yX6_fails cX6_fails 2 (some Jvm.ClassFile.FieldType.boolean) 1 := ⟨wd_1436, wd_57, wd_1439, ⟨by decide, by decide, by decide +kernel⟩⟩
theorem cw_X6_123 : CwZ RX6 123 yX6_tells cX6_tells 2 (some .int) 1 := ⟨wd_1448, wd_57, wd_1451, ⟨by decide, by decide, by decide +kernel⟩⟩
theorem cw_X6_127 : CwZ RX6 127 yX6_holds cX6_holds 2 (some .int) 1 := ⟨wd_1460, wd_57, wd_1463, ⟨by decide, by decide, by decide +kernel⟩⟩
theorem cw_X6_130 : CwZ RX6 130 yX6_isNoRule cX6_isNoRule 2 (some Jvm.ClassFile.FieldType.boolean) 1 := ⟨wd_1476, wd_57, wd_1479, ⟨by decide, by decide, by decide +kernel⟩⟩
theorem cw_X6_133 : CwZ RX6 133 yX6_isTrue cX6_isTrue 3 (some Jvm.ClassFile.FieldType.boolean) 2 := ⟨wd_1488, wd_57, wd_1491, ⟨by decide, by decide, by decide +kernel⟩⟩
theorem cw_X6_140 : CwZ RX6 140 yX6_opening cX6_opening 5 (some .int) 2 := ⟨wd_1496, wd_57, wd_1499, ⟨by decide, by decide, by decide +kernel⟩⟩
theorem cw_X6_144 : CwZ RX6 144 yX6_lesser cX6_lesser 2 (some .int) 2 := ⟨wd_1512, wd_57, wd_1514, ⟨by decide, by decide, by decide +kernel⟩⟩
theorem cw_X6_154 : CwZ RX6 154 yX6_flows cX6_flows 5 (some .int) 2 := ⟨wd_1508, wd_57, wd_1511, ⟨by decide, by decide, by decide +kernel⟩⟩
theorem cw_X6_158 : CwZ RX6 158 yX6_held cX6_held 3 (some .int) 0 := ⟨wd_1543, wd_57, wd_1546, ⟨by decide, by decide, by decide +kernel⟩⟩
theorem cw_X6_162 : CwZ RX6 162 yX6_upTo cX6_upTo 5 (some .int) 2 := ⟨wd_1571, wd_57, wd_1574, ⟨by decide, by decide, by decide +kernel⟩⟩
theorem cw_X6_165 : CwZ RX6 165 yX6_heightOf cX6_heightOf 6 (some .int) 2 := ⟨wd_1567, wd_57, wd_1570, ⟨by decide, by decide, by decide +kernel⟩⟩
theorem cw_X6_168 : CwZ RX6 168 yX6_isNoCell cX6_isNoCell 3 (some Jvm.ClassFile.FieldType.boolean) 2 := ⟨wd_1559, wd_57, wd_1562, ⟨by decide, by decide, by decide +kernel⟩⟩
theorem cw_X6_172 : CwZ RX6 172 yX6_depth cX6_depth 8 (some .int) 3 := ⟨wd_1563, wd_57, wd_1566, ⟨by decide, by decide, by decide +kernel⟩⟩
theorem cw_X6_176 : CwZ RX6 176 yX6_deep cX6_deep 3 (some .int) 2 := ⟨wd_1555, wd_57, wd_1558, ⟨by decide, by decide, by decide +kernel⟩⟩
theorem cw_X6_179 : CwZ RX6 179 yX6_then cX6_then 4 (some .int) 3 := ⟨wd_1583, wd_57, wd_1586, ⟨by decide, by decide, by decide +kernel⟩⟩
theorem cw_X6_182 : CwZ RX6 182 yX6_wet cX6_wet 5 (some .int) 2 := ⟨wd_1591, wd_57, wd_1594, ⟨by decide, by decide, by decide +kernel⟩⟩
theorem cw_X6_185 : CwZ RX6 185 yX6_isNoHouse cX6_isNoHouse 2 (some Jvm.ClassFile.FieldType.boolean) 1 := ⟨wd_1619, wd_57, wd_1622, ⟨by decide, by decide, by decide +kernel⟩⟩
theorem cw_X6_188 : CwZ RX6 188 yX6_isNoHour cX6_isNoHour 3 (some Jvm.ClassFile.FieldType.boolean) 2 := ⟨wd_1615, wd_57, wd_1618, ⟨by decide, by decide, by decide +kernel⟩⟩
theorem cw_X6_191 : CwZ RX6 191 yX6_worth cX6_worth 3 (some .int) 2 := ⟨wd_1623, wd_57, wd_1626, ⟨by decide, by decide, by decide +kernel⟩⟩
theorem cw_X6_197 : CwZ RX6 197 yX6_pays cX6_pays 4 (some .int) 2 := ⟨wd_1635, wd_57, wd_1638, ⟨by decide, by decide, by decide +kernel⟩⟩
theorem cw_X6_200 : CwZ RX6 200 yX6_allPaid cX6_allPaid 4 (some Jvm.ClassFile.FieldType.long) 0 := ⟨wd_1655, wd_57, wd_1658, ⟨by decide, by decide, by decide +kernel⟩⟩
theorem cw_X6_204 : CwZ RX6 204 yX6_trial cX6_trial 6 (some .int) 2 := ⟨wd_1667, wd_57, wd_1670, ⟨by decide, by decide, by decide +kernel⟩⟩
theorem cw_X6_210 : CwZ RX6 210 yX6_puts cX6_puts 2 none 1 := ⟨wd_1687, wd_57, wd_1690, ⟨by decide, by decide, by decide +kernel⟩⟩
theorem cw_X6_214 : CwZ RX6 214 yX6_putsNumber cX6_putsNumber 2 none 1 := ⟨wd_1683, wd_57, wd_1686, ⟨by decide, by decide, by decide +kernel⟩⟩
theorem cw_J5_100 : CwZ RJ5 100 yJ5_ensureCapacityInternal_d00df cJ5_ensureCapacityInternal_d00df 3 none 1 := ⟨wd_1043, wd_53, wd_1046, ⟨by decide, by decide, by decide +kernel⟩⟩
theorem cw_J5_104 : CwZ RJ5 104 yJ5_newCapacity_0f7a4 cJ5_newCapacity_0f7a4 6 (some .int) 1 := ⟨wd_1047, wd_53, wd_1050, ⟨by decide, by decide, by decide +kernel⟩⟩
theorem cw_J5_108 : CwZ RJ5 108 yJ7_copyOf_9075b cJ7_copyOf_9075b 3 (some (Jvm.ClassFile.FieldType.array Jvm.ClassFile.FieldType.byte)) 2 := ⟨wd_1053, wd_69, wd_1055, ⟨by decide, by decide, by decide +kernel⟩⟩
theorem cw_J5_114 : CwZ RJ5 114 yJ8_newLength_cabcc cJ8_newLength_cabcc 4 (some .int) 3 := ⟨wd_1051, wd_67, wd_549, ⟨by decide, by decide, by decide +kernel⟩⟩
theorem cw_J5_125 : CwZ RJ5 125 yJ1_inflate_0e8fd cJ1_inflate_0e8fd 5 none 5 := ⟨wd_1116, wd_79, wd_1118, ⟨by decide, by decide, by decide +kernel⟩⟩
theorem cw_J5_131 : CwZ RJ5 131 yJx7c733_init_d00df cJx7c733_init_d00df 2 none 1 := ⟨wd_1026, wd_78, wd_1028, ⟨by decide, by decide, by decide +kernel⟩⟩
theorem cw_J5_133 : CwZ RJ5 133 yJ1_fillNull_b72d1 cJ1_fillNull_b72d1 3 none 3 := ⟨wd_1233, wd_79, wd_1235, ⟨by decide, by decide, by decide +kernel⟩⟩
theorem cw_J5_137 : CwZ RJ5 137 yJ2_fillNull_b72d1 cJ2_fillNull_b72d1 3 none 3 := ⟨wd_1255, wd_56, wd_1257, ⟨by decide, by decide, by decide +kernel⟩⟩
theorem cw_J5_138 : CwZ RJ5 138 yJ9_min_7cf53 cJ9_min_7cf53 2 (some .int) 2 := ⟨wd_1296, wd_68, wd_299, ⟨by decide, by decide, by decide +kernel⟩⟩
theorem cw_J5_144 : CwZ RJ5 144 yJ0_checkIndex_df160 cJ0_checkIndex_df160 2 none 2 := ⟨wd_1297, wd_55, wd_1278, ⟨by decide, by decide, by decide +kernel⟩⟩
theorem cw_J5_148 : CwZ RJ5 148 yJ2_getChar_3b067 cJ2_getChar_3b067 2 (some Jvm.ClassFile.FieldType.char) 2 := ⟨wd_1298, wd_56, wd_1213, ⟨by decide, by decide, by decide +kernel⟩⟩
theorem cw_J5_191 : CwZ RJ5 191 yJ1_canEncode_fc78d cJ1_canEncode_fc78d 1 (some Jvm.ClassFile.FieldType.boolean) 1 := ⟨wd_1267, wd_79, wd_1269, ⟨by decide, by decide, by decide +kernel⟩⟩
theorem cw_J5_195 : CwZ RJ5 195 yJ5_inflate_da8c8 cJ5_inflate_da8c8 2 none 0 := ⟨wd_1112, wd_53, wd_1115, ⟨by decide, by decide, by decide +kernel⟩⟩
theorem cw_J5_197 : CwZ RJ5 197 yJ2_putCharSB_b72d1 cJ2_putCharSB_b72d1 3 none 3 := ⟨wd_1270, wd_56, wd_1272, ⟨by decide, by decide, by decide +kernel⟩⟩
theorem cw_J5_204 : CwZ RJ5 204 yJ5_appendNull_278bc cJ5_appendNull_278bc 3 (some (Jvm.ClassFile.FieldType.object "java/lang/AbstractStringBuilder")) 0 := ⟨wd_1039, wd_53, wd_1042, ⟨by decide, by decide, by decide +kernel⟩⟩
theorem cw_J5_208 : CwZ RJ5 208 yJ5_putStringAt_47b60 cJ5_putStringAt_47b60 3 none 2 := ⟨wd_1103, wd_53, wd_1106, ⟨by decide, by decide, by decide +kernel⟩⟩
theorem cw_J5_226 : CwZ RJ5 226 yJ2_putCharsAt_cd4e5 cJ2_putCharsAt_cd4e5 7 (some .int) 6 := ⟨wd_1068, wd_56, wd_1070, ⟨by decide, by decide, by decide +kernel⟩⟩
theorem cw_J5_245 : CwZ RJ5 245 yJ6_stringSize_0f7a4 cJ6_stringSize_0f7a4 4 (some .int) 1 := ⟨wd_1144, wd_81, wd_1146, ⟨by decide, by decide, by decide +kernel⟩⟩
theorem cw_J5_248 : CwZ RJ5 248 yJ6_getChars_ba4f3 cJ6_getChars_ba4f3 7 (some .int) 3 := ⟨wd_1147, wd_81, wd_1149, ⟨by decide, by decide, by decide +kernel⟩⟩
theorem cw_J5_251 : CwZ RJ5 251 yJ2_getChars_46870 cJ2_getChars_46870 5 (some .int) 4 := ⟨wd_1154, wd_56, wd_1156, ⟨by decide, by decide, by decide +kernel⟩⟩
theorem cw_J5_26 : CwZ RJ5 26 yJ2_newBytesFor_77867 cJ2_newBytesFor_77867 1 (some (Jvm.ClassFile.FieldType.array Jvm.ClassFile.FieldType.byte)) 1 := ⟨wd_151, wd_56, wd_153, ⟨by decide, by decide, by decide +kernel⟩⟩
theorem cw_J5_32 : CwZ RJ5 32 yJ0_length_8abf5 cJ0_length_8abf5 1 (some .int) 0 := ⟨wd_1094, wd_55, wd_1097, ⟨by decide, by decide, by decide +kernel⟩⟩
theorem cw_J5_397 : CwZ RJ5 397 yJ5_inflateIfNeededFor_a7421 cJ5_inflateIfNeededFor_a7421 2 none 1 := ⟨wd_1107, wd_53, wd_1110, ⟨by decide, by decide, by decide +kernel⟩⟩
theorem cw_J5_399 : CwZ RJ5 399 yJ0_getBytes_840e7 cJ0_getBytes_840e7 4 none 3 := ⟨wd_1131, wd_55, wd_1134, ⟨by decide, by decide, by decide +kernel⟩⟩
theorem cw_J5_40 : CwZ RJ5 40 yJ0_coder_7d493 cJ0_coder_7d493 1 (some Jvm.ClassFile.FieldType.byte) 0 := ⟨wd_1111, wd_55, wd_1101, ⟨by decide, by decide, by decide +kernel⟩⟩
theorem cw_J5_83 : CwZ RJ5 83 yJ5_isLatin1_aae02 cJ5_isLatin1_aae02 1 (some Jvm.ClassFile.FieldType.boolean) 0 := ⟨wd_1063, wd_53, wd_1067, ⟨by decide, by decide, by decide +kernel⟩⟩
theorem cw_Jx00060_12 : CwZ RJx00060 12 yJ4_init_da8c8 cJ4_init_da8c8 1 none 0 := ⟨wd_1250, wd_54, wd_144, ⟨by decide, by decide, by decide +kernel⟩⟩
theorem cw_Jx00060_15 : CwZ RJx00060 15 yJ4_append_15ec4 cJ4_append_15ec4 2 (some (Jvm.ClassFile.FieldType.object "java/lang/StringBuilder")) 1 := ⟨wd_1252, wd_54, wd_1035, ⟨by decide, by decide, by decide +kernel⟩⟩
theorem cw_Jx00060_19 : CwZ RJx00060 19 yJ4_append_bf812 cJ4_append_bf812 2 (some (Jvm.ClassFile.FieldType.object "java/lang/StringBuilder")) 1 := ⟨wd_1253, wd_54, wd_1140, ⟨by decide, by decide, by decide +kernel⟩⟩
theorem cw_Jx00060_22 : CwZ RJx00060 22 yJ4_toString_0e30d cJ4_toString_0e30d 1 (some (Jvm.ClassFile.FieldType.object "java/lang/String")) 0 := ⟨wd_1254, wd_54, wd_1165, ⟨by decide, by decide, by decide +kernel⟩⟩
theorem cw_J0_1047 : CwZ RJ0 1047 yJ5_isLatin1_aae02 cJ5_isLatin1_aae02 1 (some Jvm.ClassFile.FieldType.boolean) 0 := ⟨wd_1187, wd_53, wd_1067, ⟨by decide, by decide, by decide +kernel⟩⟩
theorem cw_J0_1051 : CwZ RJ0 1051 yJ2_compress_39247 cJ2_compress_39247 6 (some (Jvm.ClassFile.FieldType.array Jvm.ClassFile.FieldType.byte)) 3 := ⟨wd_1205, wd_56, wd_1207, ⟨by decide, by decide, by decide +kernel⟩⟩
theorem cw_J0_1059 : CwZ RJ0 1059 yJ3_checkIndex_8e157 cJ3_checkIndex_8e157 3 (some .int) 3 := ⟨wd_1279, wd_72, wd_258, ⟨by decide, by decide, by decide +kernel⟩⟩
theorem cw_J0_106 : CwZ RJ0 106 yJ1_inflate_0e8fd cJ1_inflate_0e8fd 5 none 5 := ⟨wd_1136, wd_79, wd_1118, ⟨by decide, by decide, by decide +kernel⟩⟩
theorem cw_J0_1062 : CwZ RJ0 1062 yJ3_checkFromToIndex_8c36e cJ3_checkFromToIndex_8c36e 4 (some .int) 4 := ⟨wd_1082, wd_72, wd_1084, ⟨by decide, by decide, by decide +kernel⟩⟩
theorem cw_J0_1065 : CwZ RJ0 1065 yJ3_checkFromIndexSize_8c36e cJ3_checkFromIndexSize_8c36e 4 (some .int) 4 := ⟨wd_1128, wd_72, wd_1130, ⟨by decide, by decide, by decide +kernel⟩⟩
theorem cw_J0_335 : CwZ RJ0 335 yJ0_coder_7d493 cJ0_coder_7d493 1 (some Jvm.ClassFile.FieldType.byte) 0 := ⟨wd_1098, wd_55, wd_1101, ⟨by decide, by decide, by decide +kernel⟩⟩
theorem cw_J0_47 : CwZ RJ0 47 yJ2_coderFromArrayLen_85cad cJ2_coderFromArrayLen_85cad 2 (some Jvm.ClassFile.FieldType.byte) 2 := ⟨wd_1215, wd_56, wd_1217, ⟨by decide, by decide, by decide +kernel⟩⟩
theorem cw_J0_489 : CwZ RJ0 489 yJ0_init_db425 cJ0_init_db425 5 none 2 := ⟨wd_1170, wd_55, wd_1172, ⟨by decide, by decide, by decide +kernel⟩⟩
theorem cw_J0_54 : CwZ RJ0 54 yJ7_copyOfRange_39247 cJ7_copyOfRange_39247 3 (some (Jvm.ClassFile.FieldType.array Jvm.ClassFile.FieldType.byte)) 3 := ⟨wd_1188, wd_69, wd_1190, ⟨by decide, by decide, by decide +kernel⟩⟩
theorem cw_J0_549 : CwZ RJ0 549 yJ5_length_8abf5 cJ5_length_8abf5 1 (some .int) 0 := ⟨wd_1179, wd_53, wd_1186, ⟨by decide, by decide, by decide +kernel⟩⟩
theorem cw_J0_552 : CwZ RJ0 552 yJ5_getValue_6d5f1 cJ5_getValue_6d5f1 1 (some (Jvm.ClassFile.FieldType.array Jvm.ClassFile.FieldType.byte)) 0 := ⟨wd_1174, wd_53, wd_1178, ⟨by decide, by decide, by decide +kernel⟩⟩
theorem cw_J4_1 : CwZ RJ4 1 yJ5_init_d00df cJ5_init_d00df 2 none 1 := ⟨wd_145, wd_53, wd_147, ⟨by decide, by decide, by decide +kernel⟩⟩
theorem cw_J4_137 : CwZ RJ4 137 yJ0_init_81219 cJ0_init_81219 2 none 1 := ⟨wd_1167, wd_55, wd_1169, ⟨by decide, by decide, by decide +kernel⟩⟩
theorem cw_J4_29 : CwZ RJ4 29 yJ5_append_cf1ce cJ5_append_cf1ce 3 (some (Jvm.ClassFile.FieldType.object "java/lang/AbstractStringBuilder")) 1 := ⟨wd_1036, wd_53, wd_1038, ⟨by decide, by decide, by decide +kernel⟩⟩
theorem cw_J4_329 : CwZ RJ4 329 yJ5_charAt_5068e cJ5_charAt_5068e 5 (some Jvm.ClassFile.FieldType.char) 1 := ⟨wd_1293, wd_53, wd_1295, ⟨by decide, by decide, by decide +kernel⟩⟩
theorem cw_J4_333 : CwZ RJ4 333 yJ5_setLength_d00df cJ5_setLength_d00df 2 none 1 := ⟨wd_1021, wd_53, wd_1023, ⟨by decide, by decide, by decide +kernel⟩⟩
theorem cw_J4_343 : CwZ RJ4 343 yJ5_length_8abf5 cJ5_length_8abf5 1 (some .int) 0 := ⟨wd_1185, wd_53, wd_1186, ⟨by decide, by decide, by decide +kernel⟩⟩
theorem cw_J4_50 : CwZ RJ4 50 yJ5_append_3fe6f cJ5_append_3fe6f 2 (some (Jvm.ClassFile.FieldType.object "java/lang/AbstractStringBuilder")) 1 := ⟨wd_1264, wd_53, wd_1266, ⟨by decide, by decide, by decide +kernel⟩⟩
theorem cw_J4_53 : CwZ RJ4 53 yJ5_append_c97b9 cJ5_append_c97b9 4 (some (Jvm.ClassFile.FieldType.object "java/lang/AbstractStringBuilder")) 1 := ⟨wd_1141, wd_53, wd_1143, ⟨by decide, by decide, by decide +kernel⟩⟩
theorem cw_Jx7c733_12 : CwZ RJx7c733 12 yJ4_init_da8c8 cJ4_init_da8c8 1 none 0 := ⟨wd_1030, wd_54, wd_144, ⟨by decide, by decide, by decide +kernel⟩⟩
theorem cw_Jx7c733_15 : CwZ RJx7c733 15 yJ4_append_15ec4 cJ4_append_15ec4 2 (some (Jvm.ClassFile.FieldType.object "java/lang/StringBuilder")) 1 := ⟨wd_1032, wd_54, wd_1035, ⟨by decide, by decide, by decide +kernel⟩⟩
theorem cw_Jx7c733_19 : CwZ RJx7c733 19 yJ4_append_bf812 cJ4_append_bf812 2 (some (Jvm.ClassFile.FieldType.object "java/lang/StringBuilder")) 1 := ⟨wd_1137, wd_54, wd_1140, ⟨by decide, by decide, by decide +kernel⟩⟩
theorem cw_Jx7c733_22 : CwZ RJx7c733 22 yJ4_toString_0e30d cJ4_toString_0e30d 1 (some (Jvm.ClassFile.FieldType.object "java/lang/String")) 0 := ⟨wd_1162, wd_54, wd_1165, ⟨by decide, by decide, by decide +kernel⟩⟩
theorem cw_J1_236 : CwZ RJ1 236 yJ7_fill_eb02e cJ7_fill_eb02e 5 none 4 := ⟨wd_1236, wd_69, wd_1238, ⟨by decide, by decide, by decide +kernel⟩⟩
theorem cw_J1_240 : CwZ RJ1 240 yJ2_inflate_0e8fd cJ2_inflate_0e8fd 6 none 5 := ⟨wd_1119, wd_56, wd_1121, ⟨by decide, by decide, by decide +kernel⟩⟩
theorem cw_J2_11 : CwZ RJ2 11 yJ2_newBytesLength_0f7a4 cJ2_newBytesLength_0f7a4 1 (some .int) 1 := ⟨wd_154, wd_56, wd_156, ⟨by decide, by decide, by decide +kernel⟩⟩
theorem cw_J2_111 : CwZ RJ2 111 yJ2_putChar_b72d1 cJ2_putChar_b72d1 3 none 3 := ⟨wd_1085, wd_56, wd_1087, ⟨by decide, by decide, by decide +kernel⟩⟩
theorem cw_J2_123 : CwZ RJ2 123 yJ2_compress_5af95 cJ2_compress_5af95 7 (some .int) 5 := ⟨wd_1208, wd_56, wd_1210, ⟨by decide, by decide, by decide +kernel⟩⟩
theorem cw_J2_126 : CwZ RJ2 126 yJ7_copyOfRange_39247 cJ7_copyOfRange_39247 3 (some (Jvm.ClassFile.FieldType.array Jvm.ClassFile.FieldType.byte)) 3 := ⟨wd_1214, wd_69, wd_1190, ⟨by decide, by decide, by decide +kernel⟩⟩
theorem cw_J2_173 : CwZ RJ2 173 yJ2_checkBoundsOffCount_d044e cJ2_checkBoundsOffCount_d044e 3 none 3 := ⟨wd_1122, wd_56, wd_1124, ⟨by decide, by decide, by decide +kernel⟩⟩
theorem cw_J2_241 : CwZ RJ2 241 yJ0_checkBoundsBeginEnd_23922 cJ0_checkBoundsBeginEnd_23922 3 none 3 := ⟨wd_1077, wd_55, wd_1079, ⟨by decide, by decide, by decide +kernel⟩⟩
theorem cw_J2_380 : CwZ RJ2 380 yJ7_fill_eb02e cJ7_fill_eb02e 5 none 4 := ⟨wd_1258, wd_69, wd_1238, ⟨by decide, by decide, by decide +kernel⟩⟩
theorem cw_J2_393 : CwZ RJ2 393 yJ2_getChars_ba4f3 cJ2_getChars_ba4f3 7 (some .int) 3 := ⟨wd_1157, wd_56, wd_1159, ⟨by decide, by decide, by decide +kernel⟩⟩
theorem cw_J2_414 : CwZ RJ2 414 yJ0_checkIndex_df160 cJ0_checkIndex_df160 2 none 2 := ⟨wd_1276, wd_55, wd_1278, ⟨by decide, by decide, by decide +kernel⟩⟩
theorem cw_J2_419 : CwZ RJ2 419 yJ0_checkBoundsOffCount_cabcc cJ0_checkBoundsOffCount_cabcc 3 (some .int) 3 := ⟨wd_1125, wd_55, wd_1127, ⟨by decide, by decide, by decide +kernel⟩⟩
theorem cw_J2_48 : CwZ RJ2 48 yJ2_length_9d52b cJ2_length_9d52b 1 (some .int) 1 := ⟨wd_1074, wd_56, wd_1076, ⟨by decide, by decide, by decide +kernel⟩⟩
theorem cw_J2_67 : CwZ RJ2 67 yJ2_checkIndex_2214a cJ2_checkIndex_2214a 2 none 2 := ⟨wd_1273, wd_56, wd_1275, ⟨by decide, by decide, by decide +kernel⟩⟩
theorem cw_J2_71 : CwZ RJ2 71 yJ2_getChar_3b067 cJ2_getChar_3b067 2 (some Jvm.ClassFile.FieldType.char) 2 := ⟨wd_1211, wd_56, wd_1213, ⟨by decide, by decide, by decide +kernel⟩⟩
theorem cw_J2_96 : CwZ RJ2 96 yJ2_checkBoundsBeginEnd_d044e cJ2_checkBoundsBeginEnd_d044e 3 none 3 := ⟨wd_1071, wd_56, wd_1073, ⟨by decide, by decide, by decide +kernel⟩⟩
theorem cw_Jxc12de_1 : CwZ RJxc12de 1 yJxa1e45_init_da8c8 cJxa1e45_init_da8c8 1 none 0 := ⟨wd_98, wd_49, wd_100, ⟨by decide, by decide, by decide +kernel⟩⟩
theorem cw_Jx4a65c_1 : CwZ RJx4a65c 1 yJxc12de_init_da8c8 cJxc12de_init_da8c8 1 none 0 := ⟨wd_95, wd_50, wd_97, ⟨by decide, by decide, by decide +kernel⟩⟩
theorem cw_Jx4a65c_118 : CwZ RJx4a65c 118 yJ15_checkIndex_7cf53 cJ15_checkIndex_7cf53 2 (some .int) 2 := ⟨wd_253, wd_71, wd_255, ⟨by decide, by decide, by decide +kernel⟩⟩
theorem cw_Jx4a65c_123 : CwZ RJx4a65c 123 yJx4a65c_elementData_915e3 cJx4a65c_elementData_915e3 2 (some (Jvm.ClassFile.FieldType.object "java/lang/Object")) 1 := ⟨wd_259, wd_51, wd_262, ⟨by decide, by decide, by decide +kernel⟩⟩
theorem cw_Jx4a65c_129 : CwZ RJx4a65c 129 yJx4a65c_grow_d5877 cJx4a65c_grow_d5877 1 (some (Jvm.ClassFile.FieldType.array (Jvm.ClassFile.FieldType.object "java/lang/Object"))) 0 := ⟨wd_539, wd_51, wd_542, ⟨by decide, by decide, by decide +kernel⟩⟩
theorem cw_Jx4a65c_131 : CwZ RJx4a65c 131 yJx4a65c_add_72be8 cJx4a65c_add_72be8 4 none 3 := ⟨wd_535, wd_51, wd_538, ⟨by decide, by decide, by decide +kernel⟩⟩
theorem cw_Jx4a65c_144 : CwZ RJx4a65c 144 yJx4a65c_fastRemove_b59b0 cJx4a65c_fastRemove_b59b0 4 none 2 := ⟨wd_700, wd_51, wd_703, ⟨by decide, by decide, by decide +kernel⟩⟩
theorem cw_Jx4a65c_66 : CwZ RJx4a65c 66 yJ7_copyOf_1904c cJ7_copyOf_1904c 2 (some (Jvm.ClassFile.FieldType.array (Jvm.ClassFile.FieldType.object "java/lang/Object"))) 2 := ⟨wd_557, wd_69, wd_559, ⟨by decide, by decide, by decide +kernel⟩⟩
theorem cw_Jx4a65c_69 : CwZ RJx4a65c 69 yJx4a65c_grow_92f84 cJx4a65c_grow_92f84 4 (some (Jvm.ClassFile.FieldType.array (Jvm.ClassFile.FieldType.object "java/lang/Object"))) 1 := ⟨wd_543, wd_51, wd_546, ⟨by decide, by decide, by decide +kernel⟩⟩
theorem cw_Jx4a65c_73 : CwZ RJx4a65c 73 yJ8_newLength_cabcc cJ8_newLength_cabcc 4 (some .int) 3 := ⟨wd_547, wd_67, wd_549, ⟨by decide, by decide, by decide +kernel⟩⟩
theorem cw_Jx4a65c_79 : CwZ RJx4a65c 79 yJ9_max_7cf53 cJ9_max_7cf53 2 (some .int) 2 := ⟨wd_592, wd_68, wd_552, ⟨by decide, by decide, by decide +kernel⟩⟩
theorem cw_J7_13 : CwZ RJ7 13 yJ7_rangeCheck_23922 cJ7_rangeCheck_23922 3 none 3 := ⟨wd_1239, wd_69, wd_1241, ⟨by decide, by decide, by decide +kernel⟩⟩
theorem cw_J7_300 : CwZ RJ7 300 yJ7_copyOf_6403c cJ7_copyOf_6403c 4 (some (Jvm.ClassFile.FieldType.array (Jvm.ClassFile.FieldType.object "java/lang/Object"))) 3 := ⟨wd_582, wd_69, wd_584, ⟨by decide, by decide, by decide +kernel⟩⟩
theorem cw_J7_304 : CwZ RJ7 304 yJ9_min_7cf53 cJ9_min_7cf53 2 (some .int) 2 := ⟨wd_588, wd_68, wd_299, ⟨by decide, by decide, by decide +kernel⟩⟩
theorem cw_J7_339 : CwZ RJ7 339 yJ7_copyOfRangeByte_39247 cJ7_copyOfRangeByte_39247 5 (some (Jvm.ClassFile.FieldType.array Jvm.ClassFile.FieldType.byte)) 3 := ⟨wd_1191, wd_69, wd_1193, ⟨by decide, by decide, by decide +kernel⟩⟩
theorem cw_J7_343 : CwZ RJ7 343 yJ7_checkLength_df160 cJ7_checkLength_df160 2 none 2 := ⟨wd_1194, wd_69, wd_1196, ⟨by decide, by decide, by decide +kernel⟩⟩
theorem cw_J7_47 : CwZ RJ7 47 yJ4_init_da8c8 cJ4_init_da8c8 1 none 0 := ⟨wd_1199, wd_54, wd_144, ⟨by decide, by decide, by decide +kernel⟩⟩
theorem cw_J7_50 : CwZ RJ7 50 yJ4_append_15ec4 cJ4_append_15ec4 2 (some (Jvm.ClassFile.FieldType.object "java/lang/StringBuilder")) 1 := ⟨wd_1202, wd_54, wd_1035, ⟨by decide, by decide, by decide +kernel⟩⟩
theorem cw_J7_54 : CwZ RJ7 54 yJ4_append_bf812 cJ4_append_bf812 2 (some (Jvm.ClassFile.FieldType.object "java/lang/StringBuilder")) 1 := ⟨wd_1200, wd_54, wd_1140, ⟨by decide, by decide, by decide +kernel⟩⟩
theorem cw_J7_61 : CwZ RJ7 61 yJ4_toString_0e30d cJ4_toString_0e30d 1 (some (Jvm.ClassFile.FieldType.object "java/lang/String")) 0 := ⟨wd_1203, wd_54, wd_1165, ⟨by decide, by decide, by decide +kernel⟩⟩
theorem cw_J7_70 : CwZ RJ7 70 yJx00060_init_d00df cJx00060_init_d00df 2 none 1 := ⟨wd_1246, wd_62, wd_1248, ⟨by decide, by decide, by decide +kernel⟩⟩
theorem cw_J15_105 : CwZ RJ15 105 yJ3_checkIndex_8e157 cJ3_checkIndex_8e157 3 (some .int) 3 := ⟨wd_256, wd_72, wd_258, ⟨by decide, by decide, by decide +kernel⟩⟩
theorem cw_J8_194 : CwZ RJ8 194 yJ9_max_7cf53 cJ9_max_7cf53 2 (some .int) 2 := ⟨wd_550, wd_68, wd_552, ⟨by decide, by decide, by decide +kernel⟩⟩
theorem cw_J8_201 : CwZ RJ8 201 yJ8_hugeLength_7cf53 cJ8_hugeLength_7cf53 3 (some .int) 2 := ⟨wd_554, wd_67, wd_556, ⟨by decide, by decide, by decide +kernel⟩⟩
theorem nw_X0_24 : NwZ RX0 24 8 5 [.null, .null, .null, .null, .int 0] := ⟨RX3, TX3, tyX3, rfl, us_X3, tyX3_ok, by decide +kernel, wd_476, wd_477, wd_66⟩
theorem nw_X5_115 : NwZ RX5 115 7 5 [.int 0, .int 0, .int 0, .int 0, .int 0] := ⟨RX2, TX2, tyX2, rfl, us_X2, tyX2_ok, by decide +kernel, wd_288, wd_658, wd_73⟩
theorem nw_X5_210 : NwZ RX5 210 6 7 [.null, .int 0, .int 0, .int 0, .null, .int 0, .int 0] := ⟨RX1, TX1, tyX1, rfl, us_X1, tyX1_ok, by decide +kernel, wd_263, wd_838, wd_74⟩
theorem nw_X5_22 : NwZ RX5 22 9 4 [.null, .null, .null, .int 0] := ⟨RX4, TX4, tyX4, rfl, us_X4, tyX4_ok, by decide +kernel, wd_116, wd_117, wd_52⟩
theorem nw_X5_32 : NwZ RX5 32 1 4 [.null, .int 0, .int 0, .int 0] := ⟨RJ4, TJ4, tyJ4, rfl, us_J4, tyJ4_ok, by decide +kernel, wd_140, wd_141, wd_54⟩
theorem nw_X5_7 : NwZ RX5 7 4 3 [.int 0, .null, .int 0] := ⟨RJx4a65c, TJx4a65c, tyJx4a65c, rfl, us_Jx4a65c, tyJx4a65c_ok, by decide +kernel, wd_90, wd_91, wd_51⟩
theorem nw_X5_71 : NwZ RX5 71 5 8 [.int 0, .int 0, .int 0, .int 0, .null, .null, .int 0, .int 0] := ⟨RX0, TX0, tyX0, rfl, us_X0, tyX0_ok, by decide +kernel, wd_283, wd_471, wd_65⟩
theorem nw_L_125 : NwZ RL 125 11 38 [.int 0, .null, .null, .null, .null, .null, .null, .null, .null, .null, .null, .null, .null, .null, .int 0, .null, .null, .null, .null, .null, .int 0, .int 0, .int 0, .null, .null, .int 0, .null, .null, .null, .null, .null, .null, .int 0, .int 0, .int 0, .null, .int 0, .int 0] := ⟨RX6, TX6, tyX6, rfl, us_X6, tyX6_ok, by decide +kernel, wd_1299, wd_1300, wd_57⟩
theorem nw_L_8 : NwZ RL 8 10 9 [.null, .null, .null, .null, .null, .null, .int 0, .int 0, .int 0] := ⟨RX5, TX5, tyX5, rfl, us_X5, tyX5_ok, by decide +kernel, wd_82, wd_83, wd_48⟩
theorem nw_J5_129 : NwZ RJ5 129 3 6 [.null, .null, .null, .null, .int 0, .null] := ⟨RJx7c733, TJx7c733, tyJx7c733, rfl, us_Jx7c733, tyJx7c733_ok, by decide +kernel, wd_1024, wd_1025, wd_78⟩
theorem nw_Jx00060_10 : NwZ RJx00060 10 1 4 [.null, .int 0, .int 0, .int 0] := ⟨RJ4, TJ4, tyJ4, rfl, us_J4, tyJ4_ok, by decide +kernel, wd_1249, wd_141, wd_54⟩
theorem nw_J4_18 : NwZ RJ4 18 0 4 [.null, .int 0, .int 0, .int 0] := ⟨RJ0, TJ0, tyJ0, rfl, us_J0, tyJ0_ok, by decide +kernel, wd_1166, wd_403, wd_55⟩
theorem nw_Jx7c733_10 : NwZ RJx7c733 10 1 4 [.null, .int 0, .int 0, .int 0] := ⟨RJ4, TJ4, tyJ4, rfl, us_J4, tyJ4_ok, by decide +kernel, wd_1029, wd_141, wd_54⟩
theorem nw_J7_45 : NwZ RJ7 45 1 4 [.null, .int 0, .int 0, .int 0] := ⟨RJ4, TJ4, tyJ4, rfl, us_J4, tyJ4_ok, by decide +kernel, wd_1198, wd_141, wd_54⟩
theorem nw_J7_68 : NwZ RJ7 68 2 6 [.null, .null, .null, .null, .int 0, .null] := ⟨RJx00060, TJx00060, tyJx00060, rfl, us_Jx00060, tyJx00060_ok, by decide +kernel, wd_1245, wd_329, wd_62⟩
theorem at_IndexOutOfBoundsException : ∀ w ∈ vx_atS RX5 51 "java/lang/IndexOutOfBoundsException" ["java/lang/RuntimeException", "java/lang/Exception"], w ∈ WALL ++ xtZ := by decide +kernel
theorem at_IllegalArgumentException : ∀ w ∈ vx_atS RX5 58 "java/lang/IllegalArgumentException" ["java/lang/RuntimeException", "java/lang/Exception"], w ∈ WALL ++ xtZ := by decide +kernel
theorem at_IllegalStateException : ∀ w ∈ vx_atS RX5 67 "java/lang/IllegalStateException" ["java/lang/RuntimeException", "java/lang/Exception"], w ∈ WALL ++ xtZ := by decide +kernel
theorem at_UnsupportedOperationException : ∀ w ∈ vx_atS RX5 230 "java/lang/UnsupportedOperationException" ["java/lang/RuntimeException", "java/lang/Exception"], w ∈ WALL ++ xtZ := by decide +kernel
theorem at_ArithmeticException : ∀ w ∈ vx_atS RX5 258 "java/lang/ArithmeticException" ["java/lang/RuntimeException", "java/lang/Exception"], w ∈ WALL ++ xtZ := by decide +kernel
end
