/-! WORDS (by mkwords.py): each word of the tables, that it is in WALL; fields, calls, classes -/
theorem in_t1 {w : Cond} (h : w ∈ tables_1_1) : w ∈ lw_tbl := List.mem_append_right _ (List.mem_append_left _ h)
theorem wl1 {w : Cond} (i : Nat) (h : tables_1_1[i]? = some w) (g : goodWord w = true) : w ∈ WALL := List.mem_filter.mpr ⟨in_t1 (List.mem_of_getElem? h), g⟩
theorem in_t2 {w : Cond} (h : w ∈ tables_1_2) : w ∈ lw_tbl := List.mem_append_right _ (List.mem_append_right _ (List.mem_append_left _ h))
theorem wl2 {w : Cond} (i : Nat) (h : tables_1_2[i]? = some w) (g : goodWord w = true) : w ∈ WALL := List.mem_filter.mpr ⟨in_t2 (List.mem_of_getElem? h), g⟩
theorem in_t3 {w : Cond} (h : w ∈ tables_1_3) : w ∈ lw_tbl := List.mem_append_right _ (List.mem_append_right _ (List.mem_append_right _ (List.mem_append_left _ h)))
theorem wl3 {w : Cond} (i : Nat) (h : tables_1_3[i]? = some w) (g : goodWord w = true) : w ∈ WALL := List.mem_filter.mpr ⟨in_t3 (List.mem_of_getElem? h), g⟩
theorem in_t4 {w : Cond} (h : w ∈ tables_1_4) : w ∈ lw_tbl := List.mem_append_right _ (List.mem_append_right _ (List.mem_append_right _ (List.mem_append_right _ (List.mem_append_left _ h))))
theorem wl4 {w : Cond} (i : Nat) (h : tables_1_4[i]? = some w) (g : goodWord w = true) : w ∈ WALL := List.mem_filter.mpr ⟨in_t4 (List.mem_of_getElem? h), g⟩
theorem in_t5 {w : Cond} (h : w ∈ tables_1_5) : w ∈ lw_tbl := List.mem_append_right _ (List.mem_append_right _ (List.mem_append_right _ (List.mem_append_right _ (List.mem_append_right _ (List.mem_append_left _ h)))))
theorem wl5 {w : Cond} (i : Nat) (h : tables_1_5[i]? = some w) (g : goodWord w = true) : w ∈ WALL := List.mem_filter.mpr ⟨in_t5 (List.mem_of_getElem? h), g⟩
theorem in_t6 {w : Cond} (h : w ∈ tables_1_6) : w ∈ lw_tbl := List.mem_append_right _ (List.mem_append_right _ (List.mem_append_right _ (List.mem_append_right _ (List.mem_append_right _ (List.mem_append_right _ (List.mem_append_left _ h))))))
theorem wl6 {w : Cond} (i : Nat) (h : tables_1_6[i]? = some w) (g : goodWord w = true) : w ∈ WALL := List.mem_filter.mpr ⟨in_t6 (List.mem_of_getElem? h), g⟩
theorem in_t7 {w : Cond} (h : w ∈ tables_1_7) : w ∈ lw_tbl := List.mem_append_right _ (List.mem_append_right _ (List.mem_append_right _ (List.mem_append_right _ (List.mem_append_right _ (List.mem_append_right _ (List.mem_append_right _ (List.mem_append_left _ h)))))))
theorem wl7 {w : Cond} (i : Nat) (h : tables_1_7[i]? = some w) (g : goodWord w = true) : w ∈ WALL := List.mem_filter.mpr ⟨in_t7 (List.mem_of_getElem? h), g⟩
theorem in_t8 {w : Cond} (h : w ∈ tables_1_8) : w ∈ lw_tbl := List.mem_append_right _ (List.mem_append_right _ (List.mem_append_right _ (List.mem_append_right _ (List.mem_append_right _ (List.mem_append_right _ (List.mem_append_right _ (List.mem_append_right _ (h))))))))
theorem wl8 {w : Cond} (i : Nat) (h : tables_1_8[i]? = some w) (g : goodWord w = true) : w ∈ WALL := List.mem_filter.mpr ⟨in_t8 (List.mem_of_getElem? h), g⟩
theorem wd_0 : Cond.selects "StormBasin" ⟨"StormBasin", "tryPastRain", "(II)I"⟩ ⟨"StormBasin", "tryPastRain", "(II)I"⟩ ∈ WALL := wl 0 (by decide +kernel) rfl
theorem wd_1 : Cond.selects "StormBasin" ⟨"StormBasin", "moveWater", "(LStormBasin$Water;III)V"⟩ ⟨"StormBasin", "moveWater", "(LStormBasin$Water;III)V"⟩ ∈ WALL := wl 1 (by decide +kernel) rfl
theorem wd_2 : Cond.selects "StormBasin" ⟨"StormBasin", "openingBy", "(LStormBasin$Water;I)I"⟩ ⟨"StormBasin", "openingBy", "(LStormBasin$Water;I)I"⟩ ∈ WALL := wl 2 (by decide +kernel) rfl
theorem wd_3 : Cond.selects "StormBasin" ⟨"StormBasin", "holdsBy", "(LStormBasin$Water;LStormBasin$Rule;)Z"⟩ ⟨"StormBasin", "holdsBy", "(LStormBasin$Water;LStormBasin$Rule;)Z"⟩ ∈ WALL := wl 3 (by decide +kernel) rfl
theorem wd_4 : Cond.selects "StormBasin" ⟨"StormBasin", "levelBy", "(LStormBasin$Water;I)I"⟩ ⟨"StormBasin", "levelBy", "(LStormBasin$Water;I)I"⟩ ∈ WALL := wl 4 (by decide +kernel) rfl
theorem wd_5 : Cond.selects "StormBasin" ⟨"StormBasin", "wetCellsBy", "(LStormBasin$Water;)I"⟩ ⟨"StormBasin", "wetCellsBy", "(LStormBasin$Water;)I"⟩ ∈ WALL := wl 5 (by decide +kernel) rfl
theorem wd_6 : Cond.selects "java/lang/Throwable" ⟨"java/lang/Throwable", "fillInStackTrace", "(I)Ljava/lang/Throwable;"⟩ ⟨"java/lang/Throwable", "fillInStackTrace", "(I)Ljava/lang/Throwable;"⟩ ∈ WALL := wl 6 (by decide +kernel) rfl
theorem wd_7 : Cond.selects "StormBasin" ⟨"StormBasin", "requireBeforeFirstHour", "()V"⟩ ⟨"StormBasin", "requireBeforeFirstHour", "()V"⟩ ∈ WALL := wl 7 (by decide +kernel) rfl
theorem wd_8 : Cond.selects "java/util/ArrayList" ⟨"java/util/ArrayList", "add", "(Ljava/lang/Object;[Ljava/lang/Object;I)V"⟩ ⟨"java/util/ArrayList", "add", "(Ljava/lang/Object;[Ljava/lang/Object;I)V"⟩ ∈ WALL := wl 8 (by decide +kernel) rfl
theorem wd_9 : Cond.selects "java/util/ArrayList" ⟨"java/util/ArrayList", "grow", "()[Ljava/lang/Object;"⟩ ⟨"java/util/ArrayList", "grow", "()[Ljava/lang/Object;"⟩ ∈ WALL := wl 9 (by decide +kernel) rfl
theorem wd_10 : Cond.selects "java/util/ArrayList" ⟨"java/util/ArrayList", "grow", "(I)[Ljava/lang/Object;"⟩ ⟨"java/util/ArrayList", "grow", "(I)[Ljava/lang/Object;"⟩ ∈ WALL := wl 10 (by decide +kernel) rfl
theorem wd_11 : Cond.selects "StormBasin" ⟨"StormBasin", "basinOf", "(I)LStormBasin$Basin;"⟩ ⟨"StormBasin", "basinOf", "(I)LStormBasin$Basin;"⟩ ∈ WALL := wl 11 (by decide +kernel) rfl
theorem wd_12 : Cond.selects "StormBasin" ⟨"StormBasin", "requireBasin", "(I)V"⟩ ⟨"StormBasin", "requireBasin", "(I)V"⟩ ∈ WALL := wl 12 (by decide +kernel) rfl
theorem wd_13 : Cond.selects "StormBasin$Street" ⟨"StormBasin$Street", "volumeBefore", "(I)I"⟩ ⟨"StormBasin$Street", "volumeBefore", "(I)I"⟩ ∈ WALL := wl 13 (by decide +kernel) rfl
theorem wd_14 : Cond.selects "StormBasin$Street" ⟨"StormBasin$Street", "cellsAhead", "(II)I"⟩ ⟨"StormBasin$Street", "cellsAhead", "(II)I"⟩ ∈ WALL := wl 14 (by decide +kernel) rfl
theorem wd_15 : Cond.selects "StormBasin" ⟨"StormBasin", "requireRule", "(I)V"⟩ ⟨"StormBasin", "requireRule", "(I)V"⟩ ∈ WALL := wl 15 (by decide +kernel) rfl
theorem wd_16 : Cond.selects "java/util/ArrayList" ⟨"java/util/ArrayList", "fastRemove", "([Ljava/lang/Object;I)V"⟩ ⟨"java/util/ArrayList", "fastRemove", "([Ljava/lang/Object;I)V"⟩ ∈ WALL := wl 16 (by decide +kernel) rfl
theorem wd_17 : Cond.selects "StormBasin" ⟨"StormBasin", "passOneHour", "()V"⟩ ⟨"StormBasin", "passOneHour", "()V"⟩ ∈ WALL := wl 17 (by decide +kernel) rfl
theorem wd_18 : Cond.selects "StormBasin" ⟨"StormBasin", "streetWith", "(II)LStormBasin$Street;"⟩ ⟨"StormBasin", "streetWith", "(II)LStormBasin$Street;"⟩ ∈ WALL := wl 18 (by decide +kernel) rfl
theorem wd_19 : Cond.selects "StormBasin$Street" ⟨"StormBasin$Street", "cellsUpTo", "(I)I"⟩ ⟨"StormBasin$Street", "cellsUpTo", "(I)I"⟩ ∈ WALL := wl 19 (by decide +kernel) rfl
theorem wd_20 : Cond.selects "StormBasin$Street" ⟨"StormBasin$Street", "lowestCell", "()I"⟩ ⟨"StormBasin$Street", "lowestCell", "()I"⟩ ∈ WALL := wl 20 (by decide +kernel) rfl
theorem wd_21 : Cond.selects "StormBasin" ⟨"StormBasin", "requireHour", "(I)V"⟩ ⟨"StormBasin", "requireHour", "(I)V"⟩ ∈ WALL := wl 21 (by decide +kernel) rfl
theorem wd_22 : Cond.selects "StormBasin" ⟨"StormBasin", "houseOf", "(I)LStormBasin$House;"⟩ ⟨"StormBasin", "houseOf", "(I)LStormBasin$House;"⟩ ∈ WALL := wl 22 (by decide +kernel) rfl
theorem wd_23 : Cond.selects "StormBasinModel" ⟨"StormBasinModel", "isNone", "(I)Z"⟩ ⟨"StormBasinModel", "isNone", "(I)Z"⟩ ∈ WALL := wl 23 (by decide +kernel) rfl
theorem wd_24 : Cond.selects "StormBasinModel" ⟨"StormBasinModel", "fails", "(I)Z"⟩ ⟨"StormBasinModel", "fails", "(I)Z"⟩ ∈ WALL := wl 24 (by decide +kernel) rfl
theorem wd_25 : Cond.selects "StormBasinModel" ⟨"StormBasinModel", "tells", "(I)I"⟩ ⟨"StormBasinModel", "tells", "(I)I"⟩ ∈ WALL := wl 25 (by decide +kernel) rfl
theorem wd_26 : Cond.selects "StormBasinModel" ⟨"StormBasinModel", "holds", "(I)I"⟩ ⟨"StormBasinModel", "holds", "(I)I"⟩ ∈ WALL := wl 26 (by decide +kernel) rfl
theorem wd_27 : Cond.selects "StormBasinModel" ⟨"StormBasinModel", "isNoRule", "(I)Z"⟩ ⟨"StormBasinModel", "isNoRule", "(I)Z"⟩ ∈ WALL := wl 27 (by decide +kernel) rfl
theorem wd_28 : Cond.selects "StormBasinModel" ⟨"StormBasinModel", "isTrue", "(I[I)Z"⟩ ⟨"StormBasinModel", "isTrue", "(I[I)Z"⟩ ∈ WALL := wl 28 (by decide +kernel) rfl
theorem wd_29 : Cond.selects "StormBasinModel" ⟨"StormBasinModel", "opening", "(I[I)I"⟩ ⟨"StormBasinModel", "opening", "(I[I)I"⟩ ∈ WALL := wl 29 (by decide +kernel) rfl
theorem wd_30 : Cond.selects "StormBasinModel" ⟨"StormBasinModel", "flows", "([I[I)I"⟩ ⟨"StormBasinModel", "flows", "([I[I)I"⟩ ∈ WALL := wl 30 (by decide +kernel) rfl
theorem wd_31 : Cond.selects "StormBasinModel" ⟨"StormBasinModel", "held", "()I"⟩ ⟨"StormBasinModel", "held", "()I"⟩ ∈ WALL := wl 31 (by decide +kernel) rfl
theorem wd_32 : Cond.selects "StormBasinModel" ⟨"StormBasinModel", "deep", "(II)I"⟩ ⟨"StormBasinModel", "deep", "(II)I"⟩ ∈ WALL := wl 32 (by decide +kernel) rfl
theorem wd_33 : Cond.selects "StormBasinModel" ⟨"StormBasinModel", "isNoCell", "(II)Z"⟩ ⟨"StormBasinModel", "isNoCell", "(II)Z"⟩ ∈ WALL := wl 33 (by decide +kernel) rfl
theorem wd_34 : Cond.selects "StormBasinModel" ⟨"StormBasinModel", "depth", "(III)I"⟩ ⟨"StormBasinModel", "depth", "(III)I"⟩ ∈ WALL := wl 34 (by decide +kernel) rfl
theorem wd_35 : Cond.selects "StormBasinModel" ⟨"StormBasinModel", "heightOf", "(II)I"⟩ ⟨"StormBasinModel", "heightOf", "(II)I"⟩ ∈ WALL := wl 35 (by decide +kernel) rfl
theorem wd_36 : Cond.selects "StormBasinModel" ⟨"StormBasinModel", "upTo", "(II)I"⟩ ⟨"StormBasinModel", "upTo", "(II)I"⟩ ∈ WALL := wl 36 (by decide +kernel) rfl
theorem wd_37 : Cond.selects "StormBasinModel" ⟨"StormBasinModel", "then", "(III)I"⟩ ⟨"StormBasinModel", "then", "(III)I"⟩ ∈ WALL := wl 37 (by decide +kernel) rfl
theorem wd_38 : Cond.selects "StormBasinModel" ⟨"StormBasinModel", "wet", "(II)I"⟩ ⟨"StormBasinModel", "wet", "(II)I"⟩ ∈ WALL := wl 38 (by decide +kernel) rfl
theorem wd_39 : Cond.selects "StormBasinModel" ⟨"StormBasinModel", "isNoHour", "(II)Z"⟩ ⟨"StormBasinModel", "isNoHour", "(II)Z"⟩ ∈ WALL := wl 39 (by decide +kernel) rfl
theorem wd_40 : Cond.selects "StormBasinModel" ⟨"StormBasinModel", "isNoHouse", "(I)Z"⟩ ⟨"StormBasinModel", "isNoHouse", "(I)Z"⟩ ∈ WALL := wl 40 (by decide +kernel) rfl
theorem wd_41 : Cond.selects "StormBasinModel" ⟨"StormBasinModel", "worth", "(II)I"⟩ ⟨"StormBasinModel", "worth", "(II)I"⟩ ∈ WALL := wl 41 (by decide +kernel) rfl
theorem wd_42 : Cond.selects "StormBasinModel" ⟨"StormBasinModel", "pays", "(II)I"⟩ ⟨"StormBasinModel", "pays", "(II)I"⟩ ∈ WALL := wl 42 (by decide +kernel) rfl
theorem wd_43 : Cond.selects "StormBasinModel" ⟨"StormBasinModel", "allPaid", "()J"⟩ ⟨"StormBasinModel", "allPaid", "()J"⟩ ∈ WALL := wl 43 (by decide +kernel) rfl
theorem wd_44 : Cond.selects "StormBasinModel" ⟨"StormBasinModel", "trial", "(II)I"⟩ ⟨"StormBasinModel", "trial", "(II)I"⟩ ∈ WALL := wl 44 (by decide +kernel) rfl
theorem wd_45 : Cond.selects "StormBasinModel" ⟨"StormBasinModel", "putsNumber", "(I)V"⟩ ⟨"StormBasinModel", "putsNumber", "(I)V"⟩ ∈ WALL := wl 45 (by decide +kernel) rfl
theorem wd_46 : Cond.selects "StormBasinModel" ⟨"StormBasinModel", "puts", "(C)V"⟩ ⟨"StormBasinModel", "puts", "(C)V"⟩ ∈ WALL := wl 46 (by decide +kernel) rfl
theorem wd_x0 : Cond.selects "java/lang/StringBuilder" ⟨"java/lang/AbstractStringBuilder", "ensureCapacityInternal", "(I)V"⟩ ⟨"java/lang/AbstractStringBuilder", "ensureCapacityInternal", "(I)V"⟩ ∈ WALL := wl 47 (by decide +kernel) rfl
theorem wd_47 : (Jvm.Cond.initialized "StormBasinLaw") ∈ WALL := wl1 0 (by decide +kernel) rfl
theorem wd_48 : (Jvm.Cond.initialized "StormBasin") ∈ WALL := wl1 1 (by decide +kernel) rfl
theorem wd_49 : (Jvm.Cond.initialized "java/util/AbstractCollection") ∈ WALL := wl1 2 (by decide +kernel) rfl
theorem wd_50 : (Jvm.Cond.initialized "java/util/AbstractList") ∈ WALL := wl1 3 (by decide +kernel) rfl
theorem wd_51 : (Jvm.Cond.initialized "java/util/ArrayList") ∈ WALL := wl1 4 (by decide +kernel) rfl
theorem wd_52 : (Jvm.Cond.initialized "StormBasin$Water") ∈ WALL := wl1 5 (by decide +kernel) rfl
theorem wd_53 : (Jvm.Cond.initialized "java/lang/AbstractStringBuilder") ∈ WALL := wl1 6 (by decide +kernel) rfl
theorem wd_54 : (Jvm.Cond.initialized "java/lang/StringBuilder") ∈ WALL := wl1 7 (by decide +kernel) rfl
theorem wd_55 : (Jvm.Cond.initialized "java/lang/String") ∈ WALL := wl1 8 (by decide +kernel) rfl
theorem wd_56 : (Jvm.Cond.initialized "java/lang/StringUTF16") ∈ WALL := wl1 9 (by decide +kernel) rfl
theorem wd_57 : (Jvm.Cond.initialized "StormBasinModel") ∈ WALL := wl1 10 (by decide +kernel) rfl
theorem wd_58 : (Jvm.Cond.initialized "java/lang/Throwable") ∈ WALL := wl1 11 (by decide +kernel) rfl
theorem wd_59 : (Jvm.Cond.initialized "java/lang/Exception") ∈ WALL := wl1 12 (by decide +kernel) rfl
theorem wd_60 : (Jvm.Cond.initialized "java/lang/RuntimeException") ∈ WALL := wl1 13 (by decide +kernel) rfl
theorem wd_61 : (Jvm.Cond.initialized "java/lang/IndexOutOfBoundsException") ∈ WALL := wl1 14 (by decide +kernel) rfl
theorem wd_62 : (Jvm.Cond.initialized "java/lang/ArrayIndexOutOfBoundsException") ∈ WALL := wl1 15 (by decide +kernel) rfl
theorem wd_63 : (Jvm.Cond.initialized "java/lang/IllegalArgumentException") ∈ WALL := wl1 16 (by decide +kernel) rfl
theorem wd_64 : (Jvm.Cond.initialized "java/lang/IllegalStateException") ∈ WALL := wl1 17 (by decide +kernel) rfl
theorem wd_65 : (Jvm.Cond.initialized "StormBasin$Basin") ∈ WALL := wl1 18 (by decide +kernel) rfl
theorem wd_66 : (Jvm.Cond.initialized "StormBasin$Street") ∈ WALL := wl1 19 (by decide +kernel) rfl
theorem wd_67 : (Jvm.Cond.initialized "jdk/internal/util/ArraysSupport") ∈ WALL := wl1 20 (by decide +kernel) rfl
theorem wd_68 : (Jvm.Cond.initialized "java/lang/Math") ∈ WALL := wl1 21 (by decide +kernel) rfl
theorem wd_69 : (Jvm.Cond.initialized "java/util/Arrays") ∈ WALL := wl1 22 (by decide +kernel) rfl
theorem wd_70 : (Jvm.Cond.initialized "java/lang/System") ∈ WALL := wl1 23 (by decide +kernel) rfl
theorem wd_71 : (Jvm.Cond.initialized "java/util/Objects") ∈ WALL := wl1 24 (by decide +kernel) rfl
theorem wd_72 : (Jvm.Cond.initialized "jdk/internal/util/Preconditions") ∈ WALL := wl1 25 (by decide +kernel) rfl
theorem wd_73 : (Jvm.Cond.initialized "StormBasin$Rule") ∈ WALL := wl1 26 (by decide +kernel) rfl
theorem wd_74 : (Jvm.Cond.initialized "StormBasin$House") ∈ WALL := wl1 27 (by decide +kernel) rfl
theorem wd_75 : (Jvm.Cond.initialized "java/lang/UnsupportedOperationException") ∈ WALL := wl1 28 (by decide +kernel) rfl
theorem wd_76 : (Jvm.Cond.initialized "java/util/NoSuchElementException") ∈ WALL := wl1 29 (by decide +kernel) rfl
theorem wd_77 : (Jvm.Cond.initialized "java/lang/ArithmeticException") ∈ WALL := wl1 30 (by decide +kernel) rfl
theorem wd_78 : (Jvm.Cond.initialized "java/lang/StringIndexOutOfBoundsException") ∈ WALL := wl1 31 (by decide +kernel) rfl
theorem wd_79 : (Jvm.Cond.initialized "java/lang/StringLatin1") ∈ WALL := wl1 32 (by decide +kernel) rfl
theorem wd_80 : (Jvm.Cond.initialized "java/lang/Number") ∈ WALL := wl1 33 (by decide +kernel) rfl
theorem wd_81 : (Jvm.Cond.initialized "java/lang/Integer") ∈ WALL := wl1 34 (by decide +kernel) rfl
theorem wd_82 : (Jvm.Cond.classLink "StormBasinLaw" (8 : Nat) "StormBasin") ∈ WALL := wl1 35 (by decide +kernel) rfl
theorem wd_83 : (Jvm.Cond.instantiable "StormBasin" (9 : Nat)) ∈ WALL := wl1 36 (by decide +kernel) rfl
theorem wd_84 : (Jvm.Cond.methodLink "StormBasinLaw" (124 : Nat) ({ cls := "StormBasin", name := "<init>", desc := "()V" } : Jvm.MethodName)) ∈ WALL := wl1 37 (by decide +kernel) rfl
theorem wd_85 : (Jvm.Cond.instanceMethod ({ cls := "StormBasin", name := "<init>", desc := "()V" } : Jvm.MethodName)) ∈ WALL := wl1 38 (by decide +kernel) rfl
theorem wd_86 : (Jvm.Cond.code ({ cls := "StormBasin", name := "<init>", desc := "()V" } : Jvm.MethodName) prog_1_method_1_code (1 : Nat) (Option.none : Option Jvm.ClassFile.FieldType)) ∈ WALL := wl1 39 (by decide +kernel) rfl
theorem wd_87 : (Jvm.Cond.methodLink "StormBasin" (1 : Nat) ({ cls := "java/lang/Object", name := "<init>", desc := "()V" } : Jvm.MethodName)) ∈ WALL := wl1 40 (by decide +kernel) rfl
theorem wd_88 : (Jvm.Cond.instanceMethod ({ cls := "java/lang/Object", name := "<init>", desc := "()V" } : Jvm.MethodName)) ∈ WALL := wl1 41 (by decide +kernel) rfl
theorem wd_89 : (Jvm.Cond.code ({ cls := "java/lang/Object", name := "<init>", desc := "()V" } : Jvm.MethodName) object_method_1_code (1 : Nat) (Option.none : Option Jvm.ClassFile.FieldType)) ∈ WALL := wl1 42 (by decide +kernel) rfl
theorem wd_90 : (Jvm.Cond.classLink "StormBasin" (7 : Nat) "java/util/ArrayList") ∈ WALL := wl1 43 (by decide +kernel) rfl
theorem wd_91 : (Jvm.Cond.instantiable "java/util/ArrayList" (3 : Nat)) ∈ WALL := wl1 44 (by decide +kernel) rfl
theorem wd_92 : (Jvm.Cond.methodLink "StormBasin" (9 : Nat) ({ cls := "java/util/ArrayList", name := "<init>", desc := "()V" } : Jvm.MethodName)) ∈ WALL := wl1 45 (by decide +kernel) rfl
theorem wd_93 : (Jvm.Cond.instanceMethod ({ cls := "java/util/ArrayList", name := "<init>", desc := "()V" } : Jvm.MethodName)) ∈ WALL := wl1 46 (by decide +kernel) rfl
theorem wd_94 : (Jvm.Cond.code ({ cls := "java/util/ArrayList", name := "<init>", desc := "()V" } : Jvm.MethodName) prog_38_method_2_code (1 : Nat) (Option.none : Option Jvm.ClassFile.FieldType)) ∈ WALL := wl1 47 (by decide +kernel) rfl
theorem wd_95 : (Jvm.Cond.methodLink "java/util/ArrayList" (1 : Nat) ({ cls := "java/util/AbstractList", name := "<init>", desc := "()V" } : Jvm.MethodName)) ∈ WALL := wl1 48 (by decide +kernel) rfl
theorem wd_96 : (Jvm.Cond.instanceMethod ({ cls := "java/util/AbstractList", name := "<init>", desc := "()V" } : Jvm.MethodName)) ∈ WALL := wl1 49 (by decide +kernel) rfl
theorem wd_97 : (Jvm.Cond.code ({ cls := "java/util/AbstractList", name := "<init>", desc := "()V" } : Jvm.MethodName) prog_37_method_1_code (1 : Nat) (Option.none : Option Jvm.ClassFile.FieldType)) ∈ WALL := wl1 50 (by decide +kernel) rfl
theorem wd_98 : (Jvm.Cond.methodLink "java/util/AbstractList" (1 : Nat) ({ cls := "java/util/AbstractCollection", name := "<init>", desc := "()V" } : Jvm.MethodName)) ∈ WALL := wl1 51 (by decide +kernel) rfl
theorem wd_99 : (Jvm.Cond.instanceMethod ({ cls := "java/util/AbstractCollection", name := "<init>", desc := "()V" } : Jvm.MethodName)) ∈ WALL := wl1 52 (by decide +kernel) rfl
theorem wd_100 : (Jvm.Cond.code ({ cls := "java/util/AbstractCollection", name := "<init>", desc := "()V" } : Jvm.MethodName) prog_36_method_1_code (1 : Nat) (Option.none : Option Jvm.ClassFile.FieldType)) ∈ WALL := wl1 53 (by decide +kernel) rfl
theorem wd_101 : (Jvm.Cond.methodLink "java/util/AbstractCollection" (1 : Nat) ({ cls := "java/lang/Object", name := "<init>", desc := "()V" } : Jvm.MethodName)) ∈ WALL := wl1 54 (by decide +kernel) rfl
theorem wd_102 : (Jvm.Cond.fieldLink "java/util/ArrayList" (39 : Nat) "java/util/ArrayList" "DEFAULTCAPACITY_EMPTY_ELEMENTDATA" "[Ljava/lang/Object;") ∈ WALL := wl1 55 (by decide +kernel) rfl
theorem wd_104 : (Jvm.Cond.fieldLink "java/util/ArrayList" (9 : Nat) "java/util/ArrayList" "elementData" "[Ljava/lang/Object;") ∈ WALL := wl1 57 (by decide +kernel) rfl
theorem wd_105 : (Jvm.Cond.fieldLink "java/util/ArrayList" (48 : Nat) "java/util/ArrayList" "size" "I") ∈ WALL := wl1 58 (by decide +kernel) rfl
theorem wd_106 : (Jvm.Cond.fieldLink "java/util/AbstractList" (7 : Nat) "java/util/AbstractList" "modCount" "I") ∈ WALL := wl1 59 (by decide +kernel) rfl
theorem wd_107 : (Jvm.Cond.fieldLink "java/util/ArrayList" (63 : Nat) "java/util/ArrayList" "modCount" "I") ∈ WALL := wl1 60 (by decide +kernel) rfl
theorem wd_108 : (Jvm.Cond.sameField "java/util/ArrayList" "java/util/AbstractList" "modCount" "I") ∈ WALL := wl1 61 (by decide +kernel) rfl
theorem wd_109 : (Jvm.Cond.lays "java/util/ArrayList" "java/util/ArrayList" "elementData" "[Ljava/lang/Object;") ∈ WALL := wl1 62 (by decide +kernel) rfl
theorem wd_111 : (Jvm.Cond.lays "java/util/ArrayList" "java/util/ArrayList" "size" "I") ∈ WALL := wl1 64 (by decide +kernel) rfl
theorem wd_113 : (Jvm.Cond.lays "java/util/ArrayList" "java/util/AbstractList" "modCount" "I") ∈ WALL := wl1 66 (by decide +kernel) rfl
theorem wd_115 : (Jvm.Cond.superclass "java/util/ArrayList" "java/util/AbstractList") ∈ WALL := wl1 68 (by decide +kernel) rfl
theorem wd_116 : (Jvm.Cond.classLink "StormBasin" (22 : Nat) "StormBasin$Water") ∈ WALL := wl1 69 (by decide +kernel) rfl
theorem wd_117 : (Jvm.Cond.instantiable "StormBasin$Water" (4 : Nat)) ∈ WALL := wl1 70 (by decide +kernel) rfl
theorem wd_118 : (Jvm.Cond.methodLink "StormBasin" (24 : Nat) ({ cls := "StormBasin$Water", name := "<init>", desc := "()V" } : Jvm.MethodName)) ∈ WALL := wl1 71 (by decide +kernel) rfl
theorem wd_119 : (Jvm.Cond.instanceMethod ({ cls := "StormBasin$Water", name := "<init>", desc := "()V" } : Jvm.MethodName)) ∈ WALL := wl1 72 (by decide +kernel) rfl
theorem wd_120 : (Jvm.Cond.code ({ cls := "StormBasin$Water", name := "<init>", desc := "()V" } : Jvm.MethodName) prog_6_method_1_code (1 : Nat) (Option.none : Option Jvm.ClassFile.FieldType)) ∈ WALL := wl1 73 (by decide +kernel) rfl
theorem wd_121 : (Jvm.Cond.methodLink "StormBasin$Water" (3 : Nat) ({ cls := "java/lang/Object", name := "<init>", desc := "()V" } : Jvm.MethodName)) ∈ WALL := wl1 74 (by decide +kernel) rfl
theorem wd_122 : (Jvm.Cond.fieldLink "StormBasin$Water" (9 : Nat) "StormBasin$Water" "inBasin" "[I") ∈ WALL := wl1 75 (by decide +kernel) rfl
theorem wd_123 : (Jvm.Cond.fieldLink "StormBasin" (159 : Nat) "StormBasin$Water" "inBasin" "[I") ∈ WALL := wl1 76 (by decide +kernel) rfl
theorem wd_124 : (Jvm.Cond.fieldLink "StormBasin$Water" (15 : Nat) "StormBasin$Water" "onStreet" "[I") ∈ WALL := wl1 77 (by decide +kernel) rfl
theorem wd_125 : (Jvm.Cond.fieldLink "StormBasin" (166 : Nat) "StormBasin$Water" "onStreet" "[I") ∈ WALL := wl1 78 (by decide +kernel) rfl
theorem wd_126 : (Jvm.Cond.fieldLink "StormBasin$Water" (18 : Nat) "StormBasin$Water" "leaving" "[I") ∈ WALL := wl1 79 (by decide +kernel) rfl
theorem wd_127 : (Jvm.Cond.fieldLink "StormBasin" (330 : Nat) "StormBasin$Water" "leaving" "[I") ∈ WALL := wl1 80 (by decide +kernel) rfl
theorem wd_128 : (Jvm.Cond.fieldLink "StormBasin$Water" (27 : Nat) "StormBasin$Water" "inRiver" "I") ∈ WALL := wl1 81 (by decide +kernel) rfl
theorem wd_129 : (Jvm.Cond.fieldLink "StormBasin" (172 : Nat) "StormBasin$Water" "inRiver" "I") ∈ WALL := wl1 82 (by decide +kernel) rfl
theorem wd_130 : (Jvm.Cond.laysFinal "StormBasin$Water" "StormBasin$Water" "inBasin" "[I") ∈ WALL := wl1 83 (by decide +kernel) rfl
theorem wd_132 : (Jvm.Cond.laysFinal "StormBasin$Water" "StormBasin$Water" "onStreet" "[I") ∈ WALL := wl1 85 (by decide +kernel) rfl
theorem wd_134 : (Jvm.Cond.laysFinal "StormBasin$Water" "StormBasin$Water" "leaving" "[I") ∈ WALL := wl1 87 (by decide +kernel) rfl
theorem wd_136 : (Jvm.Cond.lays "StormBasin$Water" "StormBasin$Water" "inRiver" "I") ∈ WALL := wl1 89 (by decide +kernel) rfl
theorem wd_138 : (Jvm.Cond.superclass "StormBasin$Water" "java/lang/Object") ∈ WALL := wl1 91 (by decide +kernel) rfl
theorem wd_139 : (Jvm.Cond.arrayClass Jvm.ClassFile.FieldType.int) ∈ WALL := wl1 92 (by decide +kernel) rfl
theorem wd_140 : (Jvm.Cond.classLink "StormBasin" (32 : Nat) "java/lang/StringBuilder") ∈ WALL := wl1 93 (by decide +kernel) rfl
theorem wd_141 : (Jvm.Cond.instantiable "java/lang/StringBuilder" (4 : Nat)) ∈ WALL := wl1 94 (by decide +kernel) rfl
theorem wd_142 : (Jvm.Cond.methodLink "StormBasin" (34 : Nat) ({ cls := "java/lang/StringBuilder", name := "<init>", desc := "()V" } : Jvm.MethodName)) ∈ WALL := wl1 95 (by decide +kernel) rfl
theorem wd_143 : (Jvm.Cond.instanceMethod ({ cls := "java/lang/StringBuilder", name := "<init>", desc := "()V" } : Jvm.MethodName)) ∈ WALL := wl1 96 (by decide +kernel) rfl
theorem wd_144 : (Jvm.Cond.code ({ cls := "java/lang/StringBuilder", name := "<init>", desc := "()V" } : Jvm.MethodName) prog_27_method_1_code (1 : Nat) (Option.none : Option Jvm.ClassFile.FieldType)) ∈ WALL := wl1 97 (by decide +kernel) rfl
theorem wd_145 : (Jvm.Cond.methodLink "java/lang/StringBuilder" (1 : Nat) ({ cls := "java/lang/AbstractStringBuilder", name := "<init>", desc := "(I)V" } : Jvm.MethodName)) ∈ WALL := wl1 98 (by decide +kernel) rfl
theorem wd_146 : (Jvm.Cond.instanceMethod ({ cls := "java/lang/AbstractStringBuilder", name := "<init>", desc := "(I)V" } : Jvm.MethodName)) ∈ WALL := wl1 99 (by decide +kernel) rfl
theorem wd_147 : (Jvm.Cond.code ({ cls := "java/lang/AbstractStringBuilder", name := "<init>", desc := "(I)V" } : Jvm.MethodName) prog_10_method_2_code (2 : Nat) (Option.none : Option Jvm.ClassFile.FieldType)) ∈ WALL := wl1 100 (by decide +kernel) rfl
theorem wd_148 : (Jvm.Cond.methodLink "java/lang/AbstractStringBuilder" (3 : Nat) ({ cls := "java/lang/Object", name := "<init>", desc := "()V" } : Jvm.MethodName)) ∈ WALL := wl1 101 (by decide +kernel) rfl
theorem wd_149 : (Jvm.Cond.fieldLink "java/lang/AbstractStringBuilder" (18 : Nat) "java/lang/String" "COMPACT_STRINGS" "Z") ∈ WALL := wl1 102 (by decide +kernel) rfl
theorem wd_151 : (Jvm.Cond.methodLink "java/lang/AbstractStringBuilder" (26 : Nat) ({ cls := "java/lang/StringUTF16", name := "newBytesFor", desc := "(I)[B" } : Jvm.MethodName)) ∈ WALL := wl1 104 (by decide +kernel) rfl
theorem wd_152 : (Jvm.Cond.static ({ cls := "java/lang/StringUTF16", name := "newBytesFor", desc := "(I)[B" } : Jvm.MethodName)) ∈ WALL := wl1 105 (by decide +kernel) rfl
theorem wd_153 : (Jvm.Cond.code ({ cls := "java/lang/StringUTF16", name := "newBytesFor", desc := "(I)[B" } : Jvm.MethodName) prog_30_method_2_code (1 : Nat) (Option.some (Jvm.ClassFile.FieldType.array Jvm.ClassFile.FieldType.byte))) ∈ WALL := wl1 106 (by decide +kernel) rfl
theorem wd_154 : (Jvm.Cond.methodLink "java/lang/StringUTF16" (11 : Nat) ({ cls := "java/lang/StringUTF16", name := "newBytesLength", desc := "(I)I" } : Jvm.MethodName)) ∈ WALL := wl1 107 (by decide +kernel) rfl
theorem wd_155 : (Jvm.Cond.static ({ cls := "java/lang/StringUTF16", name := "newBytesLength", desc := "(I)I" } : Jvm.MethodName)) ∈ WALL := wl1 108 (by decide +kernel) rfl
theorem wd_156 : (Jvm.Cond.code ({ cls := "java/lang/StringUTF16", name := "newBytesLength", desc := "(I)I" } : Jvm.MethodName) prog_30_method_3_code (1 : Nat) (Option.some Jvm.ClassFile.FieldType.int)) ∈ WALL := wl1 109 (by decide +kernel) rfl
theorem wd_157 : (Jvm.Cond.constant "java/lang/StringUTF16" (20 : Nat) (1073741823 : Int32)) ∈ WALL := wl1 110 (by decide +kernel) rfl
theorem wd_158 : (Jvm.Cond.fieldLink "java/lang/AbstractStringBuilder" (15 : Nat) "java/lang/AbstractStringBuilder" "value" "[B") ∈ WALL := wl1 111 (by decide +kernel) rfl
theorem wd_159 : (Jvm.Cond.fieldLink "java/lang/AbstractStringBuilder" (22 : Nat) "java/lang/AbstractStringBuilder" "coder" "B") ∈ WALL := wl1 112 (by decide +kernel) rfl
theorem wd_160 : (Jvm.Cond.fieldLink "java/lang/AbstractStringBuilder" (73 : Nat) "java/lang/AbstractStringBuilder" "maybeLatin1" "Z") ∈ WALL := wl1 113 (by decide +kernel) rfl
theorem wd_161 : (Jvm.Cond.fieldLink "java/lang/String" (1048 : Nat) "java/lang/AbstractStringBuilder" "maybeLatin1" "Z") ∈ WALL := wl1 114 (by decide +kernel) rfl
theorem wd_162 : (Jvm.Cond.fieldLink "java/lang/AbstractStringBuilder" (79 : Nat) "java/lang/AbstractStringBuilder" "count" "I") ∈ WALL := wl1 115 (by decide +kernel) rfl
theorem wd_163 : (Jvm.Cond.lays "java/lang/StringBuilder" "java/lang/AbstractStringBuilder" "value" "[B") ∈ WALL := wl1 116 (by decide +kernel) rfl
theorem wd_165 : (Jvm.Cond.lays "java/lang/StringBuilder" "java/lang/AbstractStringBuilder" "coder" "B") ∈ WALL := wl1 118 (by decide +kernel) rfl
theorem wd_167 : (Jvm.Cond.lays "java/lang/StringBuilder" "java/lang/AbstractStringBuilder" "maybeLatin1" "Z") ∈ WALL := wl1 120 (by decide +kernel) rfl
theorem wd_169 : (Jvm.Cond.lays "java/lang/StringBuilder" "java/lang/AbstractStringBuilder" "count" "I") ∈ WALL := wl1 122 (by decide +kernel) rfl
theorem wd_171 : (Jvm.Cond.superclass "java/lang/StringBuilder" "java/lang/AbstractStringBuilder") ∈ WALL := wl1 124 (by decide +kernel) rfl
theorem wd_172 : (Jvm.Cond.arrayClass Jvm.ClassFile.FieldType.byte) ∈ WALL := wl1 125 (by decide +kernel) rfl
theorem wd_173 : (Jvm.Cond.fieldLink "StormBasin" (10 : Nat) "StormBasin" "basins" "Ljava/util/ArrayList;") ∈ WALL := wl1 126 (by decide +kernel) rfl
theorem wd_174 : (Jvm.Cond.fieldLink "StormBasin" (16 : Nat) "StormBasin" "rules" "Ljava/util/ArrayList;") ∈ WALL := wl1 127 (by decide +kernel) rfl
theorem wd_175 : (Jvm.Cond.fieldLink "StormBasin" (19 : Nat) "StormBasin" "houses" "Ljava/util/ArrayList;") ∈ WALL := wl1 128 (by decide +kernel) rfl
theorem wd_176 : (Jvm.Cond.fieldLink "StormBasin" (25 : Nat) "StormBasin" "present" "LStormBasin$Water;") ∈ WALL := wl1 129 (by decide +kernel) rfl
theorem wd_177 : (Jvm.Cond.fieldLink "StormBasin" (29 : Nat) "StormBasin" "trial" "LStormBasin$Water;") ∈ WALL := wl1 130 (by decide +kernel) rfl
theorem wd_178 : (Jvm.Cond.fieldLink "StormBasin" (35 : Nat) "StormBasin" "line" "Ljava/lang/StringBuilder;") ∈ WALL := wl1 131 (by decide +kernel) rfl
theorem wd_179 : (Jvm.Cond.fieldLink "StormBasin" (151 : Nat) "StormBasin" "clock" "I") ∈ WALL := wl1 132 (by decide +kernel) rfl
theorem wd_180 : (Jvm.Cond.fieldLink "StormBasin" (169 : Nat) "StormBasin" "rainSoFar" "I") ∈ WALL := wl1 133 (by decide +kernel) rfl
theorem wd_181 : (Jvm.Cond.fieldLink "StormBasin" (203 : Nat) "StormBasin" "wetSoFar" "I") ∈ WALL := wl1 134 (by decide +kernel) rfl
theorem wd_182 : (Jvm.Cond.laysFinal "StormBasin" "StormBasin" "basins" "Ljava/util/ArrayList;") ∈ WALL := wl1 135 (by decide +kernel) rfl
theorem wd_184 : (Jvm.Cond.laysFinal "StormBasin" "StormBasin" "rules" "Ljava/util/ArrayList;") ∈ WALL := wl1 137 (by decide +kernel) rfl
theorem wd_186 : (Jvm.Cond.laysFinal "StormBasin" "StormBasin" "houses" "Ljava/util/ArrayList;") ∈ WALL := wl1 139 (by decide +kernel) rfl
theorem wd_188 : (Jvm.Cond.laysFinal "StormBasin" "StormBasin" "present" "LStormBasin$Water;") ∈ WALL := wl1 141 (by decide +kernel) rfl
theorem wd_190 : (Jvm.Cond.laysFinal "StormBasin" "StormBasin" "trial" "LStormBasin$Water;") ∈ WALL := wl1 143 (by decide +kernel) rfl
theorem wd_192 : (Jvm.Cond.laysFinal "StormBasin" "StormBasin" "line" "Ljava/lang/StringBuilder;") ∈ WALL := wl1 145 (by decide +kernel) rfl
theorem wd_194 : (Jvm.Cond.lays "StormBasin" "StormBasin" "clock" "I") ∈ WALL := wl1 147 (by decide +kernel) rfl
theorem wd_196 : (Jvm.Cond.lays "StormBasin" "StormBasin" "rainSoFar" "I") ∈ WALL := wl1 149 (by decide +kernel) rfl
theorem wd_198 : (Jvm.Cond.lays "StormBasin" "StormBasin" "wetSoFar" "I") ∈ WALL := wl1 151 (by decide +kernel) rfl
theorem wd_200 : (Jvm.Cond.superclass "StormBasin" "java/lang/Object") ∈ WALL := wl1 153 (by decide +kernel) rfl
theorem wd_201 : (Jvm.Cond.methodLink "StormBasinLaw" (142 : Nat) ({ cls := "StormBasin", name := "basinCount", desc := "()I" } : Jvm.MethodName)) ∈ WALL := wl1 154 (by decide +kernel) rfl
theorem wd_202 : (Jvm.Cond.instanceMethod ({ cls := "StormBasin", name := "basinCount", desc := "()I" } : Jvm.MethodName)) ∈ WALL := wl1 155 (by decide +kernel) rfl
theorem wd_203 : (Jvm.Cond.selects "StormBasin" ({ cls := "StormBasin", name := "basinCount", desc := "()I" } : Jvm.MethodName) ({ cls := "StormBasin", name := "basinCount", desc := "()I" } : Jvm.MethodName)) ∈ WALL := wl1 156 (by decide +kernel) rfl
theorem wd_204 : (Jvm.Cond.code ({ cls := "StormBasin", name := "basinCount", desc := "()I" } : Jvm.MethodName) prog_1_method_4_code (1 : Nat) (Option.some Jvm.ClassFile.FieldType.int)) ∈ WALL := wl1 157 (by decide +kernel) rfl
theorem wd_205 : (Jvm.Cond.methodLink "StormBasin" (39 : Nat) ({ cls := "java/util/ArrayList", name := "size", desc := "()I" } : Jvm.MethodName)) ∈ WALL := wl1 158 (by decide +kernel) rfl
theorem wd_206 : (Jvm.Cond.instanceMethod ({ cls := "java/util/ArrayList", name := "size", desc := "()I" } : Jvm.MethodName)) ∈ WALL := wl1 159 (by decide +kernel) rfl
theorem wd_207 : (Jvm.Cond.selects "java/util/ArrayList" ({ cls := "java/util/ArrayList", name := "size", desc := "()I" } : Jvm.MethodName) ({ cls := "java/util/ArrayList", name := "size", desc := "()I" } : Jvm.MethodName)) ∈ WALL := wl1 160 (by decide +kernel) rfl
theorem wd_208 : (Jvm.Cond.code ({ cls := "java/util/ArrayList", name := "size", desc := "()I" } : Jvm.MethodName) prog_38_method_8_code (1 : Nat) (Option.some Jvm.ClassFile.FieldType.int)) ∈ WALL := wl1 161 (by decide +kernel) rfl
theorem wd_209 : (Jvm.Cond.methodLink "StormBasinLaw" (163 : Nat) ({ cls := "StormBasin", name := "ruleCount", desc := "()I" } : Jvm.MethodName)) ∈ WALL := wl1 162 (by decide +kernel) rfl
theorem wd_210 : (Jvm.Cond.instanceMethod ({ cls := "StormBasin", name := "ruleCount", desc := "()I" } : Jvm.MethodName)) ∈ WALL := wl1 163 (by decide +kernel) rfl
theorem wd_211 : (Jvm.Cond.selects "StormBasin" ({ cls := "StormBasin", name := "ruleCount", desc := "()I" } : Jvm.MethodName) ({ cls := "StormBasin", name := "ruleCount", desc := "()I" } : Jvm.MethodName)) ∈ WALL := wl1 164 (by decide +kernel) rfl
theorem wd_212 : (Jvm.Cond.code ({ cls := "StormBasin", name := "ruleCount", desc := "()I" } : Jvm.MethodName) prog_1_method_10_code (1 : Nat) (Option.some Jvm.ClassFile.FieldType.int)) ∈ WALL := wl1 165 (by decide +kernel) rfl
theorem wd_213 : (Jvm.Cond.methodLink "StormBasinLaw" (179 : Nat) ({ cls := "StormBasin", name := "clock", desc := "()I" } : Jvm.MethodName)) ∈ WALL := wl1 166 (by decide +kernel) rfl
theorem wd_214 : (Jvm.Cond.instanceMethod ({ cls := "StormBasin", name := "clock", desc := "()I" } : Jvm.MethodName)) ∈ WALL := wl1 167 (by decide +kernel) rfl
theorem wd_215 : (Jvm.Cond.selects "StormBasin" ({ cls := "StormBasin", name := "clock", desc := "()I" } : Jvm.MethodName) ({ cls := "StormBasin", name := "clock", desc := "()I" } : Jvm.MethodName)) ∈ WALL := wl1 168 (by decide +kernel) rfl
theorem wd_216 : (Jvm.Cond.code ({ cls := "StormBasin", name := "clock", desc := "()I" } : Jvm.MethodName) prog_1_method_15_code (1 : Nat) (Option.some Jvm.ClassFile.FieldType.int)) ∈ WALL := wl1 169 (by decide +kernel) rfl
theorem wd_217 : (Jvm.Cond.methodLink "StormBasinLaw" (192 : Nat) ({ cls := "StormBasin", name := "rainTotal", desc := "()I" } : Jvm.MethodName)) ∈ WALL := wl1 170 (by decide +kernel) rfl
theorem wd_218 : (Jvm.Cond.instanceMethod ({ cls := "StormBasin", name := "rainTotal", desc := "()I" } : Jvm.MethodName)) ∈ WALL := wl1 171 (by decide +kernel) rfl
theorem wd_219 : (Jvm.Cond.selects "StormBasin" ({ cls := "StormBasin", name := "rainTotal", desc := "()I" } : Jvm.MethodName) ({ cls := "StormBasin", name := "rainTotal", desc := "()I" } : Jvm.MethodName)) ∈ WALL := wl1 172 (by decide +kernel) rfl
theorem wd_220 : (Jvm.Cond.code ({ cls := "StormBasin", name := "rainTotal", desc := "()I" } : Jvm.MethodName) prog_1_method_19_code (1 : Nat) (Option.some Jvm.ClassFile.FieldType.int)) ∈ WALL := wl1 173 (by decide +kernel) rfl
theorem wd_221 : (Jvm.Cond.methodLink "StormBasinLaw" (196 : Nat) ({ cls := "StormBasin", name := "riverTotal", desc := "()I" } : Jvm.MethodName)) ∈ WALL := wl1 174 (by decide +kernel) rfl
theorem wd_222 : (Jvm.Cond.instanceMethod ({ cls := "StormBasin", name := "riverTotal", desc := "()I" } : Jvm.MethodName)) ∈ WALL := wl1 175 (by decide +kernel) rfl
theorem wd_223 : (Jvm.Cond.selects "StormBasin" ({ cls := "StormBasin", name := "riverTotal", desc := "()I" } : Jvm.MethodName) ({ cls := "StormBasin", name := "riverTotal", desc := "()I" } : Jvm.MethodName)) ∈ WALL := wl1 176 (by decide +kernel) rfl
theorem wd_224 : (Jvm.Cond.code ({ cls := "StormBasin", name := "riverTotal", desc := "()I" } : Jvm.MethodName) prog_1_method_20_code (1 : Nat) (Option.some Jvm.ClassFile.FieldType.int)) ∈ WALL := wl1 177 (by decide +kernel) rfl
theorem wd_225 : (Jvm.Cond.methodLink "StormBasinLaw" (200 : Nat) ({ cls := "StormBasin", name := "heldTotal", desc := "()I" } : Jvm.MethodName)) ∈ WALL := wl1 178 (by decide +kernel) rfl
theorem wd_226 : (Jvm.Cond.instanceMethod ({ cls := "StormBasin", name := "heldTotal", desc := "()I" } : Jvm.MethodName)) ∈ WALL := wl1 179 (by decide +kernel) rfl
theorem wd_227 : (Jvm.Cond.selects "StormBasin" ({ cls := "StormBasin", name := "heldTotal", desc := "()I" } : Jvm.MethodName) ({ cls := "StormBasin", name := "heldTotal", desc := "()I" } : Jvm.MethodName)) ∈ WALL := wl1 180 (by decide +kernel) rfl
theorem wd_228 : (Jvm.Cond.code ({ cls := "StormBasin", name := "heldTotal", desc := "()I" } : Jvm.MethodName) prog_1_method_21_code (1 : Nat) (Option.some Jvm.ClassFile.FieldType.int)) ∈ WALL := wl1 181 (by decide +kernel) rfl
theorem wd_229 : (Jvm.Cond.methodLink "StormBasin" (175 : Nat) ({ cls := "StormBasin$Water", name := "held", desc := "()I" } : Jvm.MethodName)) ∈ WALL := wl1 182 (by decide +kernel) rfl
theorem wd_230 : (Jvm.Cond.instanceMethod ({ cls := "StormBasin$Water", name := "held", desc := "()I" } : Jvm.MethodName)) ∈ WALL := wl1 183 (by decide +kernel) rfl
theorem wd_231 : (Jvm.Cond.selects "StormBasin$Water" ({ cls := "StormBasin$Water", name := "held", desc := "()I" } : Jvm.MethodName) ({ cls := "StormBasin$Water", name := "held", desc := "()I" } : Jvm.MethodName)) ∈ WALL := wl1 184 (by decide +kernel) rfl
theorem wd_232 : (Jvm.Cond.code ({ cls := "StormBasin$Water", name := "held", desc := "()I" } : Jvm.MethodName) prog_6_method_3_code (3 : Nat) (Option.some Jvm.ClassFile.FieldType.int)) ∈ WALL := wl1 185 (by decide +kernel) rfl
theorem wd_233 : (Jvm.Cond.methodLink "StormBasinLaw" (204 : Nat) ({ cls := "StormBasin", name := "isBalanced", desc := "()Z" } : Jvm.MethodName)) ∈ WALL := wl1 186 (by decide +kernel) rfl
theorem wd_234 : (Jvm.Cond.instanceMethod ({ cls := "StormBasin", name := "isBalanced", desc := "()Z" } : Jvm.MethodName)) ∈ WALL := wl1 187 (by decide +kernel) rfl
theorem wd_235 : (Jvm.Cond.selects "StormBasin" ({ cls := "StormBasin", name := "isBalanced", desc := "()Z" } : Jvm.MethodName) ({ cls := "StormBasin", name := "isBalanced", desc := "()Z" } : Jvm.MethodName)) ∈ WALL := wl1 188 (by decide +kernel) rfl
theorem wd_236 : (Jvm.Cond.code ({ cls := "StormBasin", name := "isBalanced", desc := "()Z" } : Jvm.MethodName) prog_1_method_22_code (1 : Nat) (Option.some Jvm.ClassFile.FieldType.boolean)) ∈ WALL := wl1 189 (by decide +kernel) rfl
theorem wd_237 : (Jvm.Cond.methodLink "StormBasinLaw" (225 : Nat) ({ cls := "StormBasin", name := "floodedSoFar", desc := "()I" } : Jvm.MethodName)) ∈ WALL := wl1 190 (by decide +kernel) rfl
theorem wd_238 : (Jvm.Cond.instanceMethod ({ cls := "StormBasin", name := "floodedSoFar", desc := "()I" } : Jvm.MethodName)) ∈ WALL := wl1 191 (by decide +kernel) rfl
theorem wd_239 : (Jvm.Cond.selects "StormBasin" ({ cls := "StormBasin", name := "floodedSoFar", desc := "()I" } : Jvm.MethodName) ({ cls := "StormBasin", name := "floodedSoFar", desc := "()I" } : Jvm.MethodName)) ∈ WALL := wl1 192 (by decide +kernel) rfl
theorem wd_240 : (Jvm.Cond.code ({ cls := "StormBasin", name := "floodedSoFar", desc := "()I" } : Jvm.MethodName) prog_1_method_28_code (1 : Nat) (Option.some Jvm.ClassFile.FieldType.int)) ∈ WALL := wl1 193 (by decide +kernel) rfl
theorem wd_241 : (Jvm.Cond.methodLink "StormBasinLaw" (233 : Nat) ({ cls := "StormBasin", name := "houseCount", desc := "()I" } : Jvm.MethodName)) ∈ WALL := wl1 194 (by decide +kernel) rfl
theorem wd_242 : (Jvm.Cond.instanceMethod ({ cls := "StormBasin", name := "houseCount", desc := "()I" } : Jvm.MethodName)) ∈ WALL := wl1 195 (by decide +kernel) rfl
theorem wd_243 : (Jvm.Cond.selects "StormBasin" ({ cls := "StormBasin", name := "houseCount", desc := "()I" } : Jvm.MethodName) ({ cls := "StormBasin", name := "houseCount", desc := "()I" } : Jvm.MethodName)) ∈ WALL := wl1 196 (by decide +kernel) rfl
theorem wd_244 : (Jvm.Cond.code ({ cls := "StormBasin", name := "houseCount", desc := "()I" } : Jvm.MethodName) prog_1_method_30_code (1 : Nat) (Option.some Jvm.ClassFile.FieldType.int)) ∈ WALL := wl1 197 (by decide +kernel) rfl
theorem wd_245 : (Jvm.Cond.methodLink "StormBasinLaw" (255 : Nat) ({ cls := "StormBasin", name := "paidTotal", desc := "()J" } : Jvm.MethodName)) ∈ WALL := wl1 198 (by decide +kernel) rfl
theorem wd_246 : (Jvm.Cond.instanceMethod ({ cls := "StormBasin", name := "paidTotal", desc := "()J" } : Jvm.MethodName)) ∈ WALL := wl1 199 (by decide +kernel) rfl
theorem wd_247 : (Jvm.Cond.selects "StormBasin" ({ cls := "StormBasin", name := "paidTotal", desc := "()J" } : Jvm.MethodName) ({ cls := "StormBasin", name := "paidTotal", desc := "()J" } : Jvm.MethodName)) ∈ WALL := wl1 200 (by decide +kernel) rfl
theorem wd_248 : (Jvm.Cond.code ({ cls := "StormBasin", name := "paidTotal", desc := "()J" } : Jvm.MethodName) prog_1_method_37_code (4 : Nat) (Option.some Jvm.ClassFile.FieldType.long)) ∈ WALL := wl1 201 (by decide +kernel) rfl
theorem wd_249 : (Jvm.Cond.methodLink "StormBasin" (127 : Nat) ({ cls := "java/util/ArrayList", name := "get", desc := "(I)Ljava/lang/Object;" } : Jvm.MethodName)) ∈ WALL := wl1 202 (by decide +kernel) rfl
theorem wd_250 : (Jvm.Cond.instanceMethod ({ cls := "java/util/ArrayList", name := "get", desc := "(I)Ljava/lang/Object;" } : Jvm.MethodName)) ∈ WALL := wl1 203 (by decide +kernel) rfl
theorem wd_251 : (Jvm.Cond.selects "java/util/ArrayList" ({ cls := "java/util/ArrayList", name := "get", desc := "(I)Ljava/lang/Object;" } : Jvm.MethodName) ({ cls := "java/util/ArrayList", name := "get", desc := "(I)Ljava/lang/Object;" } : Jvm.MethodName)) ∈ WALL := wl1 204 (by decide +kernel) rfl
theorem wd_252 : (Jvm.Cond.code ({ cls := "java/util/ArrayList", name := "get", desc := "(I)Ljava/lang/Object;" } : Jvm.MethodName) prog_38_method_20_code (2 : Nat) (Option.some (Jvm.ClassFile.FieldType.object "java/lang/Object"))) ∈ WALL := wl1 205 (by decide +kernel) rfl
theorem wd_253 : (Jvm.Cond.methodLink "java/util/ArrayList" (118 : Nat) ({ cls := "java/util/Objects", name := "checkIndex", desc := "(II)I" } : Jvm.MethodName)) ∈ WALL := wl1 206 (by decide +kernel) rfl
theorem wd_254 : (Jvm.Cond.static ({ cls := "java/util/Objects", name := "checkIndex", desc := "(II)I" } : Jvm.MethodName)) ∈ WALL := wl1 207 (by decide +kernel) rfl
theorem wd_255 : (Jvm.Cond.code ({ cls := "java/util/Objects", name := "checkIndex", desc := "(II)I" } : Jvm.MethodName) prog_43_method_17_code (2 : Nat) (Option.some Jvm.ClassFile.FieldType.int)) ∈ WALL := wl1 208 (by decide +kernel) rfl
theorem wd_256 : (Jvm.Cond.methodLink "java/util/Objects" (105 : Nat) ({ cls := "jdk/internal/util/Preconditions", name := "checkIndex", desc := "(IILjava/util/function/BiFunction;)I" } : Jvm.MethodName)) ∈ WALL := wl1 209 (by decide +kernel) rfl
theorem wd_257 : (Jvm.Cond.static ({ cls := "jdk/internal/util/Preconditions", name := "checkIndex", desc := "(IILjava/util/function/BiFunction;)I" } : Jvm.MethodName)) ∈ WALL := wl1 210 (by decide +kernel) rfl
theorem wd_258 : (Jvm.Cond.code ({ cls := "jdk/internal/util/Preconditions", name := "checkIndex", desc := "(IILjava/util/function/BiFunction;)I" } : Jvm.MethodName) prog_47_method_11_code (3 : Nat) (Option.some Jvm.ClassFile.FieldType.int)) ∈ WALL := wl1 211 (by decide +kernel) rfl
theorem wd_259 : (Jvm.Cond.methodLink "java/util/ArrayList" (123 : Nat) ({ cls := "java/util/ArrayList", name := "elementData", desc := "(I)Ljava/lang/Object;" } : Jvm.MethodName)) ∈ WALL := wl1 212 (by decide +kernel) rfl
theorem wd_260 : (Jvm.Cond.instanceMethod ({ cls := "java/util/ArrayList", name := "elementData", desc := "(I)Ljava/lang/Object;" } : Jvm.MethodName)) ∈ WALL := wl1 213 (by decide +kernel) rfl
theorem wd_261 : (Jvm.Cond.selects "java/util/ArrayList" ({ cls := "java/util/ArrayList", name := "elementData", desc := "(I)Ljava/lang/Object;" } : Jvm.MethodName) ({ cls := "java/util/ArrayList", name := "elementData", desc := "(I)Ljava/lang/Object;" } : Jvm.MethodName)) ∈ WALL := wl1 214 (by decide +kernel) rfl
theorem wd_262 : (Jvm.Cond.code ({ cls := "java/util/ArrayList", name := "elementData", desc := "(I)Ljava/lang/Object;" } : Jvm.MethodName) prog_38_method_18_code (2 : Nat) (Option.some (Jvm.ClassFile.FieldType.object "java/lang/Object"))) ∈ WALL := wl1 215 (by decide +kernel) rfl
theorem wd_263 : (Jvm.Cond.classLink "StormBasin" (210 : Nat) "StormBasin$House") ∈ WALL := wl1 216 (by decide +kernel) rfl
theorem wd_264 : (Jvm.Cond.methodLink "StormBasinLaw" (264 : Nat) ({ cls := "StormBasin", name := "floodedWith", desc := "()I" } : Jvm.MethodName)) ∈ WALL := wl1 217 (by decide +kernel) rfl
theorem wd_265 : (Jvm.Cond.instanceMethod ({ cls := "StormBasin", name := "floodedWith", desc := "()I" } : Jvm.MethodName)) ∈ WALL := wl1 218 (by decide +kernel) rfl
theorem wd_266 : (Jvm.Cond.selects "StormBasin" ({ cls := "StormBasin", name := "floodedWith", desc := "()I" } : Jvm.MethodName) ({ cls := "StormBasin", name := "floodedWith", desc := "()I" } : Jvm.MethodName)) ∈ WALL := wl1 219 (by decide +kernel) rfl
theorem wd_267 : (Jvm.Cond.code ({ cls := "StormBasin", name := "floodedWith", desc := "()I" } : Jvm.MethodName) prog_1_method_39_code (1 : Nat) (Option.some Jvm.ClassFile.FieldType.int)) ∈ WALL := wl1 220 (by decide +kernel) rfl
theorem wd_268 : (Jvm.Cond.methodLink "StormBasin" (263 : Nat) ({ cls := "StormBasin", name := "tryPastRain", desc := "(II)I" } : Jvm.MethodName)) ∈ WALL := wl1 221 (by decide +kernel) rfl
theorem wd_270 : (Jvm.Cond.instanceMethod ({ cls := "StormBasin", name := "tryPastRain", desc := "(II)I" } : Jvm.MethodName)) ∈ WALL := wl1 223 (by decide +kernel) rfl
theorem wd_271 : (Jvm.Cond.code ({ cls := "StormBasin", name := "tryPastRain", desc := "(II)I" } : Jvm.MethodName) prog_1_method_55_code (5 : Nat) (Option.some Jvm.ClassFile.FieldType.int)) ∈ WALL := wl1 224 (by decide +kernel) rfl
theorem wd_272 : (Jvm.Cond.methodLink "StormBasin" (327 : Nat) ({ cls := "StormBasin$Water", name := "clear", desc := "()V" } : Jvm.MethodName)) ∈ WALL := wl1 225 (by decide +kernel) rfl
theorem wd_273 : (Jvm.Cond.instanceMethod ({ cls := "StormBasin$Water", name := "clear", desc := "()V" } : Jvm.MethodName)) ∈ WALL := wl1 226 (by decide +kernel) rfl
theorem wd_274 : (Jvm.Cond.selects "StormBasin$Water" ({ cls := "StormBasin$Water", name := "clear", desc := "()V" } : Jvm.MethodName) ({ cls := "StormBasin$Water", name := "clear", desc := "()V" } : Jvm.MethodName)) ∈ WALL := wl1 227 (by decide +kernel) rfl
theorem wd_275 : (Jvm.Cond.code ({ cls := "StormBasin$Water", name := "clear", desc := "()V" } : Jvm.MethodName) prog_6_method_2_code (1 : Nat) (Option.none : Option Jvm.ClassFile.FieldType)) ∈ WALL := wl1 228 (by decide +kernel) rfl
theorem wd_276 : (Jvm.Cond.methodLink "StormBasin$Water" (21 : Nat) ({ cls := "java/util/Arrays", name := "fill", desc := "([II)V" } : Jvm.MethodName)) ∈ WALL := wl1 229 (by decide +kernel) rfl
theorem wd_277 : (Jvm.Cond.static ({ cls := "java/util/Arrays", name := "fill", desc := "([II)V" } : Jvm.MethodName)) ∈ WALL := wl1 230 (by decide +kernel) rfl
theorem wd_278 : (Jvm.Cond.code ({ cls := "java/util/Arrays", name := "fill", desc := "([II)V" } : Jvm.MethodName) prog_39_method_103_code (4 : Nat) (Option.none : Option Jvm.ClassFile.FieldType)) ∈ WALL := wl1 231 (by decide +kernel) rfl
theorem wd_279 : (Jvm.Cond.methodLink "StormBasin" (319 : Nat) ({ cls := "StormBasin", name := "moveWater", desc := "(LStormBasin$Water;III)V" } : Jvm.MethodName)) ∈ WALL := wl1 232 (by decide +kernel) rfl
theorem wd_281 : (Jvm.Cond.instanceMethod ({ cls := "StormBasin", name := "moveWater", desc := "(LStormBasin$Water;III)V" } : Jvm.MethodName)) ∈ WALL := wl1 234 (by decide +kernel) rfl
theorem wd_282 : (Jvm.Cond.code ({ cls := "StormBasin", name := "moveWater", desc := "(LStormBasin$Water;III)V" } : Jvm.MethodName) prog_1_method_56_code (7 : Nat) (Option.none : Option Jvm.ClassFile.FieldType)) ∈ WALL := wl1 235 (by decide +kernel) rfl
theorem wd_283 : (Jvm.Cond.classLink "StormBasin" (71 : Nat) "StormBasin$Basin") ∈ WALL := wl1 236 (by decide +kernel) rfl
theorem wd_284 : (Jvm.Cond.methodLink "StormBasin" (134 : Nat) ({ cls := "StormBasin", name := "openingBy", desc := "(LStormBasin$Water;I)I" } : Jvm.MethodName)) ∈ WALL := wl1 237 (by decide +kernel) rfl
theorem wd_286 : (Jvm.Cond.instanceMethod ({ cls := "StormBasin", name := "openingBy", desc := "(LStormBasin$Water;I)I" } : Jvm.MethodName)) ∈ WALL := wl1 239 (by decide +kernel) rfl
theorem wd_287 : (Jvm.Cond.code ({ cls := "StormBasin", name := "openingBy", desc := "(LStormBasin$Water;I)I" } : Jvm.MethodName) prog_1_method_57_code (5 : Nat) (Option.some Jvm.ClassFile.FieldType.int)) ∈ WALL := wl2 0 (by decide +kernel) rfl
theorem wd_288 : (Jvm.Cond.classLink "StormBasin" (115 : Nat) "StormBasin$Rule") ∈ WALL := wl2 1 (by decide +kernel) rfl
theorem wd_289 : (Jvm.Cond.methodLink "StormBasin" (130 : Nat) ({ cls := "StormBasin", name := "holdsBy", desc := "(LStormBasin$Water;LStormBasin$Rule;)Z" } : Jvm.MethodName)) ∈ WALL := wl2 2 (by decide +kernel) rfl
theorem wd_291 : (Jvm.Cond.instanceMethod ({ cls := "StormBasin", name := "holdsBy", desc := "(LStormBasin$Water;LStormBasin$Rule;)Z" } : Jvm.MethodName)) ∈ WALL := wl2 4 (by decide +kernel) rfl
theorem wd_292 : (Jvm.Cond.code ({ cls := "StormBasin", name := "holdsBy", desc := "(LStormBasin$Water;LStormBasin$Rule;)Z" } : Jvm.MethodName) prog_1_method_58_code (3 : Nat) (Option.some Jvm.ClassFile.FieldType.boolean)) ∈ WALL := wl2 5 (by decide +kernel) rfl
theorem wd_293 : (Jvm.Cond.methodLink "StormBasin" (163 : Nat) ({ cls := "StormBasin", name := "levelBy", desc := "(LStormBasin$Water;I)I" } : Jvm.MethodName)) ∈ WALL := wl2 6 (by decide +kernel) rfl
theorem wd_295 : (Jvm.Cond.instanceMethod ({ cls := "StormBasin", name := "levelBy", desc := "(LStormBasin$Water;I)I" } : Jvm.MethodName)) ∈ WALL := wl2 8 (by decide +kernel) rfl
theorem wd_296 : (Jvm.Cond.code ({ cls := "StormBasin", name := "levelBy", desc := "(LStormBasin$Water;I)I" } : Jvm.MethodName) prog_1_method_59_code (4 : Nat) (Option.some Jvm.ClassFile.FieldType.int)) ∈ WALL := wl2 9 (by decide +kernel) rfl
theorem wd_297 : (Jvm.Cond.methodLink "StormBasin" (336 : Nat) ({ cls := "java/lang/Math", name := "min", desc := "(II)I" } : Jvm.MethodName)) ∈ WALL := wl2 10 (by decide +kernel) rfl
theorem wd_298 : (Jvm.Cond.static ({ cls := "java/lang/Math", name := "min", desc := "(II)I" } : Jvm.MethodName)) ∈ WALL := wl2 11 (by decide +kernel) rfl
theorem wd_299 : (Jvm.Cond.code ({ cls := "java/lang/Math", name := "min", desc := "(II)I" } : Jvm.MethodName) prog_23_method_69_code (2 : Nat) (Option.some Jvm.ClassFile.FieldType.int)) ∈ WALL := wl2 12 (by decide +kernel) rfl
theorem wd_300 : (Jvm.Cond.methodLink "StormBasin" (344 : Nat) ({ cls := "StormBasin$Water", name := "runThroughGate", desc := "(II)V" } : Jvm.MethodName)) ∈ WALL := wl2 13 (by decide +kernel) rfl
theorem wd_301 : (Jvm.Cond.instanceMethod ({ cls := "StormBasin$Water", name := "runThroughGate", desc := "(II)V" } : Jvm.MethodName)) ∈ WALL := wl2 14 (by decide +kernel) rfl
theorem wd_302 : (Jvm.Cond.selects "StormBasin$Water" ({ cls := "StormBasin$Water", name := "runThroughGate", desc := "(II)V" } : Jvm.MethodName) ({ cls := "StormBasin$Water", name := "runThroughGate", desc := "(II)V" } : Jvm.MethodName)) ∈ WALL := wl2 15 (by decide +kernel) rfl
theorem wd_303 : (Jvm.Cond.code ({ cls := "StormBasin$Water", name := "runThroughGate", desc := "(II)V" } : Jvm.MethodName) prog_6_method_4_code (3 : Nat) (Option.none : Option Jvm.ClassFile.FieldType)) ∈ WALL := wl2 16 (by decide +kernel) rfl
theorem wd_304 : (Jvm.Cond.methodLink "StormBasin" (99 : Nat) ({ cls := "StormBasin$Basin", name := "capacity", desc := "()I" } : Jvm.MethodName)) ∈ WALL := wl2 17 (by decide +kernel) rfl
theorem wd_305 : (Jvm.Cond.instanceMethod ({ cls := "StormBasin$Basin", name := "capacity", desc := "()I" } : Jvm.MethodName)) ∈ WALL := wl2 18 (by decide +kernel) rfl
theorem wd_306 : (Jvm.Cond.selects "StormBasin$Basin" ({ cls := "StormBasin$Basin", name := "capacity", desc := "()I" } : Jvm.MethodName) ({ cls := "StormBasin$Basin", name := "capacity", desc := "()I" } : Jvm.MethodName)) ∈ WALL := wl2 19 (by decide +kernel) rfl
theorem wd_307 : (Jvm.Cond.code ({ cls := "StormBasin$Basin", name := "capacity", desc := "()I" } : Jvm.MethodName) prog_2_method_2_code (1 : Nat) (Option.some Jvm.ClassFile.FieldType.int)) ∈ WALL := wl2 20 (by decide +kernel) rfl
theorem wd_308 : (Jvm.Cond.methodLink "StormBasin" (348 : Nat) ({ cls := "StormBasin$Water", name := "settle", desc := "(II)V" } : Jvm.MethodName)) ∈ WALL := wl2 21 (by decide +kernel) rfl
theorem wd_309 : (Jvm.Cond.instanceMethod ({ cls := "StormBasin$Water", name := "settle", desc := "(II)V" } : Jvm.MethodName)) ∈ WALL := wl2 22 (by decide +kernel) rfl
theorem wd_310 : (Jvm.Cond.selects "StormBasin$Water" ({ cls := "StormBasin$Water", name := "settle", desc := "(II)V" } : Jvm.MethodName) ({ cls := "StormBasin$Water", name := "settle", desc := "(II)V" } : Jvm.MethodName)) ∈ WALL := wl2 23 (by decide +kernel) rfl
theorem wd_311 : (Jvm.Cond.code ({ cls := "StormBasin$Water", name := "settle", desc := "(II)V" } : Jvm.MethodName) prog_6_method_5_code (5 : Nat) (Option.none : Option Jvm.ClassFile.FieldType)) ∈ WALL := wl2 24 (by decide +kernel) rfl
theorem wd_312 : (Jvm.Cond.methodLink "StormBasin$Water" (31 : Nat) ({ cls := "java/lang/Math", name := "min", desc := "(II)I" } : Jvm.MethodName)) ∈ WALL := wl2 25 (by decide +kernel) rfl
theorem wd_313 : (Jvm.Cond.methodLink "StormBasin" (323 : Nat) ({ cls := "StormBasin", name := "wetCellsBy", desc := "(LStormBasin$Water;)I" } : Jvm.MethodName)) ∈ WALL := wl2 26 (by decide +kernel) rfl
theorem wd_315 : (Jvm.Cond.instanceMethod ({ cls := "StormBasin", name := "wetCellsBy", desc := "(LStormBasin$Water;)I" } : Jvm.MethodName)) ∈ WALL := wl2 28 (by decide +kernel) rfl
theorem wd_316 : (Jvm.Cond.code ({ cls := "StormBasin", name := "wetCellsBy", desc := "(LStormBasin$Water;)I" } : Jvm.MethodName) prog_1_method_60_code (4 : Nat) (Option.some Jvm.ClassFile.FieldType.int)) ∈ WALL := wl2 29 (by decide +kernel) rfl
theorem wd_317 : (Jvm.Cond.methodLink "StormBasin" (195 : Nat) ({ cls := "StormBasin$Street", name := "countWet", desc := "(I)I" } : Jvm.MethodName)) ∈ WALL := wl2 30 (by decide +kernel) rfl
theorem wd_318 : (Jvm.Cond.instanceMethod ({ cls := "StormBasin$Street", name := "countWet", desc := "(I)I" } : Jvm.MethodName)) ∈ WALL := wl2 31 (by decide +kernel) rfl
theorem wd_319 : (Jvm.Cond.selects "StormBasin$Street" ({ cls := "StormBasin$Street", name := "countWet", desc := "(I)I" } : Jvm.MethodName) ({ cls := "StormBasin$Street", name := "countWet", desc := "(I)I" } : Jvm.MethodName)) ∈ WALL := wl2 32 (by decide +kernel) rfl
theorem wd_320 : (Jvm.Cond.code ({ cls := "StormBasin$Street", name := "countWet", desc := "(I)I" } : Jvm.MethodName) prog_5_method_5_code (4 : Nat) (Option.some Jvm.ClassFile.FieldType.int)) ∈ WALL := wl2 33 (by decide +kernel) rfl
theorem wd_321 : (Jvm.Cond.methodLink "StormBasin$Street" (41 : Nat) ({ cls := "StormBasin$Street", name := "isWet", desc := "(II)Z" } : Jvm.MethodName)) ∈ WALL := wl2 34 (by decide +kernel) rfl
theorem wd_322 : (Jvm.Cond.instanceMethod ({ cls := "StormBasin$Street", name := "isWet", desc := "(II)Z" } : Jvm.MethodName)) ∈ WALL := wl2 35 (by decide +kernel) rfl
theorem wd_323 : (Jvm.Cond.selects "StormBasin$Street" ({ cls := "StormBasin$Street", name := "isWet", desc := "(II)Z" } : Jvm.MethodName) ({ cls := "StormBasin$Street", name := "isWet", desc := "(II)Z" } : Jvm.MethodName)) ∈ WALL := wl2 36 (by decide +kernel) rfl
theorem wd_324 : (Jvm.Cond.code ({ cls := "StormBasin$Street", name := "isWet", desc := "(II)Z" } : Jvm.MethodName) prog_5_method_4_code (3 : Nat) (Option.some Jvm.ClassFile.FieldType.boolean)) ∈ WALL := wl2 37 (by decide +kernel) rfl
theorem wd_325 : (Jvm.Cond.methodLink "StormBasinLaw" (128 : Nat) ({ cls := "StormBasinLaw", name := "addBasin", desc := "(LStormBasin;IIIII[J)I" } : Jvm.MethodName)) ∈ WALL := wl2 38 (by decide +kernel) rfl
theorem wd_326 : (Jvm.Cond.static ({ cls := "StormBasinLaw", name := "addBasin", desc := "(LStormBasin;IIIII[J)I" } : Jvm.MethodName)) ∈ WALL := wl2 39 (by decide +kernel) rfl
theorem wd_327 : (Jvm.Cond.codeWith ({ cls := "StormBasinLaw", name := "addBasin", desc := "(LStormBasin;IIIII[J)I" } : Jvm.MethodName) method_3_code (8 : Nat) (Option.some Jvm.ClassFile.FieldType.int) [((0 : Nat), (16 : Nat), (19 : Nat), (13 : Nat)), ((0 : Nat), (16 : Nat), (23 : Nat), (15 : Nat)), ((0 : Nat), (16 : Nat), (27 : Nat), (17 : Nat))]) ∈ WALL := wl2 40 (by decide +kernel) rfl
theorem wd_328 : (Jvm.Cond.classLink "StormBasinLaw" (13 : Nat) "java/lang/IndexOutOfBoundsException") ∈ WALL := wl2 41 (by decide +kernel) rfl
theorem wd_329 : (Jvm.Cond.instantiable "java/lang/ArrayIndexOutOfBoundsException" (6 : Nat)) ∈ WALL := wl2 42 (by decide +kernel) rfl
theorem wd_330 : (Jvm.Cond.instanceMethod ({ cls := "java/lang/ArrayIndexOutOfBoundsException", name := "<init>", desc := "(Ljava/lang/String;)V" } : Jvm.MethodName)) ∈ WALL := wl2 43 (by decide +kernel) rfl
theorem wd_331 : (Jvm.Cond.code ({ cls := "java/lang/ArrayIndexOutOfBoundsException", name := "<init>", desc := "(Ljava/lang/String;)V" } : Jvm.MethodName) prog_13_method_2_code (2 : Nat) (Option.none : Option Jvm.ClassFile.FieldType)) ∈ WALL := wl2 44 (by decide +kernel) rfl
theorem wd_332 : (Jvm.Cond.methodLink "java/lang/ArrayIndexOutOfBoundsException" (7 : Nat) ({ cls := "java/lang/IndexOutOfBoundsException", name := "<init>", desc := "(Ljava/lang/String;)V" } : Jvm.MethodName)) ∈ WALL := wl2 45 (by decide +kernel) rfl
theorem wd_333 : (Jvm.Cond.instanceMethod ({ cls := "java/lang/IndexOutOfBoundsException", name := "<init>", desc := "(Ljava/lang/String;)V" } : Jvm.MethodName)) ∈ WALL := wl2 46 (by decide +kernel) rfl
theorem wd_334 : (Jvm.Cond.code ({ cls := "java/lang/IndexOutOfBoundsException", name := "<init>", desc := "(Ljava/lang/String;)V" } : Jvm.MethodName) prog_20_method_2_code (2 : Nat) (Option.none : Option Jvm.ClassFile.FieldType)) ∈ WALL := wl2 47 (by decide +kernel) rfl
theorem wd_335 : (Jvm.Cond.methodLink "java/lang/IndexOutOfBoundsException" (7 : Nat) ({ cls := "java/lang/RuntimeException", name := "<init>", desc := "(Ljava/lang/String;)V" } : Jvm.MethodName)) ∈ WALL := wl2 48 (by decide +kernel) rfl
theorem wd_336 : (Jvm.Cond.instanceMethod ({ cls := "java/lang/RuntimeException", name := "<init>", desc := "(Ljava/lang/String;)V" } : Jvm.MethodName)) ∈ WALL := wl2 49 (by decide +kernel) rfl
theorem wd_337 : (Jvm.Cond.code ({ cls := "java/lang/RuntimeException", name := "<init>", desc := "(Ljava/lang/String;)V" } : Jvm.MethodName) prog_25_method_2_code (2 : Nat) (Option.none : Option Jvm.ClassFile.FieldType)) ∈ WALL := wl2 50 (by decide +kernel) rfl
theorem wd_338 : (Jvm.Cond.methodLink "java/lang/RuntimeException" (7 : Nat) ({ cls := "java/lang/Exception", name := "<init>", desc := "(Ljava/lang/String;)V" } : Jvm.MethodName)) ∈ WALL := wl2 51 (by decide +kernel) rfl
theorem wd_339 : (Jvm.Cond.instanceMethod ({ cls := "java/lang/Exception", name := "<init>", desc := "(Ljava/lang/String;)V" } : Jvm.MethodName)) ∈ WALL := wl2 52 (by decide +kernel) rfl
theorem wd_340 : (Jvm.Cond.code ({ cls := "java/lang/Exception", name := "<init>", desc := "(Ljava/lang/String;)V" } : Jvm.MethodName) prog_17_method_2_code (2 : Nat) (Option.none : Option Jvm.ClassFile.FieldType)) ∈ WALL := wl2 53 (by decide +kernel) rfl
theorem wd_341 : (Jvm.Cond.methodLink "java/lang/Exception" (7 : Nat) ({ cls := "java/lang/Throwable", name := "<init>", desc := "(Ljava/lang/String;)V" } : Jvm.MethodName)) ∈ WALL := wl2 54 (by decide +kernel) rfl
theorem wd_342 : (Jvm.Cond.instanceMethod ({ cls := "java/lang/Throwable", name := "<init>", desc := "(Ljava/lang/String;)V" } : Jvm.MethodName)) ∈ WALL := wl2 55 (by decide +kernel) rfl
theorem wd_343 : (Jvm.Cond.code ({ cls := "java/lang/Throwable", name := "<init>", desc := "(Ljava/lang/String;)V" } : Jvm.MethodName) prog_32_method_2_code (2 : Nat) (Option.none : Option Jvm.ClassFile.FieldType)) ∈ WALL := wl2 56 (by decide +kernel) rfl
theorem wd_344 : (Jvm.Cond.methodLink "java/lang/Throwable" (1 : Nat) ({ cls := "java/lang/Object", name := "<init>", desc := "()V" } : Jvm.MethodName)) ∈ WALL := wl2 57 (by decide +kernel) rfl
theorem wd_345 : (Jvm.Cond.fieldLink "java/lang/Throwable" (13 : Nat) "java/lang/Throwable" "UNASSIGNED_STACK" "[Ljava/lang/StackTraceElement;") ∈ WALL := wl2 58 (by decide +kernel) rfl
theorem wd_347 : (Jvm.Cond.fieldLink "java/lang/Throwable" (20 : Nat) "java/lang/Throwable" "SUPPRESSED_SENTINEL" "Ljava/util/List;") ∈ WALL := wl2 60 (by decide +kernel) rfl
theorem wd_349 : (Jvm.Cond.methodLink "java/lang/Throwable" (27 : Nat) ({ cls := "java/lang/Throwable", name := "fillInStackTrace", desc := "()Ljava/lang/Throwable;" } : Jvm.MethodName)) ∈ WALL := wl2 62 (by decide +kernel) rfl
theorem wd_350 : (Jvm.Cond.instanceMethod ({ cls := "java/lang/Throwable", name := "fillInStackTrace", desc := "()Ljava/lang/Throwable;" } : Jvm.MethodName)) ∈ WALL := wl2 63 (by decide +kernel) rfl
theorem wd_351 : (Jvm.Cond.sameMethod "java/lang/Throwable" "java/lang/Throwable" "fillInStackTrace" "()Ljava/lang/Throwable;") ∈ WALL := wl2 64 (by decide +kernel) rfl
theorem wd_352 : (Jvm.Cond.selects "java/lang/ArithmeticException" ({ cls := "java/lang/Throwable", name := "fillInStackTrace", desc := "()Ljava/lang/Throwable;" } : Jvm.MethodName) ({ cls := "java/lang/Throwable", name := "fillInStackTrace", desc := "()Ljava/lang/Throwable;" } : Jvm.MethodName)) ∈ WALL := wl2 65 (by decide +kernel) rfl
theorem wd_353 : (Jvm.Cond.selects "java/lang/ArrayIndexOutOfBoundsException" ({ cls := "java/lang/Throwable", name := "fillInStackTrace", desc := "()Ljava/lang/Throwable;" } : Jvm.MethodName) ({ cls := "java/lang/Throwable", name := "fillInStackTrace", desc := "()Ljava/lang/Throwable;" } : Jvm.MethodName)) ∈ WALL := wl2 66 (by decide +kernel) rfl
theorem wd_354 : (Jvm.Cond.selects "java/lang/IllegalArgumentException" ({ cls := "java/lang/Throwable", name := "fillInStackTrace", desc := "()Ljava/lang/Throwable;" } : Jvm.MethodName) ({ cls := "java/lang/Throwable", name := "fillInStackTrace", desc := "()Ljava/lang/Throwable;" } : Jvm.MethodName)) ∈ WALL := wl2 67 (by decide +kernel) rfl
theorem wd_355 : (Jvm.Cond.selects "java/lang/IllegalStateException" ({ cls := "java/lang/Throwable", name := "fillInStackTrace", desc := "()Ljava/lang/Throwable;" } : Jvm.MethodName) ({ cls := "java/lang/Throwable", name := "fillInStackTrace", desc := "()Ljava/lang/Throwable;" } : Jvm.MethodName)) ∈ WALL := wl2 68 (by decide +kernel) rfl
theorem wd_356 : (Jvm.Cond.selects "java/lang/IndexOutOfBoundsException" ({ cls := "java/lang/Throwable", name := "fillInStackTrace", desc := "()Ljava/lang/Throwable;" } : Jvm.MethodName) ({ cls := "java/lang/Throwable", name := "fillInStackTrace", desc := "()Ljava/lang/Throwable;" } : Jvm.MethodName)) ∈ WALL := wl2 69 (by decide +kernel) rfl
theorem wd_357 : (Jvm.Cond.selects "java/lang/StringIndexOutOfBoundsException" ({ cls := "java/lang/Throwable", name := "fillInStackTrace", desc := "()Ljava/lang/Throwable;" } : Jvm.MethodName) ({ cls := "java/lang/Throwable", name := "fillInStackTrace", desc := "()Ljava/lang/Throwable;" } : Jvm.MethodName)) ∈ WALL := wl2 70 (by decide +kernel) rfl
theorem wd_358 : (Jvm.Cond.selects "java/lang/UnsupportedOperationException" ({ cls := "java/lang/Throwable", name := "fillInStackTrace", desc := "()Ljava/lang/Throwable;" } : Jvm.MethodName) ({ cls := "java/lang/Throwable", name := "fillInStackTrace", desc := "()Ljava/lang/Throwable;" } : Jvm.MethodName)) ∈ WALL := wl2 71 (by decide +kernel) rfl
theorem wd_359 : (Jvm.Cond.selects "java/util/NoSuchElementException" ({ cls := "java/lang/Throwable", name := "fillInStackTrace", desc := "()Ljava/lang/Throwable;" } : Jvm.MethodName) ({ cls := "java/lang/Throwable", name := "fillInStackTrace", desc := "()Ljava/lang/Throwable;" } : Jvm.MethodName)) ∈ WALL := wl2 72 (by decide +kernel) rfl
theorem wd_360 : (Jvm.Cond.codeSync ({ cls := "java/lang/Throwable", name := "fillInStackTrace", desc := "()Ljava/lang/Throwable;" } : Jvm.MethodName) prog_32_method_18_code (1 : Nat) (Option.some (Jvm.ClassFile.FieldType.object "java/lang/Throwable"))) ∈ WALL := wl2 73 (by decide +kernel) rfl
theorem wd_361 : (Jvm.Cond.methodLink "java/lang/Throwable" (202 : Nat) ({ cls := "java/lang/Throwable", name := "fillInStackTrace", desc := "(I)Ljava/lang/Throwable;" } : Jvm.MethodName)) ∈ WALL := wl2 74 (by decide +kernel) rfl
theorem wd_363 : (Jvm.Cond.instanceMethod ({ cls := "java/lang/Throwable", name := "fillInStackTrace", desc := "(I)Ljava/lang/Throwable;" } : Jvm.MethodName)) ∈ WALL := wl2 76 (by decide +kernel) rfl
theorem wd_364 : (Jvm.Cond.instantiable "java/lang/Throwable" (6 : Nat)) ∈ WALL := wl2 77 (by decide +kernel) rfl
theorem wd_365 : (Jvm.Cond.native ({ cls := "java/lang/Throwable", name := "fillInStackTrace", desc := "(I)Ljava/lang/Throwable;" } : Jvm.MethodName)) ∈ WALL := wl2 78 (by decide +kernel) rfl
theorem wd_366 : (Jvm.Cond.fieldLink "java/lang/Throwable" (198 : Nat) "java/lang/Throwable" "backtrace" "Ljava/lang/Object;") ∈ WALL := wl2 79 (by decide +kernel) rfl
theorem wd_367 : (Jvm.Cond.fieldLink "java/lang/Throwable" (31 : Nat) "java/lang/Throwable" "detailMessage" "Ljava/lang/String;") ∈ WALL := wl2 80 (by decide +kernel) rfl
theorem wd_368 : (Jvm.Cond.fieldLink "java/lang/Throwable" (7 : Nat) "java/lang/Throwable" "cause" "Ljava/lang/Throwable;") ∈ WALL := wl2 81 (by decide +kernel) rfl
theorem wd_369 : (Jvm.Cond.fieldLink "java/lang/Throwable" (17 : Nat) "java/lang/Throwable" "stackTrace" "[Ljava/lang/StackTraceElement;") ∈ WALL := wl2 82 (by decide +kernel) rfl
theorem wd_370 : (Jvm.Cond.fieldLink "java/lang/Throwable" (24 : Nat) "java/lang/Throwable" "suppressedExceptions" "Ljava/util/List;") ∈ WALL := wl2 83 (by decide +kernel) rfl
theorem wd_371 : (Jvm.Cond.lays "java/lang/ArrayIndexOutOfBoundsException" "java/lang/Throwable" "backtrace" "Ljava/lang/Object;") ∈ WALL := wl2 84 (by decide +kernel) rfl
theorem wd_373 : (Jvm.Cond.lays "java/lang/ArrayIndexOutOfBoundsException" "java/lang/Throwable" "detailMessage" "Ljava/lang/String;") ∈ WALL := wl2 86 (by decide +kernel) rfl
theorem wd_375 : (Jvm.Cond.lays "java/lang/ArrayIndexOutOfBoundsException" "java/lang/Throwable" "cause" "Ljava/lang/Throwable;") ∈ WALL := wl2 88 (by decide +kernel) rfl
theorem wd_377 : (Jvm.Cond.lays "java/lang/ArrayIndexOutOfBoundsException" "java/lang/Throwable" "stackTrace" "[Ljava/lang/StackTraceElement;") ∈ WALL := wl2 90 (by decide +kernel) rfl
theorem wd_379 : (Jvm.Cond.lays "java/lang/ArrayIndexOutOfBoundsException" "java/lang/Throwable" "depth" "I") ∈ WALL := wl2 92 (by decide +kernel) rfl
theorem wd_381 : (Jvm.Cond.lays "java/lang/ArrayIndexOutOfBoundsException" "java/lang/Throwable" "suppressedExceptions" "Ljava/util/List;") ∈ WALL := wl2 94 (by decide +kernel) rfl
theorem wd_383 : (Jvm.Cond.superclass "java/lang/ArrayIndexOutOfBoundsException" "java/lang/IndexOutOfBoundsException") ∈ WALL := wl2 96 (by decide +kernel) rfl
theorem wd_393 : (Jvm.Cond.selects "java/lang/ArrayIndexOutOfBoundsException" ({ cls := "java/lang/Throwable", name := "fillInStackTrace", desc := "(I)Ljava/lang/Throwable;" } : Jvm.MethodName) ({ cls := "java/lang/Throwable", name := "fillInStackTrace", desc := "(I)Ljava/lang/Throwable;" } : Jvm.MethodName)) ∈ WALL := wl2 106 (by decide +kernel) rfl
theorem wd_394 : (Jvm.Cond.lays "java/lang/Throwable" "java/lang/Throwable" "cause" "Ljava/lang/Throwable;") ∈ WALL := wl2 107 (by decide +kernel) rfl
theorem wd_395 : (Jvm.Cond.lays "java/lang/Throwable" "java/lang/Throwable" "stackTrace" "[Ljava/lang/StackTraceElement;") ∈ WALL := wl2 108 (by decide +kernel) rfl
theorem wd_396 : (Jvm.Cond.lays "java/lang/Throwable" "java/lang/Throwable" "suppressedExceptions" "Ljava/util/List;") ∈ WALL := wl2 109 (by decide +kernel) rfl
theorem wd_397 : (Jvm.Cond.lays "java/lang/Throwable" "java/lang/Throwable" "detailMessage" "Ljava/lang/String;") ∈ WALL := wl2 110 (by decide +kernel) rfl
theorem wd_398 : (Jvm.Cond.lays "java/lang/Throwable" "java/lang/Throwable" "backtrace" "Ljava/lang/Object;") ∈ WALL := wl2 111 (by decide +kernel) rfl
theorem wd_399 : (Jvm.Cond.fieldLink "java/lang/Throwable" (198 : Nat) "java/lang/Throwable" "backtrace" "Ljava/lang/Object;") ∈ WALL := wl2 112 (by decide +kernel) rfl
theorem wd_400 : (Jvm.Cond.superclass "java/lang/Throwable" "java/lang/Object") ∈ WALL := wl2 113 (by decide +kernel) rfl
theorem wd_401 : (Jvm.Cond.instanceMethod ({ cls := "java/lang/Throwable", name := "<init>", desc := "()V" } : Jvm.MethodName)) ∈ WALL := wl2 114 (by decide +kernel) rfl
theorem wd_402 : (Jvm.Cond.code ({ cls := "java/lang/Throwable", name := "<init>", desc := "()V" } : Jvm.MethodName) prog_32_method_1_code (1 : Nat) (Option.none : Option Jvm.ClassFile.FieldType)) ∈ WALL := wl2 115 (by decide +kernel) rfl
theorem wd_403 : (Jvm.Cond.instantiable "java/lang/String" (4 : Nat)) ∈ WALL := wl2 116 (by decide +kernel) rfl
theorem wd_404 : (Jvm.Cond.laysFinal "java/lang/String" "java/lang/String" "value" "[B") ∈ WALL := wl2 117 (by decide +kernel) rfl
theorem wd_406 : (Jvm.Cond.laysFinal "java/lang/String" "java/lang/String" "coder" "B") ∈ WALL := wl2 119 (by decide +kernel) rfl
theorem wd_408 : (Jvm.Cond.classLink "StormBasinLaw" (15 : Nat) "java/lang/IllegalArgumentException") ∈ WALL := wl2 121 (by decide +kernel) rfl
theorem wd_409 : (Jvm.Cond.classLink "StormBasinLaw" (17 : Nat) "java/lang/IllegalStateException") ∈ WALL := wl2 122 (by decide +kernel) rfl
theorem wd_410 : (Jvm.Cond.methodLink "StormBasinLaw" (7 : Nat) ({ cls := "StormBasin", name := "addBasin", desc := "(IIIII)I" } : Jvm.MethodName)) ∈ WALL := wl2 123 (by decide +kernel) rfl
theorem wd_411 : (Jvm.Cond.instanceMethod ({ cls := "StormBasin", name := "addBasin", desc := "(IIIII)I" } : Jvm.MethodName)) ∈ WALL := wl2 124 (by decide +kernel) rfl
theorem wd_412 : (Jvm.Cond.selects "StormBasin" ({ cls := "StormBasin", name := "addBasin", desc := "(IIIII)I" } : Jvm.MethodName) ({ cls := "StormBasin", name := "addBasin", desc := "(IIIII)I" } : Jvm.MethodName)) ∈ WALL := wl2 125 (by decide +kernel) rfl
theorem wd_413 : (Jvm.Cond.code ({ cls := "StormBasin", name := "addBasin", desc := "(IIIII)I" } : Jvm.MethodName) prog_1_method_2_code (8 : Nat) (Option.some Jvm.ClassFile.FieldType.int)) ∈ WALL := wl2 126 (by decide +kernel) rfl
theorem wd_414 : (Jvm.Cond.methodLink "StormBasin" (43 : Nat) ({ cls := "StormBasin", name := "isWithin", desc := "(III)Z" } : Jvm.MethodName)) ∈ WALL := wl2 127 (by decide +kernel) rfl
theorem wd_415 : (Jvm.Cond.static ({ cls := "StormBasin", name := "isWithin", desc := "(III)Z" } : Jvm.MethodName)) ∈ WALL := wl2 128 (by decide +kernel) rfl
theorem wd_416 : (Jvm.Cond.code ({ cls := "StormBasin", name := "isWithin", desc := "(III)Z" } : Jvm.MethodName) prog_1_method_44_code (3 : Nat) (Option.some Jvm.ClassFile.FieldType.boolean)) ∈ WALL := wl2 129 (by decide +kernel) rfl
theorem wd_417 : (Jvm.Cond.classLink "StormBasin" (47 : Nat) "java/lang/IndexOutOfBoundsException") ∈ WALL := wl2 130 (by decide +kernel) rfl
theorem wd_418 : (Jvm.Cond.instantiable "java/lang/IndexOutOfBoundsException" (6 : Nat)) ∈ WALL := wl2 131 (by decide +kernel) rfl
theorem wd_420 : (Jvm.Cond.selects "java/lang/IndexOutOfBoundsException" ({ cls := "java/lang/Throwable", name := "fillInStackTrace", desc := "(I)Ljava/lang/Throwable;" } : Jvm.MethodName) ({ cls := "java/lang/Throwable", name := "fillInStackTrace", desc := "(I)Ljava/lang/Throwable;" } : Jvm.MethodName)) ∈ WALL := wl2 133 (by decide +kernel) rfl
theorem wd_421 : (Jvm.Cond.lays "java/lang/IndexOutOfBoundsException" "java/lang/Throwable" "cause" "Ljava/lang/Throwable;") ∈ WALL := wl2 134 (by decide +kernel) rfl
theorem wd_422 : (Jvm.Cond.lays "java/lang/IndexOutOfBoundsException" "java/lang/Throwable" "stackTrace" "[Ljava/lang/StackTraceElement;") ∈ WALL := wl2 135 (by decide +kernel) rfl
theorem wd_423 : (Jvm.Cond.lays "java/lang/IndexOutOfBoundsException" "java/lang/Throwable" "suppressedExceptions" "Ljava/util/List;") ∈ WALL := wl2 136 (by decide +kernel) rfl
theorem wd_424 : (Jvm.Cond.lays "java/lang/IndexOutOfBoundsException" "java/lang/Throwable" "detailMessage" "Ljava/lang/String;") ∈ WALL := wl2 137 (by decide +kernel) rfl
theorem wd_425 : (Jvm.Cond.lays "java/lang/IndexOutOfBoundsException" "java/lang/Throwable" "backtrace" "Ljava/lang/Object;") ∈ WALL := wl2 138 (by decide +kernel) rfl
theorem wd_427 : (Jvm.Cond.methodLink "StormBasin" (51 : Nat) ({ cls := "java/lang/IndexOutOfBoundsException", name := "<init>", desc := "(Ljava/lang/String;)V" } : Jvm.MethodName)) ∈ WALL := wl2 140 (by decide +kernel) rfl
theorem wd_428 : (Jvm.Cond.lays "java/lang/IndexOutOfBoundsException" "java/lang/Throwable" "depth" "I") ∈ WALL := wl2 141 (by decide +kernel) rfl
theorem wd_429 : (Jvm.Cond.superclass "java/lang/IndexOutOfBoundsException" "java/lang/RuntimeException") ∈ WALL := wl2 142 (by decide +kernel) rfl
theorem wd_430 : (Jvm.Cond.classLink "StormBasin" (54 : Nat) "java/lang/IllegalArgumentException") ∈ WALL := wl2 143 (by decide +kernel) rfl
theorem wd_431 : (Jvm.Cond.instantiable "java/lang/IllegalArgumentException" (6 : Nat)) ∈ WALL := wl2 144 (by decide +kernel) rfl
theorem wd_433 : (Jvm.Cond.selects "java/lang/IllegalArgumentException" ({ cls := "java/lang/Throwable", name := "fillInStackTrace", desc := "(I)Ljava/lang/Throwable;" } : Jvm.MethodName) ({ cls := "java/lang/Throwable", name := "fillInStackTrace", desc := "(I)Ljava/lang/Throwable;" } : Jvm.MethodName)) ∈ WALL := wl2 146 (by decide +kernel) rfl
theorem wd_434 : (Jvm.Cond.lays "java/lang/IllegalArgumentException" "java/lang/Throwable" "cause" "Ljava/lang/Throwable;") ∈ WALL := wl2 147 (by decide +kernel) rfl
theorem wd_435 : (Jvm.Cond.lays "java/lang/IllegalArgumentException" "java/lang/Throwable" "stackTrace" "[Ljava/lang/StackTraceElement;") ∈ WALL := wl2 148 (by decide +kernel) rfl
theorem wd_436 : (Jvm.Cond.lays "java/lang/IllegalArgumentException" "java/lang/Throwable" "suppressedExceptions" "Ljava/util/List;") ∈ WALL := wl2 149 (by decide +kernel) rfl
theorem wd_437 : (Jvm.Cond.lays "java/lang/IllegalArgumentException" "java/lang/Throwable" "detailMessage" "Ljava/lang/String;") ∈ WALL := wl2 150 (by decide +kernel) rfl
theorem wd_438 : (Jvm.Cond.lays "java/lang/IllegalArgumentException" "java/lang/Throwable" "backtrace" "Ljava/lang/Object;") ∈ WALL := wl2 151 (by decide +kernel) rfl
theorem wd_440 : (Jvm.Cond.methodLink "StormBasin" (58 : Nat) ({ cls := "java/lang/IllegalArgumentException", name := "<init>", desc := "(Ljava/lang/String;)V" } : Jvm.MethodName)) ∈ WALL := wl2 153 (by decide +kernel) rfl
theorem wd_441 : (Jvm.Cond.instanceMethod ({ cls := "java/lang/IllegalArgumentException", name := "<init>", desc := "(Ljava/lang/String;)V" } : Jvm.MethodName)) ∈ WALL := wl2 154 (by decide +kernel) rfl
theorem wd_442 : (Jvm.Cond.code ({ cls := "java/lang/IllegalArgumentException", name := "<init>", desc := "(Ljava/lang/String;)V" } : Jvm.MethodName) prog_18_method_2_code (2 : Nat) (Option.none : Option Jvm.ClassFile.FieldType)) ∈ WALL := wl2 155 (by decide +kernel) rfl
theorem wd_443 : (Jvm.Cond.methodLink "java/lang/IllegalArgumentException" (7 : Nat) ({ cls := "java/lang/RuntimeException", name := "<init>", desc := "(Ljava/lang/String;)V" } : Jvm.MethodName)) ∈ WALL := wl2 156 (by decide +kernel) rfl
theorem wd_444 : (Jvm.Cond.lays "java/lang/IllegalArgumentException" "java/lang/Throwable" "depth" "I") ∈ WALL := wl2 157 (by decide +kernel) rfl
theorem wd_445 : (Jvm.Cond.superclass "java/lang/IllegalArgumentException" "java/lang/RuntimeException") ∈ WALL := wl2 158 (by decide +kernel) rfl
theorem wd_446 : (Jvm.Cond.methodLink "StormBasin" (59 : Nat) ({ cls := "StormBasin", name := "requireHeight", desc := "(I)V" } : Jvm.MethodName)) ∈ WALL := wl2 159 (by decide +kernel) rfl
theorem wd_447 : (Jvm.Cond.static ({ cls := "StormBasin", name := "requireHeight", desc := "(I)V" } : Jvm.MethodName)) ∈ WALL := wl2 160 (by decide +kernel) rfl
theorem wd_448 : (Jvm.Cond.code ({ cls := "StormBasin", name := "requireHeight", desc := "(I)V" } : Jvm.MethodName) prog_1_method_45_code (1 : Nat) (Option.none : Option Jvm.ClassFile.FieldType)) ∈ WALL := wl2 161 (by decide +kernel) rfl
theorem wd_450 : (Jvm.Cond.classLink "StormBasin" (63 : Nat) "java/lang/IllegalStateException") ∈ WALL := wl2 163 (by decide +kernel) rfl
theorem wd_451 : (Jvm.Cond.instantiable "java/lang/IllegalStateException" (6 : Nat)) ∈ WALL := wl2 164 (by decide +kernel) rfl
theorem wd_453 : (Jvm.Cond.selects "java/lang/IllegalStateException" ({ cls := "java/lang/Throwable", name := "fillInStackTrace", desc := "(I)Ljava/lang/Throwable;" } : Jvm.MethodName) ({ cls := "java/lang/Throwable", name := "fillInStackTrace", desc := "(I)Ljava/lang/Throwable;" } : Jvm.MethodName)) ∈ WALL := wl2 166 (by decide +kernel) rfl
theorem wd_454 : (Jvm.Cond.lays "java/lang/IllegalStateException" "java/lang/Throwable" "cause" "Ljava/lang/Throwable;") ∈ WALL := wl2 167 (by decide +kernel) rfl
theorem wd_455 : (Jvm.Cond.lays "java/lang/IllegalStateException" "java/lang/Throwable" "stackTrace" "[Ljava/lang/StackTraceElement;") ∈ WALL := wl2 168 (by decide +kernel) rfl
theorem wd_456 : (Jvm.Cond.lays "java/lang/IllegalStateException" "java/lang/Throwable" "suppressedExceptions" "Ljava/util/List;") ∈ WALL := wl2 169 (by decide +kernel) rfl
theorem wd_457 : (Jvm.Cond.lays "java/lang/IllegalStateException" "java/lang/Throwable" "detailMessage" "Ljava/lang/String;") ∈ WALL := wl2 170 (by decide +kernel) rfl
theorem wd_458 : (Jvm.Cond.lays "java/lang/IllegalStateException" "java/lang/Throwable" "backtrace" "Ljava/lang/Object;") ∈ WALL := wl2 171 (by decide +kernel) rfl
theorem wd_460 : (Jvm.Cond.methodLink "StormBasin" (67 : Nat) ({ cls := "java/lang/IllegalStateException", name := "<init>", desc := "(Ljava/lang/String;)V" } : Jvm.MethodName)) ∈ WALL := wl2 173 (by decide +kernel) rfl
theorem wd_461 : (Jvm.Cond.instanceMethod ({ cls := "java/lang/IllegalStateException", name := "<init>", desc := "(Ljava/lang/String;)V" } : Jvm.MethodName)) ∈ WALL := wl2 174 (by decide +kernel) rfl
theorem wd_462 : (Jvm.Cond.code ({ cls := "java/lang/IllegalStateException", name := "<init>", desc := "(Ljava/lang/String;)V" } : Jvm.MethodName) prog_19_method_2_code (2 : Nat) (Option.none : Option Jvm.ClassFile.FieldType)) ∈ WALL := wl2 175 (by decide +kernel) rfl
theorem wd_463 : (Jvm.Cond.methodLink "java/lang/IllegalStateException" (7 : Nat) ({ cls := "java/lang/RuntimeException", name := "<init>", desc := "(Ljava/lang/String;)V" } : Jvm.MethodName)) ∈ WALL := wl2 176 (by decide +kernel) rfl
theorem wd_464 : (Jvm.Cond.lays "java/lang/IllegalStateException" "java/lang/Throwable" "depth" "I") ∈ WALL := wl2 177 (by decide +kernel) rfl
theorem wd_465 : (Jvm.Cond.superclass "java/lang/IllegalStateException" "java/lang/RuntimeException") ∈ WALL := wl2 178 (by decide +kernel) rfl
theorem wd_466 : (Jvm.Cond.methodLink "StormBasin" (68 : Nat) ({ cls := "StormBasin", name := "requireBeforeFirstHour", desc := "()V" } : Jvm.MethodName)) ∈ WALL := wl2 179 (by decide +kernel) rfl
theorem wd_468 : (Jvm.Cond.instanceMethod ({ cls := "StormBasin", name := "requireBeforeFirstHour", desc := "()V" } : Jvm.MethodName)) ∈ WALL := wl2 181 (by decide +kernel) rfl
theorem wd_469 : (Jvm.Cond.code ({ cls := "StormBasin", name := "requireBeforeFirstHour", desc := "()V" } : Jvm.MethodName) prog_1_method_47_code (1 : Nat) (Option.none : Option Jvm.ClassFile.FieldType)) ∈ WALL := wl2 182 (by decide +kernel) rfl
theorem wd_471 : (Jvm.Cond.instantiable "StormBasin$Basin" (8 : Nat)) ∈ WALL := wl2 184 (by decide +kernel) rfl
theorem wd_472 : (Jvm.Cond.methodLink "StormBasin" (73 : Nat) ({ cls := "StormBasin$Basin", name := "<init>", desc := "(IIIII)V" } : Jvm.MethodName)) ∈ WALL := wl2 185 (by decide +kernel) rfl
theorem wd_473 : (Jvm.Cond.instanceMethod ({ cls := "StormBasin$Basin", name := "<init>", desc := "(IIIII)V" } : Jvm.MethodName)) ∈ WALL := wl2 186 (by decide +kernel) rfl
theorem wd_474 : (Jvm.Cond.code ({ cls := "StormBasin$Basin", name := "<init>", desc := "(IIIII)V" } : Jvm.MethodName) prog_2_method_1_code (6 : Nat) (Option.none : Option Jvm.ClassFile.FieldType)) ∈ WALL := wl2 187 (by decide +kernel) rfl
theorem wd_475 : (Jvm.Cond.methodLink "StormBasin$Basin" (3 : Nat) ({ cls := "java/lang/Object", name := "<init>", desc := "()V" } : Jvm.MethodName)) ∈ WALL := wl2 188 (by decide +kernel) rfl
theorem wd_476 : (Jvm.Cond.classLink "StormBasin$Basin" (24 : Nat) "StormBasin$Street") ∈ WALL := wl2 189 (by decide +kernel) rfl
theorem wd_477 : (Jvm.Cond.instantiable "StormBasin$Street" (5 : Nat)) ∈ WALL := wl2 190 (by decide +kernel) rfl
theorem wd_478 : (Jvm.Cond.methodLink "StormBasin$Basin" (26 : Nat) ({ cls := "StormBasin$Street", name := "<init>", desc := "(I)V" } : Jvm.MethodName)) ∈ WALL := wl2 191 (by decide +kernel) rfl
theorem wd_479 : (Jvm.Cond.instanceMethod ({ cls := "StormBasin$Street", name := "<init>", desc := "(I)V" } : Jvm.MethodName)) ∈ WALL := wl2 192 (by decide +kernel) rfl
theorem wd_480 : (Jvm.Cond.code ({ cls := "StormBasin$Street", name := "<init>", desc := "(I)V" } : Jvm.MethodName) prog_5_method_1_code (2 : Nat) (Option.none : Option Jvm.ClassFile.FieldType)) ∈ WALL := wl2 193 (by decide +kernel) rfl
theorem wd_481 : (Jvm.Cond.methodLink "StormBasin$Street" (3 : Nat) ({ cls := "java/lang/Object", name := "<init>", desc := "()V" } : Jvm.MethodName)) ∈ WALL := wl2 194 (by decide +kernel) rfl
theorem wd_482 : (Jvm.Cond.fieldLink "StormBasin$Street" (9 : Nat) "StormBasin$Street" "heights" "[I") ∈ WALL := wl2 195 (by decide +kernel) rfl
theorem wd_483 : (Jvm.Cond.fieldLink "StormBasin$Street" (19 : Nat) "StormBasin$Street" "dryUpTo" "[I") ∈ WALL := wl2 196 (by decide +kernel) rfl
theorem wd_484 : (Jvm.Cond.fieldLink "StormBasin$Street" (22 : Nat) "StormBasin$Street" "poured" "[I") ∈ WALL := wl2 197 (by decide +kernel) rfl
theorem wd_485 : (Jvm.Cond.fieldLink "StormBasin$Street" (25 : Nat) "StormBasin$Street" "volumeAtEnd" "[I") ∈ WALL := wl2 198 (by decide +kernel) rfl
theorem wd_486 : (Jvm.Cond.fieldLink "StormBasin$House" (29 : Nat) "StormBasin$Street" "volumeAtEnd" "[I") ∈ WALL := wl2 199 (by decide +kernel) rfl
theorem wd_487 : (Jvm.Cond.fieldLink "StormBasin" (192 : Nat) "StormBasin$Street" "volumeAtEnd" "[I") ∈ WALL := wl2 200 (by decide +kernel) rfl
theorem wd_488 : (Jvm.Cond.fieldLink "StormBasin$Street" (15 : Nat) "StormBasin$Street" "cells" "I") ∈ WALL := wl2 201 (by decide +kernel) rfl
theorem wd_489 : (Jvm.Cond.fieldLink "StormBasin" (88 : Nat) "StormBasin$Street" "cells" "I") ∈ WALL := wl2 202 (by decide +kernel) rfl
theorem wd_490 : (Jvm.Cond.laysFinal "StormBasin$Street" "StormBasin$Street" "heights" "[I") ∈ WALL := wl2 203 (by decide +kernel) rfl
theorem wd_492 : (Jvm.Cond.laysFinal "StormBasin$Street" "StormBasin$Street" "dryUpTo" "[I") ∈ WALL := wl2 205 (by decide +kernel) rfl
theorem wd_494 : (Jvm.Cond.laysFinal "StormBasin$Street" "StormBasin$Street" "poured" "[I") ∈ WALL := wl2 207 (by decide +kernel) rfl
theorem wd_496 : (Jvm.Cond.laysFinal "StormBasin$Street" "StormBasin$Street" "volumeAtEnd" "[I") ∈ WALL := wl2 209 (by decide +kernel) rfl
theorem wd_498 : (Jvm.Cond.lays "StormBasin$Street" "StormBasin$Street" "cells" "I") ∈ WALL := wl2 211 (by decide +kernel) rfl
theorem wd_500 : (Jvm.Cond.superclass "StormBasin$Street" "java/lang/Object") ∈ WALL := wl2 213 (by decide +kernel) rfl
theorem wd_501 : (Jvm.Cond.fieldLink "StormBasin$Basin" (9 : Nat) "StormBasin$Basin" "area" "I") ∈ WALL := wl2 214 (by decide +kernel) rfl
theorem wd_502 : (Jvm.Cond.fieldLink "StormBasin" (351 : Nat) "StormBasin$Basin" "area" "I") ∈ WALL := wl2 215 (by decide +kernel) rfl
theorem wd_503 : (Jvm.Cond.fieldLink "StormBasin$Basin" (15 : Nat) "StormBasin$Basin" "depth" "I") ∈ WALL := wl2 216 (by decide +kernel) rfl
theorem wd_504 : (Jvm.Cond.fieldLink "StormBasin$Basin" (18 : Nat) "StormBasin$Basin" "width" "I") ∈ WALL := wl2 217 (by decide +kernel) rfl
theorem wd_505 : (Jvm.Cond.fieldLink "StormBasin" (333 : Nat) "StormBasin$Basin" "width" "I") ∈ WALL := wl2 218 (by decide +kernel) rfl
theorem wd_506 : (Jvm.Cond.fieldLink "StormBasin$Basin" (21 : Nat) "StormBasin$Basin" "below" "I") ∈ WALL := wl2 219 (by decide +kernel) rfl
theorem wd_507 : (Jvm.Cond.fieldLink "StormBasin" (341 : Nat) "StormBasin$Basin" "below" "I") ∈ WALL := wl2 220 (by decide +kernel) rfl
theorem wd_508 : (Jvm.Cond.fieldLink "StormBasin$Basin" (29 : Nat) "StormBasin$Basin" "street" "LStormBasin$Street;") ∈ WALL := wl2 221 (by decide +kernel) rfl
theorem wd_509 : (Jvm.Cond.fieldLink "StormBasin" (84 : Nat) "StormBasin$Basin" "street" "LStormBasin$Street;") ∈ WALL := wl2 222 (by decide +kernel) rfl
theorem wd_510 : (Jvm.Cond.fieldLink "StormBasin$Basin" (33 : Nat) "StormBasin$Basin" "rainIn" "[I") ∈ WALL := wl2 223 (by decide +kernel) rfl
theorem wd_511 : (Jvm.Cond.fieldLink "StormBasin" (316 : Nat) "StormBasin$Basin" "rainIn" "[I") ∈ WALL := wl2 224 (by decide +kernel) rfl
theorem wd_512 : (Jvm.Cond.fieldLink "StormBasin" (105 : Nat) "StormBasin$Basin" "hand" "I") ∈ WALL := wl2 225 (by decide +kernel) rfl
theorem wd_513 : (Jvm.Cond.fieldLink "StormBasin" (140 : Nat) "StormBasin$Basin" "rain" "I") ∈ WALL := wl2 226 (by decide +kernel) rfl
theorem wd_514 : (Jvm.Cond.laysFinal "StormBasin$Basin" "StormBasin$Basin" "area" "I") ∈ WALL := wl2 227 (by decide +kernel) rfl
theorem wd_516 : (Jvm.Cond.laysFinal "StormBasin$Basin" "StormBasin$Basin" "depth" "I") ∈ WALL := wl2 229 (by decide +kernel) rfl
theorem wd_518 : (Jvm.Cond.laysFinal "StormBasin$Basin" "StormBasin$Basin" "width" "I") ∈ WALL := wl2 231 (by decide +kernel) rfl
theorem wd_520 : (Jvm.Cond.laysFinal "StormBasin$Basin" "StormBasin$Basin" "below" "I") ∈ WALL := wl2 233 (by decide +kernel) rfl
theorem wd_522 : (Jvm.Cond.laysFinal "StormBasin$Basin" "StormBasin$Basin" "street" "LStormBasin$Street;") ∈ WALL := wl2 235 (by decide +kernel) rfl
theorem wd_524 : (Jvm.Cond.laysFinal "StormBasin$Basin" "StormBasin$Basin" "rainIn" "[I") ∈ WALL := wl2 237 (by decide +kernel) rfl
theorem wd_526 : (Jvm.Cond.lays "StormBasin$Basin" "StormBasin$Basin" "hand" "I") ∈ WALL := wl2 239 (by decide +kernel) rfl
theorem wd_528 : (Jvm.Cond.lays "StormBasin$Basin" "StormBasin$Basin" "rain" "I") ∈ WALL := wl3 1 (by decide +kernel) rfl
theorem wd_530 : (Jvm.Cond.superclass "StormBasin$Basin" "java/lang/Object") ∈ WALL := wl3 3 (by decide +kernel) rfl
theorem wd_531 : (Jvm.Cond.methodLink "StormBasin" (76 : Nat) ({ cls := "java/util/ArrayList", name := "add", desc := "(Ljava/lang/Object;)Z" } : Jvm.MethodName)) ∈ WALL := wl3 4 (by decide +kernel) rfl
theorem wd_532 : (Jvm.Cond.instanceMethod ({ cls := "java/util/ArrayList", name := "add", desc := "(Ljava/lang/Object;)Z" } : Jvm.MethodName)) ∈ WALL := wl3 5 (by decide +kernel) rfl
theorem wd_533 : (Jvm.Cond.selects "java/util/ArrayList" ({ cls := "java/util/ArrayList", name := "add", desc := "(Ljava/lang/Object;)Z" } : Jvm.MethodName) ({ cls := "java/util/ArrayList", name := "add", desc := "(Ljava/lang/Object;)Z" } : Jvm.MethodName)) ∈ WALL := wl3 6 (by decide +kernel) rfl
theorem wd_534 : (Jvm.Cond.code ({ cls := "java/util/ArrayList", name := "add", desc := "(Ljava/lang/Object;)Z" } : Jvm.MethodName) prog_38_method_25_code (2 : Nat) (Option.some Jvm.ClassFile.FieldType.boolean)) ∈ WALL := wl3 7 (by decide +kernel) rfl
theorem wd_535 : (Jvm.Cond.methodLink "java/util/ArrayList" (131 : Nat) ({ cls := "java/util/ArrayList", name := "add", desc := "(Ljava/lang/Object;[Ljava/lang/Object;I)V" } : Jvm.MethodName)) ∈ WALL := wl3 8 (by decide +kernel) rfl
theorem wd_537 : (Jvm.Cond.instanceMethod ({ cls := "java/util/ArrayList", name := "add", desc := "(Ljava/lang/Object;[Ljava/lang/Object;I)V" } : Jvm.MethodName)) ∈ WALL := wl3 10 (by decide +kernel) rfl
theorem wd_538 : (Jvm.Cond.code ({ cls := "java/util/ArrayList", name := "add", desc := "(Ljava/lang/Object;[Ljava/lang/Object;I)V" } : Jvm.MethodName) prog_38_method_24_code (4 : Nat) (Option.none : Option Jvm.ClassFile.FieldType)) ∈ WALL := wl3 11 (by decide +kernel) rfl
theorem wd_539 : (Jvm.Cond.methodLink "java/util/ArrayList" (129 : Nat) ({ cls := "java/util/ArrayList", name := "grow", desc := "()[Ljava/lang/Object;" } : Jvm.MethodName)) ∈ WALL := wl3 12 (by decide +kernel) rfl
theorem wd_541 : (Jvm.Cond.instanceMethod ({ cls := "java/util/ArrayList", name := "grow", desc := "()[Ljava/lang/Object;" } : Jvm.MethodName)) ∈ WALL := wl3 14 (by decide +kernel) rfl
theorem wd_542 : (Jvm.Cond.code ({ cls := "java/util/ArrayList", name := "grow", desc := "()[Ljava/lang/Object;" } : Jvm.MethodName) prog_38_method_7_code (1 : Nat) (Option.some (Jvm.ClassFile.FieldType.array (Jvm.ClassFile.FieldType.object "java/lang/Object")))) ∈ WALL := wl3 15 (by decide +kernel) rfl
theorem wd_543 : (Jvm.Cond.methodLink "java/util/ArrayList" (69 : Nat) ({ cls := "java/util/ArrayList", name := "grow", desc := "(I)[Ljava/lang/Object;" } : Jvm.MethodName)) ∈ WALL := wl3 16 (by decide +kernel) rfl
theorem wd_545 : (Jvm.Cond.instanceMethod ({ cls := "java/util/ArrayList", name := "grow", desc := "(I)[Ljava/lang/Object;" } : Jvm.MethodName)) ∈ WALL := wl3 18 (by decide +kernel) rfl
theorem wd_546 : (Jvm.Cond.code ({ cls := "java/util/ArrayList", name := "grow", desc := "(I)[Ljava/lang/Object;" } : Jvm.MethodName) prog_38_method_6_code (4 : Nat) (Option.some (Jvm.ClassFile.FieldType.array (Jvm.ClassFile.FieldType.object "java/lang/Object")))) ∈ WALL := wl3 19 (by decide +kernel) rfl
theorem wd_547 : (Jvm.Cond.methodLink "java/util/ArrayList" (73 : Nat) ({ cls := "jdk/internal/util/ArraysSupport", name := "newLength", desc := "(III)I" } : Jvm.MethodName)) ∈ WALL := wl3 20 (by decide +kernel) rfl
theorem wd_548 : (Jvm.Cond.static ({ cls := "jdk/internal/util/ArraysSupport", name := "newLength", desc := "(III)I" } : Jvm.MethodName)) ∈ WALL := wl3 21 (by decide +kernel) rfl
theorem wd_549 : (Jvm.Cond.code ({ cls := "jdk/internal/util/ArraysSupport", name := "newLength", desc := "(III)I" } : Jvm.MethodName) prog_46_method_27_code (4 : Nat) (Option.some Jvm.ClassFile.FieldType.int)) ∈ WALL := wl3 22 (by decide +kernel) rfl
theorem wd_550 : (Jvm.Cond.methodLink "jdk/internal/util/ArraysSupport" (194 : Nat) ({ cls := "java/lang/Math", name := "max", desc := "(II)I" } : Jvm.MethodName)) ∈ WALL := wl3 23 (by decide +kernel) rfl
theorem wd_551 : (Jvm.Cond.static ({ cls := "java/lang/Math", name := "max", desc := "(II)I" } : Jvm.MethodName)) ∈ WALL := wl3 24 (by decide +kernel) rfl
theorem wd_552 : (Jvm.Cond.code ({ cls := "java/lang/Math", name := "max", desc := "(II)I" } : Jvm.MethodName) prog_23_method_65_code (2 : Nat) (Option.some Jvm.ClassFile.FieldType.int)) ∈ WALL := wl3 25 (by decide +kernel) rfl
theorem wd_553 : (Jvm.Cond.constant "jdk/internal/util/ArraysSupport" (200 : Nat) (2147483639 : Int32)) ∈ WALL := wl3 26 (by decide +kernel) rfl
theorem wd_554 : (Jvm.Cond.methodLink "jdk/internal/util/ArraysSupport" (201 : Nat) ({ cls := "jdk/internal/util/ArraysSupport", name := "hugeLength", desc := "(II)I" } : Jvm.MethodName)) ∈ WALL := wl3 27 (by decide +kernel) rfl
theorem wd_555 : (Jvm.Cond.static ({ cls := "jdk/internal/util/ArraysSupport", name := "hugeLength", desc := "(II)I" } : Jvm.MethodName)) ∈ WALL := wl3 28 (by decide +kernel) rfl
theorem wd_556 : (Jvm.Cond.code ({ cls := "jdk/internal/util/ArraysSupport", name := "hugeLength", desc := "(II)I" } : Jvm.MethodName) prog_46_method_28_code (3 : Nat) (Option.some Jvm.ClassFile.FieldType.int)) ∈ WALL := wl3 29 (by decide +kernel) rfl
theorem wd_557 : (Jvm.Cond.methodLink "java/util/ArrayList" (66 : Nat) ({ cls := "java/util/Arrays", name := "copyOf", desc := "([Ljava/lang/Object;I)[Ljava/lang/Object;" } : Jvm.MethodName)) ∈ WALL := wl3 30 (by decide +kernel) rfl
theorem wd_558 : (Jvm.Cond.static ({ cls := "java/util/Arrays", name := "copyOf", desc := "([Ljava/lang/Object;I)[Ljava/lang/Object;" } : Jvm.MethodName)) ∈ WALL := wl3 31 (by decide +kernel) rfl
theorem wd_559 : (Jvm.Cond.code ({ cls := "java/util/Arrays", name := "copyOf", desc := "([Ljava/lang/Object;I)[Ljava/lang/Object;" } : Jvm.MethodName) prog_39_method_119_code (2 : Nat) (Option.some (Jvm.ClassFile.FieldType.array (Jvm.ClassFile.FieldType.object "java/lang/Object")))) ∈ WALL := wl3 32 (by decide +kernel) rfl
theorem wd_560 : (Jvm.Cond.methodLink "java/util/Arrays" (86 : Nat) ({ cls := "java/lang/Object", name := "getClass", desc := "()Ljava/lang/Class;" } : Jvm.MethodName)) ∈ WALL := wl3 33 (by decide +kernel) rfl
theorem wd_561 : (Jvm.Cond.instanceMethod ({ cls := "java/lang/Object", name := "getClass", desc := "()Ljava/lang/Class;" } : Jvm.MethodName)) ∈ WALL := wl3 34 (by decide +kernel) rfl
theorem wd_562 : (Jvm.Cond.sameMethod "java/lang/Object" "java/lang/Object" "getClass" "()Ljava/lang/Class;") ∈ WALL := wl3 35 (by decide +kernel) rfl
theorem wd_563 : (Jvm.Cond.selects "StormBasin" ({ cls := "java/lang/Object", name := "getClass", desc := "()Ljava/lang/Class;" } : Jvm.MethodName) ({ cls := "java/lang/Object", name := "getClass", desc := "()Ljava/lang/Class;" } : Jvm.MethodName)) ∈ WALL := wl3 36 (by decide +kernel) rfl
theorem wd_564 : (Jvm.Cond.selects "StormBasin$Basin" ({ cls := "java/lang/Object", name := "getClass", desc := "()Ljava/lang/Class;" } : Jvm.MethodName) ({ cls := "java/lang/Object", name := "getClass", desc := "()Ljava/lang/Class;" } : Jvm.MethodName)) ∈ WALL := wl3 37 (by decide +kernel) rfl
theorem wd_565 : (Jvm.Cond.selects "StormBasin$House" ({ cls := "java/lang/Object", name := "getClass", desc := "()Ljava/lang/Class;" } : Jvm.MethodName) ({ cls := "java/lang/Object", name := "getClass", desc := "()Ljava/lang/Class;" } : Jvm.MethodName)) ∈ WALL := wl3 38 (by decide +kernel) rfl
theorem wd_566 : (Jvm.Cond.selects "StormBasin$Rule" ({ cls := "java/lang/Object", name := "getClass", desc := "()Ljava/lang/Class;" } : Jvm.MethodName) ({ cls := "java/lang/Object", name := "getClass", desc := "()Ljava/lang/Class;" } : Jvm.MethodName)) ∈ WALL := wl3 39 (by decide +kernel) rfl
theorem wd_567 : (Jvm.Cond.selects "StormBasin$Street" ({ cls := "java/lang/Object", name := "getClass", desc := "()Ljava/lang/Class;" } : Jvm.MethodName) ({ cls := "java/lang/Object", name := "getClass", desc := "()Ljava/lang/Class;" } : Jvm.MethodName)) ∈ WALL := wl3 40 (by decide +kernel) rfl
theorem wd_568 : (Jvm.Cond.selects "StormBasin$Water" ({ cls := "java/lang/Object", name := "getClass", desc := "()Ljava/lang/Class;" } : Jvm.MethodName) ({ cls := "java/lang/Object", name := "getClass", desc := "()Ljava/lang/Class;" } : Jvm.MethodName)) ∈ WALL := wl3 41 (by decide +kernel) rfl
theorem wd_569 : (Jvm.Cond.selects "StormBasinModel" ({ cls := "java/lang/Object", name := "getClass", desc := "()Ljava/lang/Class;" } : Jvm.MethodName) ({ cls := "java/lang/Object", name := "getClass", desc := "()Ljava/lang/Class;" } : Jvm.MethodName)) ∈ WALL := wl3 42 (by decide +kernel) rfl
theorem wd_570 : (Jvm.Cond.selects "java/lang/ArithmeticException" ({ cls := "java/lang/Object", name := "getClass", desc := "()Ljava/lang/Class;" } : Jvm.MethodName) ({ cls := "java/lang/Object", name := "getClass", desc := "()Ljava/lang/Class;" } : Jvm.MethodName)) ∈ WALL := wl3 43 (by decide +kernel) rfl
theorem wd_571 : (Jvm.Cond.selects "java/lang/ArrayIndexOutOfBoundsException" ({ cls := "java/lang/Object", name := "getClass", desc := "()Ljava/lang/Class;" } : Jvm.MethodName) ({ cls := "java/lang/Object", name := "getClass", desc := "()Ljava/lang/Class;" } : Jvm.MethodName)) ∈ WALL := wl3 44 (by decide +kernel) rfl
theorem wd_572 : (Jvm.Cond.selects "java/lang/IllegalArgumentException" ({ cls := "java/lang/Object", name := "getClass", desc := "()Ljava/lang/Class;" } : Jvm.MethodName) ({ cls := "java/lang/Object", name := "getClass", desc := "()Ljava/lang/Class;" } : Jvm.MethodName)) ∈ WALL := wl3 45 (by decide +kernel) rfl
theorem wd_573 : (Jvm.Cond.selects "java/lang/IllegalStateException" ({ cls := "java/lang/Object", name := "getClass", desc := "()Ljava/lang/Class;" } : Jvm.MethodName) ({ cls := "java/lang/Object", name := "getClass", desc := "()Ljava/lang/Class;" } : Jvm.MethodName)) ∈ WALL := wl3 46 (by decide +kernel) rfl
theorem wd_574 : (Jvm.Cond.selects "java/lang/IndexOutOfBoundsException" ({ cls := "java/lang/Object", name := "getClass", desc := "()Ljava/lang/Class;" } : Jvm.MethodName) ({ cls := "java/lang/Object", name := "getClass", desc := "()Ljava/lang/Class;" } : Jvm.MethodName)) ∈ WALL := wl3 47 (by decide +kernel) rfl
theorem wd_575 : (Jvm.Cond.selects "java/lang/String" ({ cls := "java/lang/Object", name := "getClass", desc := "()Ljava/lang/Class;" } : Jvm.MethodName) ({ cls := "java/lang/Object", name := "getClass", desc := "()Ljava/lang/Class;" } : Jvm.MethodName)) ∈ WALL := wl3 48 (by decide +kernel) rfl
theorem wd_576 : (Jvm.Cond.selects "java/lang/StringBuilder" ({ cls := "java/lang/Object", name := "getClass", desc := "()Ljava/lang/Class;" } : Jvm.MethodName) ({ cls := "java/lang/Object", name := "getClass", desc := "()Ljava/lang/Class;" } : Jvm.MethodName)) ∈ WALL := wl3 49 (by decide +kernel) rfl
theorem wd_577 : (Jvm.Cond.selects "java/lang/StringIndexOutOfBoundsException" ({ cls := "java/lang/Object", name := "getClass", desc := "()Ljava/lang/Class;" } : Jvm.MethodName) ({ cls := "java/lang/Object", name := "getClass", desc := "()Ljava/lang/Class;" } : Jvm.MethodName)) ∈ WALL := wl3 50 (by decide +kernel) rfl
theorem wd_578 : (Jvm.Cond.selects "java/lang/UnsupportedOperationException" ({ cls := "java/lang/Object", name := "getClass", desc := "()Ljava/lang/Class;" } : Jvm.MethodName) ({ cls := "java/lang/Object", name := "getClass", desc := "()Ljava/lang/Class;" } : Jvm.MethodName)) ∈ WALL := wl3 51 (by decide +kernel) rfl
theorem wd_579 : (Jvm.Cond.selects "java/util/ArrayList" ({ cls := "java/lang/Object", name := "getClass", desc := "()Ljava/lang/Class;" } : Jvm.MethodName) ({ cls := "java/lang/Object", name := "getClass", desc := "()Ljava/lang/Class;" } : Jvm.MethodName)) ∈ WALL := wl3 52 (by decide +kernel) rfl
theorem wd_580 : (Jvm.Cond.selects "java/util/NoSuchElementException" ({ cls := "java/lang/Object", name := "getClass", desc := "()Ljava/lang/Class;" } : Jvm.MethodName) ({ cls := "java/lang/Object", name := "getClass", desc := "()Ljava/lang/Class;" } : Jvm.MethodName)) ∈ WALL := wl3 53 (by decide +kernel) rfl
theorem wd_581 : (Jvm.Cond.native ({ cls := "java/lang/Object", name := "getClass", desc := "()Ljava/lang/Class;" } : Jvm.MethodName)) ∈ WALL := wl3 54 (by decide +kernel) rfl
theorem wd_582 : (Jvm.Cond.methodLink "java/util/Arrays" (300 : Nat) ({ cls := "java/util/Arrays", name := "copyOf", desc := "([Ljava/lang/Object;ILjava/lang/Class;)[Ljava/lang/Object;" } : Jvm.MethodName)) ∈ WALL := wl3 55 (by decide +kernel) rfl
theorem wd_583 : (Jvm.Cond.static ({ cls := "java/util/Arrays", name := "copyOf", desc := "([Ljava/lang/Object;ILjava/lang/Class;)[Ljava/lang/Object;" } : Jvm.MethodName)) ∈ WALL := wl3 56 (by decide +kernel) rfl
theorem wd_584 : (Jvm.Cond.code ({ cls := "java/util/Arrays", name := "copyOf", desc := "([Ljava/lang/Object;ILjava/lang/Class;)[Ljava/lang/Object;" } : Jvm.MethodName) prog_39_method_120_code (4 : Nat) (Option.some (Jvm.ClassFile.FieldType.array (Jvm.ClassFile.FieldType.object "java/lang/Object")))) ∈ WALL := wl3 57 (by decide +kernel) rfl
theorem wd_585 : (Jvm.Cond.classLink "java/util/Arrays" (110 : Nat) "[Ljava/lang/Object;") ∈ WALL := wl3 58 (by decide +kernel) rfl
theorem wd_587 : (Jvm.Cond.classLink "java/util/Arrays" (2 : Nat) "java/lang/Object") ∈ WALL := wl3 60 (by decide +kernel) rfl
theorem wd_588 : (Jvm.Cond.methodLink "java/util/Arrays" (304 : Nat) ({ cls := "java/lang/Math", name := "min", desc := "(II)I" } : Jvm.MethodName)) ∈ WALL := wl3 61 (by decide +kernel) rfl
theorem wd_589 : (Jvm.Cond.methodLink "java/util/Arrays" (150 : Nat) ({ cls := "java/lang/System", name := "arraycopy", desc := "(Ljava/lang/Object;ILjava/lang/Object;II)V" } : Jvm.MethodName)) ∈ WALL := wl3 62 (by decide +kernel) rfl
theorem wd_590 : (Jvm.Cond.static ({ cls := "java/lang/System", name := "arraycopy", desc := "(Ljava/lang/Object;ILjava/lang/Object;II)V" } : Jvm.MethodName)) ∈ WALL := wl3 63 (by decide +kernel) rfl
theorem wd_591 : (Jvm.Cond.native ({ cls := "java/lang/System", name := "arraycopy", desc := "(Ljava/lang/Object;ILjava/lang/Object;II)V" } : Jvm.MethodName)) ∈ WALL := wl3 64 (by decide +kernel) rfl
theorem wd_592 : (Jvm.Cond.methodLink "java/util/ArrayList" (79 : Nat) ({ cls := "java/lang/Math", name := "max", desc := "(II)I" } : Jvm.MethodName)) ∈ WALL := wl3 65 (by decide +kernel) rfl
theorem wd_593 : (Jvm.Cond.classLink "java/util/ArrayList" (7 : Nat) "java/lang/Object") ∈ WALL := wl3 66 (by decide +kernel) rfl
theorem wd_594 : (Jvm.Cond.methodLink "StormBasinLaw" (138 : Nat) ({ cls := "StormBasinLaw", name := "addCell", desc := "(LStormBasin;II[J)I" } : Jvm.MethodName)) ∈ WALL := wl3 67 (by decide +kernel) rfl
theorem wd_595 : (Jvm.Cond.static ({ cls := "StormBasinLaw", name := "addCell", desc := "(LStormBasin;II[J)I" } : Jvm.MethodName)) ∈ WALL := wl3 68 (by decide +kernel) rfl
theorem wd_596 : (Jvm.Cond.codeWith ({ cls := "StormBasinLaw", name := "addCell", desc := "(LStormBasin;II[J)I" } : Jvm.MethodName) method_4_code (5 : Nat) (Option.some Jvm.ClassFile.FieldType.int) [((0 : Nat), (10 : Nat), (13 : Nat), (13 : Nat)), ((0 : Nat), (10 : Nat), (17 : Nat), (15 : Nat)), ((0 : Nat), (10 : Nat), (21 : Nat), (17 : Nat))]) ∈ WALL := wl3 69 (by decide +kernel) rfl
theorem wd_597 : (Jvm.Cond.methodLink "StormBasinLaw" (19 : Nat) ({ cls := "StormBasin", name := "addCell", desc := "(II)I" } : Jvm.MethodName)) ∈ WALL := wl3 70 (by decide +kernel) rfl
theorem wd_598 : (Jvm.Cond.instanceMethod ({ cls := "StormBasin", name := "addCell", desc := "(II)I" } : Jvm.MethodName)) ∈ WALL := wl3 71 (by decide +kernel) rfl
theorem wd_599 : (Jvm.Cond.selects "StormBasin" ({ cls := "StormBasin", name := "addCell", desc := "(II)I" } : Jvm.MethodName) ({ cls := "StormBasin", name := "addCell", desc := "(II)I" } : Jvm.MethodName)) ∈ WALL := wl3 72 (by decide +kernel) rfl
theorem wd_600 : (Jvm.Cond.code ({ cls := "StormBasin", name := "addCell", desc := "(II)I" } : Jvm.MethodName) prog_1_method_3_code (4 : Nat) (Option.some Jvm.ClassFile.FieldType.int)) ∈ WALL := wl3 73 (by decide +kernel) rfl
theorem wd_601 : (Jvm.Cond.methodLink "StormBasin" (80 : Nat) ({ cls := "StormBasin", name := "basinOf", desc := "(I)LStormBasin$Basin;" } : Jvm.MethodName)) ∈ WALL := wl3 74 (by decide +kernel) rfl
theorem wd_603 : (Jvm.Cond.instanceMethod ({ cls := "StormBasin", name := "basinOf", desc := "(I)LStormBasin$Basin;" } : Jvm.MethodName)) ∈ WALL := wl3 76 (by decide +kernel) rfl
theorem wd_604 : (Jvm.Cond.code ({ cls := "StormBasin", name := "basinOf", desc := "(I)LStormBasin$Basin;" } : Jvm.MethodName) prog_1_method_51_code (2 : Nat) (Option.some (Jvm.ClassFile.FieldType.object "StormBasin$Basin"))) ∈ WALL := wl3 77 (by decide +kernel) rfl
theorem wd_605 : (Jvm.Cond.methodLink "StormBasin" (108 : Nat) ({ cls := "StormBasin", name := "requireBasin", desc := "(I)V" } : Jvm.MethodName)) ∈ WALL := wl3 78 (by decide +kernel) rfl
theorem wd_607 : (Jvm.Cond.instanceMethod ({ cls := "StormBasin", name := "requireBasin", desc := "(I)V" } : Jvm.MethodName)) ∈ WALL := wl3 80 (by decide +kernel) rfl
theorem wd_608 : (Jvm.Cond.code ({ cls := "StormBasin", name := "requireBasin", desc := "(I)V" } : Jvm.MethodName) prog_1_method_49_code (2 : Nat) (Option.none : Option Jvm.ClassFile.FieldType)) ∈ WALL := wl3 81 (by decide +kernel) rfl
theorem wd_611 : (Jvm.Cond.methodLink "StormBasin" (96 : Nat) ({ cls := "StormBasin$Street", name := "append", desc := "(I)V" } : Jvm.MethodName)) ∈ WALL := wl3 84 (by decide +kernel) rfl
theorem wd_612 : (Jvm.Cond.instanceMethod ({ cls := "StormBasin$Street", name := "append", desc := "(I)V" } : Jvm.MethodName)) ∈ WALL := wl3 85 (by decide +kernel) rfl
theorem wd_613 : (Jvm.Cond.selects "StormBasin$Street" ({ cls := "StormBasin$Street", name := "append", desc := "(I)V" } : Jvm.MethodName) ({ cls := "StormBasin$Street", name := "append", desc := "(I)V" } : Jvm.MethodName)) ∈ WALL := wl3 86 (by decide +kernel) rfl
theorem wd_614 : (Jvm.Cond.code ({ cls := "StormBasin$Street", name := "append", desc := "(I)V" } : Jvm.MethodName) prog_5_method_2_code (3 : Nat) (Option.none : Option Jvm.ClassFile.FieldType)) ∈ WALL := wl3 87 (by decide +kernel) rfl
theorem wd_615 : (Jvm.Cond.methodLink "StormBasin$Street" (28 : Nat) ({ cls := "StormBasin$Street", name := "volumeBefore", desc := "(I)I" } : Jvm.MethodName)) ∈ WALL := wl3 88 (by decide +kernel) rfl
theorem wd_617 : (Jvm.Cond.instanceMethod ({ cls := "StormBasin$Street", name := "volumeBefore", desc := "(I)I" } : Jvm.MethodName)) ∈ WALL := wl3 90 (by decide +kernel) rfl
theorem wd_618 : (Jvm.Cond.code ({ cls := "StormBasin$Street", name := "volumeBefore", desc := "(I)I" } : Jvm.MethodName) prog_5_method_3_code (4 : Nat) (Option.some Jvm.ClassFile.FieldType.int)) ∈ WALL := wl3 91 (by decide +kernel) rfl
theorem wd_619 : (Jvm.Cond.methodLink "StormBasin$Street" (32 : Nat) ({ cls := "StormBasin$Street", name := "cellsAhead", desc := "(II)I" } : Jvm.MethodName)) ∈ WALL := wl3 92 (by decide +kernel) rfl
theorem wd_621 : (Jvm.Cond.instanceMethod ({ cls := "StormBasin$Street", name := "cellsAhead", desc := "(II)I" } : Jvm.MethodName)) ∈ WALL := wl3 94 (by decide +kernel) rfl
theorem wd_622 : (Jvm.Cond.code ({ cls := "StormBasin$Street", name := "cellsAhead", desc := "(II)I" } : Jvm.MethodName) prog_5_method_8_code (5 : Nat) (Option.some Jvm.ClassFile.FieldType.int)) ∈ WALL := wl3 95 (by decide +kernel) rfl
theorem wd_623 : (Jvm.Cond.methodLink "StormBasin$Street" (36 : Nat) ({ cls := "java/lang/Math", name := "max", desc := "(II)I" } : Jvm.MethodName)) ∈ WALL := wl3 96 (by decide +kernel) rfl
theorem wd_624 : (Jvm.Cond.methodLink "StormBasinLaw" (146 : Nat) ({ cls := "StormBasinLaw", name := "cellCount", desc := "(LStormBasin;I[J)I" } : Jvm.MethodName)) ∈ WALL := wl3 97 (by decide +kernel) rfl
theorem wd_625 : (Jvm.Cond.static ({ cls := "StormBasinLaw", name := "cellCount", desc := "(LStormBasin;I[J)I" } : Jvm.MethodName)) ∈ WALL := wl3 98 (by decide +kernel) rfl
theorem wd_626 : (Jvm.Cond.codeWith ({ cls := "StormBasinLaw", name := "cellCount", desc := "(LStormBasin;I[J)I" } : Jvm.MethodName) method_5_code (4 : Nat) (Option.some Jvm.ClassFile.FieldType.int) [((0 : Nat), (9 : Nat), (12 : Nat), (13 : Nat))]) ∈ WALL := wl3 99 (by decide +kernel) rfl
theorem wd_627 : (Jvm.Cond.methodLink "StormBasinLaw" (23 : Nat) ({ cls := "StormBasin", name := "cellCount", desc := "(I)I" } : Jvm.MethodName)) ∈ WALL := wl3 100 (by decide +kernel) rfl
theorem wd_628 : (Jvm.Cond.instanceMethod ({ cls := "StormBasin", name := "cellCount", desc := "(I)I" } : Jvm.MethodName)) ∈ WALL := wl3 101 (by decide +kernel) rfl
theorem wd_629 : (Jvm.Cond.selects "StormBasin" ({ cls := "StormBasin", name := "cellCount", desc := "(I)I" } : Jvm.MethodName) ({ cls := "StormBasin", name := "cellCount", desc := "(I)I" } : Jvm.MethodName)) ∈ WALL := wl3 102 (by decide +kernel) rfl
theorem wd_630 : (Jvm.Cond.code ({ cls := "StormBasin", name := "cellCount", desc := "(I)I" } : Jvm.MethodName) prog_1_method_5_code (2 : Nat) (Option.some Jvm.ClassFile.FieldType.int)) ∈ WALL := wl3 103 (by decide +kernel) rfl
theorem wd_631 : (Jvm.Cond.methodLink "StormBasinLaw" (150 : Nat) ({ cls := "StormBasinLaw", name := "capacityOf", desc := "(LStormBasin;I[J)I" } : Jvm.MethodName)) ∈ WALL := wl3 104 (by decide +kernel) rfl
theorem wd_632 : (Jvm.Cond.static ({ cls := "StormBasinLaw", name := "capacityOf", desc := "(LStormBasin;I[J)I" } : Jvm.MethodName)) ∈ WALL := wl3 105 (by decide +kernel) rfl
theorem wd_633 : (Jvm.Cond.codeWith ({ cls := "StormBasinLaw", name := "capacityOf", desc := "(LStormBasin;I[J)I" } : Jvm.MethodName) method_6_code (4 : Nat) (Option.some Jvm.ClassFile.FieldType.int) [((0 : Nat), (9 : Nat), (12 : Nat), (13 : Nat))]) ∈ WALL := wl3 106 (by decide +kernel) rfl
theorem wd_634 : (Jvm.Cond.methodLink "StormBasinLaw" (27 : Nat) ({ cls := "StormBasin", name := "capacityOf", desc := "(I)I" } : Jvm.MethodName)) ∈ WALL := wl3 107 (by decide +kernel) rfl
theorem wd_635 : (Jvm.Cond.instanceMethod ({ cls := "StormBasin", name := "capacityOf", desc := "(I)I" } : Jvm.MethodName)) ∈ WALL := wl3 108 (by decide +kernel) rfl
theorem wd_636 : (Jvm.Cond.selects "StormBasin" ({ cls := "StormBasin", name := "capacityOf", desc := "(I)I" } : Jvm.MethodName) ({ cls := "StormBasin", name := "capacityOf", desc := "(I)I" } : Jvm.MethodName)) ∈ WALL := wl3 109 (by decide +kernel) rfl
theorem wd_637 : (Jvm.Cond.code ({ cls := "StormBasin", name := "capacityOf", desc := "(I)I" } : Jvm.MethodName) prog_1_method_6_code (2 : Nat) (Option.some Jvm.ClassFile.FieldType.int)) ∈ WALL := wl3 110 (by decide +kernel) rfl
theorem wd_638 : (Jvm.Cond.methodLink "StormBasinLaw" (153 : Nat) ({ cls := "StormBasinLaw", name := "setHand", desc := "(LStormBasin;II[J)I" } : Jvm.MethodName)) ∈ WALL := wl3 111 (by decide +kernel) rfl
theorem wd_639 : (Jvm.Cond.static ({ cls := "StormBasinLaw", name := "setHand", desc := "(LStormBasin;II[J)I" } : Jvm.MethodName)) ∈ WALL := wl3 112 (by decide +kernel) rfl
theorem wd_640 : (Jvm.Cond.codeWith ({ cls := "StormBasinLaw", name := "setHand", desc := "(LStormBasin;II[J)I" } : Jvm.MethodName) method_7_code (5 : Nat) (Option.some Jvm.ClassFile.FieldType.int) [((0 : Nat), (10 : Nat), (13 : Nat), (13 : Nat)), ((0 : Nat), (10 : Nat), (17 : Nat), (15 : Nat))]) ∈ WALL := wl3 113 (by decide +kernel) rfl
theorem wd_641 : (Jvm.Cond.methodLink "StormBasinLaw" (30 : Nat) ({ cls := "StormBasin", name := "setHand", desc := "(II)I" } : Jvm.MethodName)) ∈ WALL := wl3 114 (by decide +kernel) rfl
theorem wd_642 : (Jvm.Cond.instanceMethod ({ cls := "StormBasin", name := "setHand", desc := "(II)I" } : Jvm.MethodName)) ∈ WALL := wl3 115 (by decide +kernel) rfl
theorem wd_643 : (Jvm.Cond.selects "StormBasin" ({ cls := "StormBasin", name := "setHand", desc := "(II)I" } : Jvm.MethodName) ({ cls := "StormBasin", name := "setHand", desc := "(II)I" } : Jvm.MethodName)) ∈ WALL := wl3 116 (by decide +kernel) rfl
theorem wd_644 : (Jvm.Cond.code ({ cls := "StormBasin", name := "setHand", desc := "(II)I" } : Jvm.MethodName) prog_1_method_7_code (5 : Nat) (Option.some Jvm.ClassFile.FieldType.int)) ∈ WALL := wl3 117 (by decide +kernel) rfl
theorem wd_645 : (Jvm.Cond.methodLink "StormBasin" (102 : Nat) ({ cls := "StormBasin", name := "requireOpening", desc := "(I)V" } : Jvm.MethodName)) ∈ WALL := wl3 118 (by decide +kernel) rfl
theorem wd_646 : (Jvm.Cond.static ({ cls := "StormBasin", name := "requireOpening", desc := "(I)V" } : Jvm.MethodName)) ∈ WALL := wl3 119 (by decide +kernel) rfl
theorem wd_647 : (Jvm.Cond.code ({ cls := "StormBasin", name := "requireOpening", desc := "(I)V" } : Jvm.MethodName) prog_1_method_46_code (1 : Nat) (Option.none : Option Jvm.ClassFile.FieldType)) ∈ WALL := wl3 120 (by decide +kernel) rfl
theorem wd_649 : (Jvm.Cond.methodLink "StormBasinLaw" (156 : Nat) ({ cls := "StormBasinLaw", name := "addRule", desc := "(LStormBasin;IIZII[J)I" } : Jvm.MethodName)) ∈ WALL := wl3 122 (by decide +kernel) rfl
theorem wd_650 : (Jvm.Cond.static ({ cls := "StormBasinLaw", name := "addRule", desc := "(LStormBasin;IIZII[J)I" } : Jvm.MethodName)) ∈ WALL := wl3 123 (by decide +kernel) rfl
theorem wd_651 : (Jvm.Cond.codeWith ({ cls := "StormBasinLaw", name := "addRule", desc := "(LStormBasin;IIZII[J)I" } : Jvm.MethodName) method_8_code (8 : Nat) (Option.some Jvm.ClassFile.FieldType.int) [((0 : Nat), (16 : Nat), (19 : Nat), (13 : Nat)), ((0 : Nat), (16 : Nat), (23 : Nat), (15 : Nat)), ((0 : Nat), (16 : Nat), (27 : Nat), (17 : Nat))]) ∈ WALL := wl3 124 (by decide +kernel) rfl
theorem wd_652 : (Jvm.Cond.methodLink "StormBasinLaw" (33 : Nat) ({ cls := "StormBasin", name := "addRule", desc := "(IIZII)I" } : Jvm.MethodName)) ∈ WALL := wl3 125 (by decide +kernel) rfl
theorem wd_653 : (Jvm.Cond.instanceMethod ({ cls := "StormBasin", name := "addRule", desc := "(IIZII)I" } : Jvm.MethodName)) ∈ WALL := wl3 126 (by decide +kernel) rfl
theorem wd_654 : (Jvm.Cond.selects "StormBasin" ({ cls := "StormBasin", name := "addRule", desc := "(IIZII)I" } : Jvm.MethodName) ({ cls := "StormBasin", name := "addRule", desc := "(IIZII)I" } : Jvm.MethodName)) ∈ WALL := wl3 127 (by decide +kernel) rfl
theorem wd_655 : (Jvm.Cond.code ({ cls := "StormBasin", name := "addRule", desc := "(IIZII)I" } : Jvm.MethodName) prog_1_method_8_code (6 : Nat) (Option.some Jvm.ClassFile.FieldType.int)) ∈ WALL := wl3 128 (by decide +kernel) rfl
theorem wd_658 : (Jvm.Cond.instantiable "StormBasin$Rule" (5 : Nat)) ∈ WALL := wl3 131 (by decide +kernel) rfl
theorem wd_659 : (Jvm.Cond.methodLink "StormBasin" (117 : Nat) ({ cls := "StormBasin$Rule", name := "<init>", desc := "(IIZII)V" } : Jvm.MethodName)) ∈ WALL := wl3 132 (by decide +kernel) rfl
theorem wd_660 : (Jvm.Cond.instanceMethod ({ cls := "StormBasin$Rule", name := "<init>", desc := "(IIZII)V" } : Jvm.MethodName)) ∈ WALL := wl3 133 (by decide +kernel) rfl
theorem wd_661 : (Jvm.Cond.code ({ cls := "StormBasin$Rule", name := "<init>", desc := "(IIZII)V" } : Jvm.MethodName) prog_4_method_1_code (6 : Nat) (Option.none : Option Jvm.ClassFile.FieldType)) ∈ WALL := wl3 134 (by decide +kernel) rfl
theorem wd_662 : (Jvm.Cond.methodLink "StormBasin$Rule" (1 : Nat) ({ cls := "java/lang/Object", name := "<init>", desc := "()V" } : Jvm.MethodName)) ∈ WALL := wl3 135 (by decide +kernel) rfl
theorem wd_663 : (Jvm.Cond.fieldLink "StormBasin$Rule" (7 : Nat) "StormBasin$Rule" "basin" "I") ∈ WALL := wl3 136 (by decide +kernel) rfl
theorem wd_664 : (Jvm.Cond.fieldLink "StormBasin" (269 : Nat) "StormBasin$Rule" "basin" "I") ∈ WALL := wl3 137 (by decide +kernel) rfl
theorem wd_665 : (Jvm.Cond.fieldLink "StormBasin$Rule" (13 : Nat) "StormBasin$Rule" "observed" "I") ∈ WALL := wl3 138 (by decide +kernel) rfl
theorem wd_666 : (Jvm.Cond.fieldLink "StormBasin" (278 : Nat) "StormBasin$Rule" "observed" "I") ∈ WALL := wl3 139 (by decide +kernel) rfl
theorem wd_667 : (Jvm.Cond.fieldLink "StormBasin$Rule" (16 : Nat) "StormBasin$Rule" "isFrom" "Z") ∈ WALL := wl3 140 (by decide +kernel) rfl
theorem wd_668 : (Jvm.Cond.fieldLink "StormBasin" (281 : Nat) "StormBasin$Rule" "isFrom" "Z") ∈ WALL := wl3 141 (by decide +kernel) rfl
theorem wd_669 : (Jvm.Cond.fieldLink "StormBasin$Rule" (20 : Nat) "StormBasin$Rule" "level" "I") ∈ WALL := wl3 142 (by decide +kernel) rfl
theorem wd_670 : (Jvm.Cond.fieldLink "StormBasin" (285 : Nat) "StormBasin$Rule" "level" "I") ∈ WALL := wl3 143 (by decide +kernel) rfl
theorem wd_671 : (Jvm.Cond.fieldLink "StormBasin$Rule" (23 : Nat) "StormBasin$Rule" "opening" "I") ∈ WALL := wl3 144 (by decide +kernel) rfl
theorem wd_672 : (Jvm.Cond.fieldLink "StormBasin" (288 : Nat) "StormBasin$Rule" "opening" "I") ∈ WALL := wl3 145 (by decide +kernel) rfl
theorem wd_673 : (Jvm.Cond.laysFinal "StormBasin$Rule" "StormBasin$Rule" "basin" "I") ∈ WALL := wl3 146 (by decide +kernel) rfl
theorem wd_675 : (Jvm.Cond.laysFinal "StormBasin$Rule" "StormBasin$Rule" "observed" "I") ∈ WALL := wl3 148 (by decide +kernel) rfl
theorem wd_677 : (Jvm.Cond.laysFinal "StormBasin$Rule" "StormBasin$Rule" "isFrom" "Z") ∈ WALL := wl3 150 (by decide +kernel) rfl
theorem wd_679 : (Jvm.Cond.laysFinal "StormBasin$Rule" "StormBasin$Rule" "level" "I") ∈ WALL := wl3 152 (by decide +kernel) rfl
theorem wd_681 : (Jvm.Cond.laysFinal "StormBasin$Rule" "StormBasin$Rule" "opening" "I") ∈ WALL := wl3 154 (by decide +kernel) rfl
theorem wd_683 : (Jvm.Cond.superclass "StormBasin$Rule" "java/lang/Object") ∈ WALL := wl3 156 (by decide +kernel) rfl
theorem wd_684 : (Jvm.Cond.methodLink "StormBasinLaw" (160 : Nat) ({ cls := "StormBasinLaw", name := "removeRule", desc := "(LStormBasin;I[J)I" } : Jvm.MethodName)) ∈ WALL := wl3 157 (by decide +kernel) rfl
theorem wd_685 : (Jvm.Cond.static ({ cls := "StormBasinLaw", name := "removeRule", desc := "(LStormBasin;I[J)I" } : Jvm.MethodName)) ∈ WALL := wl3 158 (by decide +kernel) rfl
theorem wd_686 : (Jvm.Cond.codeWith ({ cls := "StormBasinLaw", name := "removeRule", desc := "(LStormBasin;I[J)I" } : Jvm.MethodName) method_9_code (4 : Nat) (Option.some Jvm.ClassFile.FieldType.int) [((0 : Nat), (9 : Nat), (12 : Nat), (13 : Nat))]) ∈ WALL := wl3 159 (by decide +kernel) rfl
theorem wd_687 : (Jvm.Cond.methodLink "StormBasinLaw" (37 : Nat) ({ cls := "StormBasin", name := "removeRule", desc := "(I)I" } : Jvm.MethodName)) ∈ WALL := wl3 160 (by decide +kernel) rfl
theorem wd_688 : (Jvm.Cond.instanceMethod ({ cls := "StormBasin", name := "removeRule", desc := "(I)I" } : Jvm.MethodName)) ∈ WALL := wl3 161 (by decide +kernel) rfl
theorem wd_689 : (Jvm.Cond.selects "StormBasin" ({ cls := "StormBasin", name := "removeRule", desc := "(I)I" } : Jvm.MethodName) ({ cls := "StormBasin", name := "removeRule", desc := "(I)I" } : Jvm.MethodName)) ∈ WALL := wl3 162 (by decide +kernel) rfl
theorem wd_690 : (Jvm.Cond.code ({ cls := "StormBasin", name := "removeRule", desc := "(I)I" } : Jvm.MethodName) prog_1_method_9_code (2 : Nat) (Option.some Jvm.ClassFile.FieldType.int)) ∈ WALL := wl3 163 (by decide +kernel) rfl
theorem wd_691 : (Jvm.Cond.methodLink "StormBasin" (120 : Nat) ({ cls := "StormBasin", name := "requireRule", desc := "(I)V" } : Jvm.MethodName)) ∈ WALL := wl3 164 (by decide +kernel) rfl
theorem wd_693 : (Jvm.Cond.instanceMethod ({ cls := "StormBasin", name := "requireRule", desc := "(I)V" } : Jvm.MethodName)) ∈ WALL := wl3 166 (by decide +kernel) rfl
theorem wd_694 : (Jvm.Cond.code ({ cls := "StormBasin", name := "requireRule", desc := "(I)V" } : Jvm.MethodName) prog_1_method_50_code (2 : Nat) (Option.none : Option Jvm.ClassFile.FieldType)) ∈ WALL := wl3 167 (by decide +kernel) rfl
theorem wd_696 : (Jvm.Cond.methodLink "StormBasin" (123 : Nat) ({ cls := "java/util/ArrayList", name := "remove", desc := "(I)Ljava/lang/Object;" } : Jvm.MethodName)) ∈ WALL := wl3 169 (by decide +kernel) rfl
theorem wd_697 : (Jvm.Cond.instanceMethod ({ cls := "java/util/ArrayList", name := "remove", desc := "(I)Ljava/lang/Object;" } : Jvm.MethodName)) ∈ WALL := wl3 170 (by decide +kernel) rfl
theorem wd_698 : (Jvm.Cond.selects "java/util/ArrayList" ({ cls := "java/util/ArrayList", name := "remove", desc := "(I)Ljava/lang/Object;" } : Jvm.MethodName) ({ cls := "java/util/ArrayList", name := "remove", desc := "(I)Ljava/lang/Object;" } : Jvm.MethodName)) ∈ WALL := wl3 171 (by decide +kernel) rfl
theorem wd_699 : (Jvm.Cond.code ({ cls := "java/util/ArrayList", name := "remove", desc := "(I)Ljava/lang/Object;" } : Jvm.MethodName) prog_38_method_29_code (4 : Nat) (Option.some (Jvm.ClassFile.FieldType.object "java/lang/Object"))) ∈ WALL := wl3 172 (by decide +kernel) rfl
theorem wd_700 : (Jvm.Cond.methodLink "java/util/ArrayList" (144 : Nat) ({ cls := "java/util/ArrayList", name := "fastRemove", desc := "([Ljava/lang/Object;I)V" } : Jvm.MethodName)) ∈ WALL := wl3 173 (by decide +kernel) rfl
theorem wd_702 : (Jvm.Cond.instanceMethod ({ cls := "java/util/ArrayList", name := "fastRemove", desc := "([Ljava/lang/Object;I)V" } : Jvm.MethodName)) ∈ WALL := wl3 175 (by decide +kernel) rfl
theorem wd_703 : (Jvm.Cond.code ({ cls := "java/util/ArrayList", name := "fastRemove", desc := "([Ljava/lang/Object;I)V" } : Jvm.MethodName) prog_38_method_39_code (4 : Nat) (Option.none : Option Jvm.ClassFile.FieldType)) ∈ WALL := wl3 176 (by decide +kernel) rfl
theorem wd_704 : (Jvm.Cond.methodLink "java/util/ArrayList" (112 : Nat) ({ cls := "java/lang/System", name := "arraycopy", desc := "(Ljava/lang/Object;ILjava/lang/Object;II)V" } : Jvm.MethodName)) ∈ WALL := wl3 177 (by decide +kernel) rfl
theorem wd_705 : (Jvm.Cond.methodLink "StormBasinLaw" (167 : Nat) ({ cls := "StormBasinLaw", name := "doesHold", desc := "(LStormBasin;I[J)I" } : Jvm.MethodName)) ∈ WALL := wl3 178 (by decide +kernel) rfl
theorem wd_706 : (Jvm.Cond.static ({ cls := "StormBasinLaw", name := "doesHold", desc := "(LStormBasin;I[J)I" } : Jvm.MethodName)) ∈ WALL := wl3 179 (by decide +kernel) rfl
theorem wd_707 : (Jvm.Cond.codeWith ({ cls := "StormBasinLaw", name := "doesHold", desc := "(LStormBasin;I[J)I" } : Jvm.MethodName) method_10_code (4 : Nat) (Option.some Jvm.ClassFile.FieldType.int) [((0 : Nat), (16 : Nat), (19 : Nat), (13 : Nat))]) ∈ WALL := wl3 180 (by decide +kernel) rfl
theorem wd_708 : (Jvm.Cond.methodLink "StormBasinLaw" (40 : Nat) ({ cls := "StormBasin", name := "doesHold", desc := "(I)Z" } : Jvm.MethodName)) ∈ WALL := wl3 181 (by decide +kernel) rfl
theorem wd_709 : (Jvm.Cond.instanceMethod ({ cls := "StormBasin", name := "doesHold", desc := "(I)Z" } : Jvm.MethodName)) ∈ WALL := wl3 182 (by decide +kernel) rfl
theorem wd_710 : (Jvm.Cond.selects "StormBasin" ({ cls := "StormBasin", name := "doesHold", desc := "(I)Z" } : Jvm.MethodName) ({ cls := "StormBasin", name := "doesHold", desc := "(I)Z" } : Jvm.MethodName)) ∈ WALL := wl3 183 (by decide +kernel) rfl
theorem wd_711 : (Jvm.Cond.code ({ cls := "StormBasin", name := "doesHold", desc := "(I)Z" } : Jvm.MethodName) prog_1_method_11_code (2 : Nat) (Option.some Jvm.ClassFile.FieldType.boolean)) ∈ WALL := wl3 184 (by decide +kernel) rfl
theorem wd_712 : (Jvm.Cond.methodLink "StormBasinLaw" (170 : Nat) ({ cls := "StormBasinLaw", name := "openingNow", desc := "(LStormBasin;I[J)I" } : Jvm.MethodName)) ∈ WALL := wl3 185 (by decide +kernel) rfl
theorem wd_713 : (Jvm.Cond.static ({ cls := "StormBasinLaw", name := "openingNow", desc := "(LStormBasin;I[J)I" } : Jvm.MethodName)) ∈ WALL := wl3 186 (by decide +kernel) rfl
theorem wd_714 : (Jvm.Cond.codeWith ({ cls := "StormBasinLaw", name := "openingNow", desc := "(LStormBasin;I[J)I" } : Jvm.MethodName) method_11_code (4 : Nat) (Option.some Jvm.ClassFile.FieldType.int) [((0 : Nat), (9 : Nat), (12 : Nat), (13 : Nat))]) ∈ WALL := wl3 187 (by decide +kernel) rfl
theorem wd_715 : (Jvm.Cond.methodLink "StormBasinLaw" (44 : Nat) ({ cls := "StormBasin", name := "openingNow", desc := "(I)I" } : Jvm.MethodName)) ∈ WALL := wl3 188 (by decide +kernel) rfl
theorem wd_716 : (Jvm.Cond.instanceMethod ({ cls := "StormBasin", name := "openingNow", desc := "(I)I" } : Jvm.MethodName)) ∈ WALL := wl3 189 (by decide +kernel) rfl
theorem wd_717 : (Jvm.Cond.selects "StormBasin" ({ cls := "StormBasin", name := "openingNow", desc := "(I)I" } : Jvm.MethodName) ({ cls := "StormBasin", name := "openingNow", desc := "(I)I" } : Jvm.MethodName)) ∈ WALL := wl3 190 (by decide +kernel) rfl
theorem wd_718 : (Jvm.Cond.code ({ cls := "StormBasin", name := "openingNow", desc := "(I)I" } : Jvm.MethodName) prog_1_method_12_code (2 : Nat) (Option.some Jvm.ClassFile.FieldType.int)) ∈ WALL := wl3 191 (by decide +kernel) rfl
theorem wd_719 : (Jvm.Cond.methodLink "StormBasinLaw" (173 : Nat) ({ cls := "StormBasinLaw", name := "setRain", desc := "(LStormBasin;II[J)I" } : Jvm.MethodName)) ∈ WALL := wl3 192 (by decide +kernel) rfl
theorem wd_720 : (Jvm.Cond.static ({ cls := "StormBasinLaw", name := "setRain", desc := "(LStormBasin;II[J)I" } : Jvm.MethodName)) ∈ WALL := wl3 193 (by decide +kernel) rfl
theorem wd_721 : (Jvm.Cond.codeWith ({ cls := "StormBasinLaw", name := "setRain", desc := "(LStormBasin;II[J)I" } : Jvm.MethodName) method_12_code (5 : Nat) (Option.some Jvm.ClassFile.FieldType.int) [((0 : Nat), (10 : Nat), (13 : Nat), (13 : Nat)), ((0 : Nat), (10 : Nat), (17 : Nat), (15 : Nat))]) ∈ WALL := wl3 194 (by decide +kernel) rfl
theorem wd_722 : (Jvm.Cond.methodLink "StormBasinLaw" (47 : Nat) ({ cls := "StormBasin", name := "setRain", desc := "(II)I" } : Jvm.MethodName)) ∈ WALL := wl3 195 (by decide +kernel) rfl
theorem wd_723 : (Jvm.Cond.instanceMethod ({ cls := "StormBasin", name := "setRain", desc := "(II)I" } : Jvm.MethodName)) ∈ WALL := wl3 196 (by decide +kernel) rfl
theorem wd_724 : (Jvm.Cond.selects "StormBasin" ({ cls := "StormBasin", name := "setRain", desc := "(II)I" } : Jvm.MethodName) ({ cls := "StormBasin", name := "setRain", desc := "(II)I" } : Jvm.MethodName)) ∈ WALL := wl3 197 (by decide +kernel) rfl
theorem wd_725 : (Jvm.Cond.code ({ cls := "StormBasin", name := "setRain", desc := "(II)I" } : Jvm.MethodName) prog_1_method_13_code (5 : Nat) (Option.some Jvm.ClassFile.FieldType.int)) ∈ WALL := wl3 198 (by decide +kernel) rfl
theorem wd_727 : (Jvm.Cond.methodLink "StormBasinLaw" (176 : Nat) ({ cls := "StormBasinLaw", name := "pass", desc := "(LStormBasin;I[J)I" } : Jvm.MethodName)) ∈ WALL := wl3 200 (by decide +kernel) rfl
theorem wd_728 : (Jvm.Cond.static ({ cls := "StormBasinLaw", name := "pass", desc := "(LStormBasin;I[J)I" } : Jvm.MethodName)) ∈ WALL := wl3 201 (by decide +kernel) rfl
theorem wd_729 : (Jvm.Cond.codeWith ({ cls := "StormBasinLaw", name := "pass", desc := "(LStormBasin;I[J)I" } : Jvm.MethodName) method_13_code (4 : Nat) (Option.some Jvm.ClassFile.FieldType.int) [((0 : Nat), (9 : Nat), (12 : Nat), (15 : Nat)), ((0 : Nat), (9 : Nat), (15 : Nat), (17 : Nat))]) ∈ WALL := wl3 202 (by decide +kernel) rfl
theorem wd_730 : (Jvm.Cond.methodLink "StormBasinLaw" (50 : Nat) ({ cls := "StormBasin", name := "pass", desc := "(I)I" } : Jvm.MethodName)) ∈ WALL := wl3 203 (by decide +kernel) rfl
theorem wd_731 : (Jvm.Cond.instanceMethod ({ cls := "StormBasin", name := "pass", desc := "(I)I" } : Jvm.MethodName)) ∈ WALL := wl3 204 (by decide +kernel) rfl
theorem wd_732 : (Jvm.Cond.selects "StormBasin" ({ cls := "StormBasin", name := "pass", desc := "(I)I" } : Jvm.MethodName) ({ cls := "StormBasin", name := "pass", desc := "(I)I" } : Jvm.MethodName)) ∈ WALL := wl3 205 (by decide +kernel) rfl
theorem wd_733 : (Jvm.Cond.code ({ cls := "StormBasin", name := "pass", desc := "(I)I" } : Jvm.MethodName) prog_1_method_14_code (3 : Nat) (Option.some Jvm.ClassFile.FieldType.int)) ∈ WALL := wl3 206 (by decide +kernel) rfl
theorem wd_735 : (Jvm.Cond.methodLink "StormBasin" (145 : Nat) ({ cls := "java/util/ArrayList", name := "isEmpty", desc := "()Z" } : Jvm.MethodName)) ∈ WALL := wl3 208 (by decide +kernel) rfl
theorem wd_736 : (Jvm.Cond.instanceMethod ({ cls := "java/util/ArrayList", name := "isEmpty", desc := "()Z" } : Jvm.MethodName)) ∈ WALL := wl3 209 (by decide +kernel) rfl
theorem wd_737 : (Jvm.Cond.selects "java/util/ArrayList" ({ cls := "java/util/ArrayList", name := "isEmpty", desc := "()Z" } : Jvm.MethodName) ({ cls := "java/util/ArrayList", name := "isEmpty", desc := "()Z" } : Jvm.MethodName)) ∈ WALL := wl3 210 (by decide +kernel) rfl
theorem wd_738 : (Jvm.Cond.code ({ cls := "java/util/ArrayList", name := "isEmpty", desc := "()Z" } : Jvm.MethodName) prog_38_method_9_code (1 : Nat) (Option.some Jvm.ClassFile.FieldType.boolean)) ∈ WALL := wl3 211 (by decide +kernel) rfl
theorem wd_741 : (Jvm.Cond.methodLink "StormBasin" (156 : Nat) ({ cls := "StormBasin", name := "passOneHour", desc := "()V" } : Jvm.MethodName)) ∈ WALL := wl3 214 (by decide +kernel) rfl
theorem wd_743 : (Jvm.Cond.instanceMethod ({ cls := "StormBasin", name := "passOneHour", desc := "()V" } : Jvm.MethodName)) ∈ WALL := wl3 216 (by decide +kernel) rfl
theorem wd_744 : (Jvm.Cond.code ({ cls := "StormBasin", name := "passOneHour", desc := "()V" } : Jvm.MethodName) prog_1_method_54_code (4 : Nat) (Option.none : Option Jvm.ClassFile.FieldType)) ∈ WALL := wl3 217 (by decide +kernel) rfl
theorem wd_745 : (Jvm.Cond.methodLink "StormBasinLaw" (183 : Nat) ({ cls := "StormBasinLaw", name := "volumeOf", desc := "(LStormBasin;I[J)I" } : Jvm.MethodName)) ∈ WALL := wl3 218 (by decide +kernel) rfl
theorem wd_746 : (Jvm.Cond.static ({ cls := "StormBasinLaw", name := "volumeOf", desc := "(LStormBasin;I[J)I" } : Jvm.MethodName)) ∈ WALL := wl3 219 (by decide +kernel) rfl
theorem wd_747 : (Jvm.Cond.codeWith ({ cls := "StormBasinLaw", name := "volumeOf", desc := "(LStormBasin;I[J)I" } : Jvm.MethodName) method_14_code (4 : Nat) (Option.some Jvm.ClassFile.FieldType.int) [((0 : Nat), (9 : Nat), (12 : Nat), (13 : Nat))]) ∈ WALL := wl3 220 (by decide +kernel) rfl
theorem wd_748 : (Jvm.Cond.methodLink "StormBasinLaw" (53 : Nat) ({ cls := "StormBasin", name := "volumeOf", desc := "(I)I" } : Jvm.MethodName)) ∈ WALL := wl3 221 (by decide +kernel) rfl
theorem wd_749 : (Jvm.Cond.instanceMethod ({ cls := "StormBasin", name := "volumeOf", desc := "(I)I" } : Jvm.MethodName)) ∈ WALL := wl3 222 (by decide +kernel) rfl
theorem wd_750 : (Jvm.Cond.selects "StormBasin" ({ cls := "StormBasin", name := "volumeOf", desc := "(I)I" } : Jvm.MethodName) ({ cls := "StormBasin", name := "volumeOf", desc := "(I)I" } : Jvm.MethodName)) ∈ WALL := wl3 223 (by decide +kernel) rfl
theorem wd_751 : (Jvm.Cond.code ({ cls := "StormBasin", name := "volumeOf", desc := "(I)I" } : Jvm.MethodName) prog_1_method_16_code (2 : Nat) (Option.some Jvm.ClassFile.FieldType.int)) ∈ WALL := wl3 224 (by decide +kernel) rfl
theorem wd_752 : (Jvm.Cond.methodLink "StormBasinLaw" (186 : Nat) ({ cls := "StormBasinLaw", name := "levelOf", desc := "(LStormBasin;I[J)I" } : Jvm.MethodName)) ∈ WALL := wl3 225 (by decide +kernel) rfl
theorem wd_753 : (Jvm.Cond.static ({ cls := "StormBasinLaw", name := "levelOf", desc := "(LStormBasin;I[J)I" } : Jvm.MethodName)) ∈ WALL := wl3 226 (by decide +kernel) rfl
theorem wd_754 : (Jvm.Cond.codeWith ({ cls := "StormBasinLaw", name := "levelOf", desc := "(LStormBasin;I[J)I" } : Jvm.MethodName) method_15_code (4 : Nat) (Option.some Jvm.ClassFile.FieldType.int) [((0 : Nat), (9 : Nat), (12 : Nat), (13 : Nat))]) ∈ WALL := wl3 227 (by decide +kernel) rfl
theorem wd_755 : (Jvm.Cond.methodLink "StormBasinLaw" (56 : Nat) ({ cls := "StormBasin", name := "levelOf", desc := "(I)I" } : Jvm.MethodName)) ∈ WALL := wl3 228 (by decide +kernel) rfl
theorem wd_756 : (Jvm.Cond.instanceMethod ({ cls := "StormBasin", name := "levelOf", desc := "(I)I" } : Jvm.MethodName)) ∈ WALL := wl3 229 (by decide +kernel) rfl
theorem wd_757 : (Jvm.Cond.selects "StormBasin" ({ cls := "StormBasin", name := "levelOf", desc := "(I)I" } : Jvm.MethodName) ({ cls := "StormBasin", name := "levelOf", desc := "(I)I" } : Jvm.MethodName)) ∈ WALL := wl3 230 (by decide +kernel) rfl
theorem wd_758 : (Jvm.Cond.code ({ cls := "StormBasin", name := "levelOf", desc := "(I)I" } : Jvm.MethodName) prog_1_method_17_code (2 : Nat) (Option.some Jvm.ClassFile.FieldType.int)) ∈ WALL := wl3 231 (by decide +kernel) rfl
theorem wd_759 : (Jvm.Cond.methodLink "StormBasinLaw" (189 : Nat) ({ cls := "StormBasinLaw", name := "streetVolume", desc := "(LStormBasin;I[J)I" } : Jvm.MethodName)) ∈ WALL := wl3 232 (by decide +kernel) rfl
theorem wd_760 : (Jvm.Cond.static ({ cls := "StormBasinLaw", name := "streetVolume", desc := "(LStormBasin;I[J)I" } : Jvm.MethodName)) ∈ WALL := wl3 233 (by decide +kernel) rfl
theorem wd_761 : (Jvm.Cond.codeWith ({ cls := "StormBasinLaw", name := "streetVolume", desc := "(LStormBasin;I[J)I" } : Jvm.MethodName) method_16_code (4 : Nat) (Option.some Jvm.ClassFile.FieldType.int) [((0 : Nat), (9 : Nat), (12 : Nat), (13 : Nat))]) ∈ WALL := wl3 234 (by decide +kernel) rfl
theorem wd_762 : (Jvm.Cond.methodLink "StormBasinLaw" (59 : Nat) ({ cls := "StormBasin", name := "streetVolume", desc := "(I)I" } : Jvm.MethodName)) ∈ WALL := wl3 235 (by decide +kernel) rfl
theorem wd_763 : (Jvm.Cond.instanceMethod ({ cls := "StormBasin", name := "streetVolume", desc := "(I)I" } : Jvm.MethodName)) ∈ WALL := wl3 236 (by decide +kernel) rfl
theorem wd_764 : (Jvm.Cond.selects "StormBasin" ({ cls := "StormBasin", name := "streetVolume", desc := "(I)I" } : Jvm.MethodName) ({ cls := "StormBasin", name := "streetVolume", desc := "(I)I" } : Jvm.MethodName)) ∈ WALL := wl3 237 (by decide +kernel) rfl
theorem wd_765 : (Jvm.Cond.code ({ cls := "StormBasin", name := "streetVolume", desc := "(I)I" } : Jvm.MethodName) prog_1_method_18_code (2 : Nat) (Option.some Jvm.ClassFile.FieldType.int)) ∈ WALL := wl3 238 (by decide +kernel) rfl
theorem wd_766 : (Jvm.Cond.methodLink "StormBasinLaw" (209 : Nat) ({ cls := "StormBasinLaw", name := "depthAt", desc := "(LStormBasin;II[J)I" } : Jvm.MethodName)) ∈ WALL := wl3 239 (by decide +kernel) rfl
theorem wd_767 : (Jvm.Cond.static ({ cls := "StormBasinLaw", name := "depthAt", desc := "(LStormBasin;II[J)I" } : Jvm.MethodName)) ∈ WALL := wl4 0 (by decide +kernel) rfl
theorem wd_768 : (Jvm.Cond.codeWith ({ cls := "StormBasinLaw", name := "depthAt", desc := "(LStormBasin;II[J)I" } : Jvm.MethodName) method_17_code (5 : Nat) (Option.some Jvm.ClassFile.FieldType.int) [((0 : Nat), (10 : Nat), (13 : Nat), (13 : Nat))]) ∈ WALL := wl4 1 (by decide +kernel) rfl
theorem wd_769 : (Jvm.Cond.methodLink "StormBasinLaw" (62 : Nat) ({ cls := "StormBasin", name := "depthAt", desc := "(II)I" } : Jvm.MethodName)) ∈ WALL := wl4 2 (by decide +kernel) rfl
theorem wd_770 : (Jvm.Cond.instanceMethod ({ cls := "StormBasin", name := "depthAt", desc := "(II)I" } : Jvm.MethodName)) ∈ WALL := wl4 3 (by decide +kernel) rfl
theorem wd_771 : (Jvm.Cond.selects "StormBasin" ({ cls := "StormBasin", name := "depthAt", desc := "(II)I" } : Jvm.MethodName) ({ cls := "StormBasin", name := "depthAt", desc := "(II)I" } : Jvm.MethodName)) ∈ WALL := wl4 4 (by decide +kernel) rfl
theorem wd_772 : (Jvm.Cond.code ({ cls := "StormBasin", name := "depthAt", desc := "(II)I" } : Jvm.MethodName) prog_1_method_23_code (4 : Nat) (Option.some Jvm.ClassFile.FieldType.int)) ∈ WALL := wl4 5 (by decide +kernel) rfl
theorem wd_773 : (Jvm.Cond.methodLink "StormBasin" (178 : Nat) ({ cls := "StormBasin", name := "streetWith", desc := "(II)LStormBasin$Street;" } : Jvm.MethodName)) ∈ WALL := wl4 6 (by decide +kernel) rfl
theorem wd_775 : (Jvm.Cond.instanceMethod ({ cls := "StormBasin", name := "streetWith", desc := "(II)LStormBasin$Street;" } : Jvm.MethodName)) ∈ WALL := wl4 8 (by decide +kernel) rfl
theorem wd_776 : (Jvm.Cond.code ({ cls := "StormBasin", name := "streetWith", desc := "(II)LStormBasin$Street;" } : Jvm.MethodName) prog_1_method_52_code (4 : Nat) (Option.some (Jvm.ClassFile.FieldType.object "StormBasin$Street"))) ∈ WALL := wl4 9 (by decide +kernel) rfl
theorem wd_778 : (Jvm.Cond.methodLink "StormBasin" (182 : Nat) ({ cls := "StormBasin$Street", name := "depthOf", desc := "(II)I" } : Jvm.MethodName)) ∈ WALL := wl4 11 (by decide +kernel) rfl
theorem wd_779 : (Jvm.Cond.instanceMethod ({ cls := "StormBasin$Street", name := "depthOf", desc := "(II)I" } : Jvm.MethodName)) ∈ WALL := wl4 12 (by decide +kernel) rfl
theorem wd_780 : (Jvm.Cond.selects "StormBasin$Street" ({ cls := "StormBasin$Street", name := "depthOf", desc := "(II)I" } : Jvm.MethodName) ({ cls := "StormBasin$Street", name := "depthOf", desc := "(II)I" } : Jvm.MethodName)) ∈ WALL := wl4 13 (by decide +kernel) rfl
theorem wd_781 : (Jvm.Cond.code ({ cls := "StormBasin$Street", name := "depthOf", desc := "(II)I" } : Jvm.MethodName) prog_5_method_6_code (7 : Nat) (Option.some Jvm.ClassFile.FieldType.int)) ∈ WALL := wl4 14 (by decide +kernel) rfl
theorem wd_782 : (Jvm.Cond.methodLink "StormBasin$Street" (45 : Nat) ({ cls := "StormBasin$Street", name := "cellsUpTo", desc := "(I)I" } : Jvm.MethodName)) ∈ WALL := wl4 15 (by decide +kernel) rfl
theorem wd_784 : (Jvm.Cond.instanceMethod ({ cls := "StormBasin$Street", name := "cellsUpTo", desc := "(I)I" } : Jvm.MethodName)) ∈ WALL := wl4 17 (by decide +kernel) rfl
theorem wd_785 : (Jvm.Cond.code ({ cls := "StormBasin$Street", name := "cellsUpTo", desc := "(I)I" } : Jvm.MethodName) prog_5_method_7_code (2 : Nat) (Option.some Jvm.ClassFile.FieldType.int)) ∈ WALL := wl4 18 (by decide +kernel) rfl
theorem wd_786 : (Jvm.Cond.methodLink "StormBasinLaw" (212 : Nat) ({ cls := "StormBasinLaw", name := "depthByPouring", desc := "(LStormBasin;II[J)I" } : Jvm.MethodName)) ∈ WALL := wl4 19 (by decide +kernel) rfl
theorem wd_787 : (Jvm.Cond.static ({ cls := "StormBasinLaw", name := "depthByPouring", desc := "(LStormBasin;II[J)I" } : Jvm.MethodName)) ∈ WALL := wl4 20 (by decide +kernel) rfl
theorem wd_788 : (Jvm.Cond.codeWith ({ cls := "StormBasinLaw", name := "depthByPouring", desc := "(LStormBasin;II[J)I" } : Jvm.MethodName) method_18_code (5 : Nat) (Option.some Jvm.ClassFile.FieldType.int) [((0 : Nat), (10 : Nat), (13 : Nat), (13 : Nat))]) ∈ WALL := wl4 21 (by decide +kernel) rfl
theorem wd_789 : (Jvm.Cond.methodLink "StormBasinLaw" (65 : Nat) ({ cls := "StormBasin", name := "depthByPouring", desc := "(II)I" } : Jvm.MethodName)) ∈ WALL := wl4 22 (by decide +kernel) rfl
theorem wd_790 : (Jvm.Cond.instanceMethod ({ cls := "StormBasin", name := "depthByPouring", desc := "(II)I" } : Jvm.MethodName)) ∈ WALL := wl4 23 (by decide +kernel) rfl
theorem wd_791 : (Jvm.Cond.selects "StormBasin" ({ cls := "StormBasin", name := "depthByPouring", desc := "(II)I" } : Jvm.MethodName) ({ cls := "StormBasin", name := "depthByPouring", desc := "(II)I" } : Jvm.MethodName)) ∈ WALL := wl4 24 (by decide +kernel) rfl
theorem wd_792 : (Jvm.Cond.code ({ cls := "StormBasin", name := "depthByPouring", desc := "(II)I" } : Jvm.MethodName) prog_1_method_24_code (4 : Nat) (Option.some Jvm.ClassFile.FieldType.int)) ∈ WALL := wl4 25 (by decide +kernel) rfl
theorem wd_793 : (Jvm.Cond.methodLink "StormBasin" (186 : Nat) ({ cls := "StormBasin$Street", name := "depthPoured", desc := "(II)I" } : Jvm.MethodName)) ∈ WALL := wl4 26 (by decide +kernel) rfl
theorem wd_794 : (Jvm.Cond.instanceMethod ({ cls := "StormBasin$Street", name := "depthPoured", desc := "(II)I" } : Jvm.MethodName)) ∈ WALL := wl4 27 (by decide +kernel) rfl
theorem wd_795 : (Jvm.Cond.selects "StormBasin$Street" ({ cls := "StormBasin$Street", name := "depthPoured", desc := "(II)I" } : Jvm.MethodName) ({ cls := "StormBasin$Street", name := "depthPoured", desc := "(II)I" } : Jvm.MethodName)) ∈ WALL := wl4 28 (by decide +kernel) rfl
theorem wd_796 : (Jvm.Cond.code ({ cls := "StormBasin$Street", name := "depthPoured", desc := "(II)I" } : Jvm.MethodName) prog_5_method_9_code (4 : Nat) (Option.some Jvm.ClassFile.FieldType.int)) ∈ WALL := wl4 29 (by decide +kernel) rfl
theorem wd_797 : (Jvm.Cond.methodLink "StormBasin$Street" (48 : Nat) ({ cls := "java/util/Arrays", name := "fill", desc := "([II)V" } : Jvm.MethodName)) ∈ WALL := wl4 30 (by decide +kernel) rfl
theorem wd_798 : (Jvm.Cond.methodLink "StormBasin$Street" (54 : Nat) ({ cls := "StormBasin$Street", name := "lowestCell", desc := "()I" } : Jvm.MethodName)) ∈ WALL := wl4 31 (by decide +kernel) rfl
theorem wd_800 : (Jvm.Cond.instanceMethod ({ cls := "StormBasin$Street", name := "lowestCell", desc := "()I" } : Jvm.MethodName)) ∈ WALL := wl4 33 (by decide +kernel) rfl
theorem wd_801 : (Jvm.Cond.code ({ cls := "StormBasin$Street", name := "lowestCell", desc := "()I" } : Jvm.MethodName) prog_5_method_10_code (3 : Nat) (Option.some Jvm.ClassFile.FieldType.int)) ∈ WALL := wl4 34 (by decide +kernel) rfl
theorem wd_802 : (Jvm.Cond.methodLink "StormBasinLaw" (215 : Nat) ({ cls := "StormBasinLaw", name := "depthThen", desc := "(LStormBasin;III[J)I" } : Jvm.MethodName)) ∈ WALL := wl4 35 (by decide +kernel) rfl
theorem wd_803 : (Jvm.Cond.static ({ cls := "StormBasinLaw", name := "depthThen", desc := "(LStormBasin;III[J)I" } : Jvm.MethodName)) ∈ WALL := wl4 36 (by decide +kernel) rfl
theorem wd_804 : (Jvm.Cond.codeWith ({ cls := "StormBasinLaw", name := "depthThen", desc := "(LStormBasin;III[J)I" } : Jvm.MethodName) method_19_code (6 : Nat) (Option.some Jvm.ClassFile.FieldType.int) [((0 : Nat), (12 : Nat), (15 : Nat), (13 : Nat)), ((0 : Nat), (12 : Nat), (19 : Nat), (15 : Nat))]) ∈ WALL := wl4 37 (by decide +kernel) rfl
theorem wd_805 : (Jvm.Cond.methodLink "StormBasinLaw" (68 : Nat) ({ cls := "StormBasin", name := "depthThen", desc := "(III)I" } : Jvm.MethodName)) ∈ WALL := wl4 38 (by decide +kernel) rfl
theorem wd_806 : (Jvm.Cond.instanceMethod ({ cls := "StormBasin", name := "depthThen", desc := "(III)I" } : Jvm.MethodName)) ∈ WALL := wl4 39 (by decide +kernel) rfl
theorem wd_807 : (Jvm.Cond.selects "StormBasin" ({ cls := "StormBasin", name := "depthThen", desc := "(III)I" } : Jvm.MethodName) ({ cls := "StormBasin", name := "depthThen", desc := "(III)I" } : Jvm.MethodName)) ∈ WALL := wl4 40 (by decide +kernel) rfl
theorem wd_808 : (Jvm.Cond.code ({ cls := "StormBasin", name := "depthThen", desc := "(III)I" } : Jvm.MethodName) prog_1_method_25_code (5 : Nat) (Option.some Jvm.ClassFile.FieldType.int)) ∈ WALL := wl4 41 (by decide +kernel) rfl
theorem wd_809 : (Jvm.Cond.methodLink "StormBasin" (189 : Nat) ({ cls := "StormBasin", name := "requireHour", desc := "(I)V" } : Jvm.MethodName)) ∈ WALL := wl4 42 (by decide +kernel) rfl
theorem wd_811 : (Jvm.Cond.instanceMethod ({ cls := "StormBasin", name := "requireHour", desc := "(I)V" } : Jvm.MethodName)) ∈ WALL := wl4 44 (by decide +kernel) rfl
theorem wd_812 : (Jvm.Cond.code ({ cls := "StormBasin", name := "requireHour", desc := "(I)V" } : Jvm.MethodName) prog_1_method_48_code (2 : Nat) (Option.none : Option Jvm.ClassFile.FieldType)) ∈ WALL := wl4 45 (by decide +kernel) rfl
theorem wd_814 : (Jvm.Cond.methodLink "StormBasinLaw" (219 : Nat) ({ cls := "StormBasinLaw", name := "wetCells", desc := "(LStormBasin;I[J)I" } : Jvm.MethodName)) ∈ WALL := wl4 47 (by decide +kernel) rfl
theorem wd_815 : (Jvm.Cond.static ({ cls := "StormBasinLaw", name := "wetCells", desc := "(LStormBasin;I[J)I" } : Jvm.MethodName)) ∈ WALL := wl4 48 (by decide +kernel) rfl
theorem wd_816 : (Jvm.Cond.codeWith ({ cls := "StormBasinLaw", name := "wetCells", desc := "(LStormBasin;I[J)I" } : Jvm.MethodName) method_20_code (4 : Nat) (Option.some Jvm.ClassFile.FieldType.int) [((0 : Nat), (9 : Nat), (12 : Nat), (13 : Nat))]) ∈ WALL := wl4 49 (by decide +kernel) rfl
theorem wd_817 : (Jvm.Cond.methodLink "StormBasinLaw" (72 : Nat) ({ cls := "StormBasin", name := "wetCells", desc := "(I)I" } : Jvm.MethodName)) ∈ WALL := wl4 50 (by decide +kernel) rfl
theorem wd_818 : (Jvm.Cond.instanceMethod ({ cls := "StormBasin", name := "wetCells", desc := "(I)I" } : Jvm.MethodName)) ∈ WALL := wl4 51 (by decide +kernel) rfl
theorem wd_819 : (Jvm.Cond.selects "StormBasin" ({ cls := "StormBasin", name := "wetCells", desc := "(I)I" } : Jvm.MethodName) ({ cls := "StormBasin", name := "wetCells", desc := "(I)I" } : Jvm.MethodName)) ∈ WALL := wl4 52 (by decide +kernel) rfl
theorem wd_820 : (Jvm.Cond.code ({ cls := "StormBasin", name := "wetCells", desc := "(I)I" } : Jvm.MethodName) prog_1_method_26_code (2 : Nat) (Option.some Jvm.ClassFile.FieldType.int)) ∈ WALL := wl4 53 (by decide +kernel) rfl
theorem wd_821 : (Jvm.Cond.methodLink "StormBasinLaw" (222 : Nat) ({ cls := "StormBasinLaw", name := "wetHours", desc := "(LStormBasin;II[J)I" } : Jvm.MethodName)) ∈ WALL := wl4 54 (by decide +kernel) rfl
theorem wd_822 : (Jvm.Cond.static ({ cls := "StormBasinLaw", name := "wetHours", desc := "(LStormBasin;II[J)I" } : Jvm.MethodName)) ∈ WALL := wl4 55 (by decide +kernel) rfl
theorem wd_823 : (Jvm.Cond.codeWith ({ cls := "StormBasinLaw", name := "wetHours", desc := "(LStormBasin;II[J)I" } : Jvm.MethodName) method_21_code (5 : Nat) (Option.some Jvm.ClassFile.FieldType.int) [((0 : Nat), (10 : Nat), (13 : Nat), (13 : Nat))]) ∈ WALL := wl4 56 (by decide +kernel) rfl
theorem wd_824 : (Jvm.Cond.methodLink "StormBasinLaw" (75 : Nat) ({ cls := "StormBasin", name := "wetHours", desc := "(II)I" } : Jvm.MethodName)) ∈ WALL := wl4 57 (by decide +kernel) rfl
theorem wd_825 : (Jvm.Cond.instanceMethod ({ cls := "StormBasin", name := "wetHours", desc := "(II)I" } : Jvm.MethodName)) ∈ WALL := wl4 58 (by decide +kernel) rfl
theorem wd_826 : (Jvm.Cond.selects "StormBasin" ({ cls := "StormBasin", name := "wetHours", desc := "(II)I" } : Jvm.MethodName) ({ cls := "StormBasin", name := "wetHours", desc := "(II)I" } : Jvm.MethodName)) ∈ WALL := wl4 59 (by decide +kernel) rfl
theorem wd_827 : (Jvm.Cond.code ({ cls := "StormBasin", name := "wetHours", desc := "(II)I" } : Jvm.MethodName) prog_1_method_27_code (6 : Nat) (Option.some Jvm.ClassFile.FieldType.int)) ∈ WALL := wl4 60 (by decide +kernel) rfl
theorem wd_828 : (Jvm.Cond.methodLink "StormBasin" (199 : Nat) ({ cls := "StormBasin$Street", name := "isWet", desc := "(II)Z" } : Jvm.MethodName)) ∈ WALL := wl4 61 (by decide +kernel) rfl
theorem wd_829 : (Jvm.Cond.methodLink "StormBasinLaw" (229 : Nat) ({ cls := "StormBasinLaw", name := "addHouse", desc := "(LStormBasin;IIII[J)I" } : Jvm.MethodName)) ∈ WALL := wl4 62 (by decide +kernel) rfl
theorem wd_830 : (Jvm.Cond.static ({ cls := "StormBasinLaw", name := "addHouse", desc := "(LStormBasin;IIII[J)I" } : Jvm.MethodName)) ∈ WALL := wl4 63 (by decide +kernel) rfl
theorem wd_831 : (Jvm.Cond.codeWith ({ cls := "StormBasinLaw", name := "addHouse", desc := "(LStormBasin;IIII[J)I" } : Jvm.MethodName) method_22_code (7 : Nat) (Option.some Jvm.ClassFile.FieldType.int) [((0 : Nat), (14 : Nat), (17 : Nat), (13 : Nat)), ((0 : Nat), (14 : Nat), (21 : Nat), (15 : Nat)), ((0 : Nat), (14 : Nat), (25 : Nat), (17 : Nat))]) ∈ WALL := wl4 64 (by decide +kernel) rfl
theorem wd_832 : (Jvm.Cond.methodLink "StormBasinLaw" (78 : Nat) ({ cls := "StormBasin", name := "addHouse", desc := "(IIII)I" } : Jvm.MethodName)) ∈ WALL := wl4 65 (by decide +kernel) rfl
theorem wd_833 : (Jvm.Cond.instanceMethod ({ cls := "StormBasin", name := "addHouse", desc := "(IIII)I" } : Jvm.MethodName)) ∈ WALL := wl4 66 (by decide +kernel) rfl
theorem wd_834 : (Jvm.Cond.selects "StormBasin" ({ cls := "StormBasin", name := "addHouse", desc := "(IIII)I" } : Jvm.MethodName) ({ cls := "StormBasin", name := "addHouse", desc := "(IIII)I" } : Jvm.MethodName)) ∈ WALL := wl4 67 (by decide +kernel) rfl
theorem wd_835 : (Jvm.Cond.code ({ cls := "StormBasin", name := "addHouse", desc := "(IIII)I" } : Jvm.MethodName) prog_1_method_29_code (7 : Nat) (Option.some Jvm.ClassFile.FieldType.int)) ∈ WALL := wl4 68 (by decide +kernel) rfl
theorem wd_838 : (Jvm.Cond.instantiable "StormBasin$House" (7 : Nat)) ∈ WALL := wl4 71 (by decide +kernel) rfl
theorem wd_839 : (Jvm.Cond.methodLink "StormBasin" (212 : Nat) ({ cls := "StormBasin$House", name := "<init>", desc := "(LStormBasin$Street;III)V" } : Jvm.MethodName)) ∈ WALL := wl4 72 (by decide +kernel) rfl
theorem wd_840 : (Jvm.Cond.instanceMethod ({ cls := "StormBasin$House", name := "<init>", desc := "(LStormBasin$Street;III)V" } : Jvm.MethodName)) ∈ WALL := wl4 73 (by decide +kernel) rfl
theorem wd_841 : (Jvm.Cond.code ({ cls := "StormBasin$House", name := "<init>", desc := "(LStormBasin$Street;III)V" } : Jvm.MethodName) prog_3_method_1_code (5 : Nat) (Option.none : Option Jvm.ClassFile.FieldType)) ∈ WALL := wl4 74 (by decide +kernel) rfl
theorem wd_842 : (Jvm.Cond.methodLink "StormBasin$House" (3 : Nat) ({ cls := "java/lang/Object", name := "<init>", desc := "()V" } : Jvm.MethodName)) ∈ WALL := wl4 75 (by decide +kernel) rfl
theorem wd_843 : (Jvm.Cond.fieldLink "StormBasin$House" (9 : Nat) "StormBasin$House" "street" "LStormBasin$Street;") ∈ WALL := wl4 76 (by decide +kernel) rfl
theorem wd_844 : (Jvm.Cond.fieldLink "StormBasin$House" (15 : Nat) "StormBasin$House" "cell" "I") ∈ WALL := wl4 77 (by decide +kernel) rfl
theorem wd_845 : (Jvm.Cond.fieldLink "StormBasin$House" (19 : Nat) "StormBasin$House" "rate" "I") ∈ WALL := wl4 78 (by decide +kernel) rfl
theorem wd_846 : (Jvm.Cond.fieldLink "StormBasin$House" (22 : Nat) "StormBasin$House" "cover" "I") ∈ WALL := wl4 79 (by decide +kernel) rfl
theorem wd_847 : (Jvm.Cond.fieldLink "StormBasin$House" (25 : Nat) "StormBasin$House" "isClaimed" "[Z") ∈ WALL := wl4 80 (by decide +kernel) rfl
theorem wd_848 : (Jvm.Cond.fieldLink "StormBasin" (231 : Nat) "StormBasin$House" "isClaimed" "[Z") ∈ WALL := wl4 81 (by decide +kernel) rfl
theorem wd_849 : (Jvm.Cond.fieldLink "StormBasin$House" (55 : Nat) "StormBasin$House" "claims" "I") ∈ WALL := wl4 82 (by decide +kernel) rfl
theorem wd_850 : (Jvm.Cond.fieldLink "StormBasin" (248 : Nat) "StormBasin$House" "claims" "I") ∈ WALL := wl4 83 (by decide +kernel) rfl
theorem wd_851 : (Jvm.Cond.fieldLink "StormBasin$House" (47 : Nat) "StormBasin$House" "paid" "I") ∈ WALL := wl4 84 (by decide +kernel) rfl
theorem wd_852 : (Jvm.Cond.fieldLink "StormBasin" (251 : Nat) "StormBasin$House" "paid" "I") ∈ WALL := wl4 85 (by decide +kernel) rfl
theorem wd_853 : (Jvm.Cond.laysFinal "StormBasin$House" "StormBasin$House" "street" "LStormBasin$Street;") ∈ WALL := wl4 86 (by decide +kernel) rfl
theorem wd_855 : (Jvm.Cond.laysFinal "StormBasin$House" "StormBasin$House" "cell" "I") ∈ WALL := wl4 88 (by decide +kernel) rfl
theorem wd_857 : (Jvm.Cond.laysFinal "StormBasin$House" "StormBasin$House" "rate" "I") ∈ WALL := wl4 90 (by decide +kernel) rfl
theorem wd_859 : (Jvm.Cond.laysFinal "StormBasin$House" "StormBasin$House" "cover" "I") ∈ WALL := wl4 92 (by decide +kernel) rfl
theorem wd_861 : (Jvm.Cond.laysFinal "StormBasin$House" "StormBasin$House" "isClaimed" "[Z") ∈ WALL := wl4 94 (by decide +kernel) rfl
theorem wd_863 : (Jvm.Cond.lays "StormBasin$House" "StormBasin$House" "claims" "I") ∈ WALL := wl4 96 (by decide +kernel) rfl
theorem wd_865 : (Jvm.Cond.lays "StormBasin$House" "StormBasin$House" "paid" "I") ∈ WALL := wl4 98 (by decide +kernel) rfl
theorem wd_867 : (Jvm.Cond.superclass "StormBasin$House" "java/lang/Object") ∈ WALL := wl4 100 (by decide +kernel) rfl
theorem wd_868 : (Jvm.Cond.arrayClass Jvm.ClassFile.FieldType.boolean) ∈ WALL := wl4 101 (by decide +kernel) rfl
theorem wd_869 : (Jvm.Cond.methodLink "StormBasinLaw" (237 : Nat) ({ cls := "StormBasinLaw", name := "wasWet", desc := "(LStormBasin;II[J)I" } : Jvm.MethodName)) ∈ WALL := wl4 102 (by decide +kernel) rfl
theorem wd_870 : (Jvm.Cond.static ({ cls := "StormBasinLaw", name := "wasWet", desc := "(LStormBasin;II[J)I" } : Jvm.MethodName)) ∈ WALL := wl4 103 (by decide +kernel) rfl
theorem wd_871 : (Jvm.Cond.codeWith ({ cls := "StormBasinLaw", name := "wasWet", desc := "(LStormBasin;II[J)I" } : Jvm.MethodName) method_23_code (5 : Nat) (Option.some Jvm.ClassFile.FieldType.int) [((0 : Nat), (17 : Nat), (20 : Nat), (13 : Nat)), ((0 : Nat), (17 : Nat), (24 : Nat), (15 : Nat))]) ∈ WALL := wl4 104 (by decide +kernel) rfl
theorem wd_872 : (Jvm.Cond.methodLink "StormBasinLaw" (82 : Nat) ({ cls := "StormBasin", name := "wasWet", desc := "(II)Z" } : Jvm.MethodName)) ∈ WALL := wl4 105 (by decide +kernel) rfl
theorem wd_873 : (Jvm.Cond.instanceMethod ({ cls := "StormBasin", name := "wasWet", desc := "(II)Z" } : Jvm.MethodName)) ∈ WALL := wl4 106 (by decide +kernel) rfl
theorem wd_874 : (Jvm.Cond.selects "StormBasin" ({ cls := "StormBasin", name := "wasWet", desc := "(II)Z" } : Jvm.MethodName) ({ cls := "StormBasin", name := "wasWet", desc := "(II)Z" } : Jvm.MethodName)) ∈ WALL := wl4 107 (by decide +kernel) rfl
theorem wd_875 : (Jvm.Cond.code ({ cls := "StormBasin", name := "wasWet", desc := "(II)Z" } : Jvm.MethodName) prog_1_method_31_code (4 : Nat) (Option.some Jvm.ClassFile.FieldType.boolean)) ∈ WALL := wl4 108 (by decide +kernel) rfl
theorem wd_876 : (Jvm.Cond.methodLink "StormBasin" (215 : Nat) ({ cls := "StormBasin", name := "houseOf", desc := "(I)LStormBasin$House;" } : Jvm.MethodName)) ∈ WALL := wl4 109 (by decide +kernel) rfl
theorem wd_878 : (Jvm.Cond.instanceMethod ({ cls := "StormBasin", name := "houseOf", desc := "(I)LStormBasin$House;" } : Jvm.MethodName)) ∈ WALL := wl4 111 (by decide +kernel) rfl
theorem wd_879 : (Jvm.Cond.code ({ cls := "StormBasin", name := "houseOf", desc := "(I)LStormBasin$House;" } : Jvm.MethodName) prog_1_method_53_code (2 : Nat) (Option.some (Jvm.ClassFile.FieldType.object "StormBasin$House"))) ∈ WALL := wl4 112 (by decide +kernel) rfl
theorem wd_881 : (Jvm.Cond.methodLink "StormBasin" (219 : Nat) ({ cls := "StormBasin$House", name := "isWetAt", desc := "(I)Z" } : Jvm.MethodName)) ∈ WALL := wl4 114 (by decide +kernel) rfl
theorem wd_882 : (Jvm.Cond.instanceMethod ({ cls := "StormBasin$House", name := "isWetAt", desc := "(I)Z" } : Jvm.MethodName)) ∈ WALL := wl4 115 (by decide +kernel) rfl
theorem wd_883 : (Jvm.Cond.selects "StormBasin$House" ({ cls := "StormBasin$House", name := "isWetAt", desc := "(I)Z" } : Jvm.MethodName) ({ cls := "StormBasin$House", name := "isWetAt", desc := "(I)Z" } : Jvm.MethodName)) ∈ WALL := wl4 116 (by decide +kernel) rfl
theorem wd_884 : (Jvm.Cond.code ({ cls := "StormBasin$House", name := "isWetAt", desc := "(I)Z" } : Jvm.MethodName) prog_3_method_2_code (2 : Nat) (Option.some Jvm.ClassFile.FieldType.boolean)) ∈ WALL := wl4 117 (by decide +kernel) rfl
theorem wd_885 : (Jvm.Cond.methodLink "StormBasin$House" (35 : Nat) ({ cls := "StormBasin$Street", name := "isWet", desc := "(II)Z" } : Jvm.MethodName)) ∈ WALL := wl4 118 (by decide +kernel) rfl
theorem wd_886 : (Jvm.Cond.methodLink "StormBasinLaw" (240 : Nat) ({ cls := "StormBasinLaw", name := "worthOf", desc := "(LStormBasin;II[J)I" } : Jvm.MethodName)) ∈ WALL := wl4 119 (by decide +kernel) rfl
theorem wd_887 : (Jvm.Cond.static ({ cls := "StormBasinLaw", name := "worthOf", desc := "(LStormBasin;II[J)I" } : Jvm.MethodName)) ∈ WALL := wl4 120 (by decide +kernel) rfl
theorem wd_888 : (Jvm.Cond.codeWith ({ cls := "StormBasinLaw", name := "worthOf", desc := "(LStormBasin;II[J)I" } : Jvm.MethodName) method_24_code (5 : Nat) (Option.some Jvm.ClassFile.FieldType.int) [((0 : Nat), (10 : Nat), (13 : Nat), (13 : Nat)), ((0 : Nat), (10 : Nat), (17 : Nat), (15 : Nat))]) ∈ WALL := wl4 121 (by decide +kernel) rfl
theorem wd_889 : (Jvm.Cond.methodLink "StormBasinLaw" (86 : Nat) ({ cls := "StormBasin", name := "worthOf", desc := "(II)I" } : Jvm.MethodName)) ∈ WALL := wl4 122 (by decide +kernel) rfl
theorem wd_890 : (Jvm.Cond.instanceMethod ({ cls := "StormBasin", name := "worthOf", desc := "(II)I" } : Jvm.MethodName)) ∈ WALL := wl4 123 (by decide +kernel) rfl
theorem wd_891 : (Jvm.Cond.selects "StormBasin" ({ cls := "StormBasin", name := "worthOf", desc := "(II)I" } : Jvm.MethodName) ({ cls := "StormBasin", name := "worthOf", desc := "(II)I" } : Jvm.MethodName)) ∈ WALL := wl4 124 (by decide +kernel) rfl
theorem wd_892 : (Jvm.Cond.code ({ cls := "StormBasin", name := "worthOf", desc := "(II)I" } : Jvm.MethodName) prog_1_method_32_code (4 : Nat) (Option.some Jvm.ClassFile.FieldType.int)) ∈ WALL := wl4 125 (by decide +kernel) rfl
theorem wd_893 : (Jvm.Cond.methodLink "StormBasin" (223 : Nat) ({ cls := "StormBasin$House", name := "worthAt", desc := "(I)I" } : Jvm.MethodName)) ∈ WALL := wl4 126 (by decide +kernel) rfl
theorem wd_894 : (Jvm.Cond.instanceMethod ({ cls := "StormBasin$House", name := "worthAt", desc := "(I)I" } : Jvm.MethodName)) ∈ WALL := wl4 127 (by decide +kernel) rfl
theorem wd_895 : (Jvm.Cond.selects "StormBasin$House" ({ cls := "StormBasin$House", name := "worthAt", desc := "(I)I" } : Jvm.MethodName) ({ cls := "StormBasin$House", name := "worthAt", desc := "(I)I" } : Jvm.MethodName)) ∈ WALL := wl4 128 (by decide +kernel) rfl
theorem wd_896 : (Jvm.Cond.code ({ cls := "StormBasin$House", name := "worthAt", desc := "(I)I" } : Jvm.MethodName) prog_3_method_3_code (2 : Nat) (Option.some Jvm.ClassFile.FieldType.int)) ∈ WALL := wl4 129 (by decide +kernel) rfl
theorem wd_897 : (Jvm.Cond.methodLink "StormBasin$House" (39 : Nat) ({ cls := "StormBasin$Street", name := "depthOf", desc := "(II)I" } : Jvm.MethodName)) ∈ WALL := wl4 130 (by decide +kernel) rfl
theorem wd_898 : (Jvm.Cond.methodLink "StormBasinLaw" (243 : Nat) ({ cls := "StormBasinLaw", name := "claim", desc := "(LStormBasin;II[J)I" } : Jvm.MethodName)) ∈ WALL := wl4 131 (by decide +kernel) rfl
theorem wd_899 : (Jvm.Cond.static ({ cls := "StormBasinLaw", name := "claim", desc := "(LStormBasin;II[J)I" } : Jvm.MethodName)) ∈ WALL := wl4 132 (by decide +kernel) rfl
theorem wd_900 : (Jvm.Cond.codeWith ({ cls := "StormBasinLaw", name := "claim", desc := "(LStormBasin;II[J)I" } : Jvm.MethodName) method_25_code (5 : Nat) (Option.some Jvm.ClassFile.FieldType.int) [((0 : Nat), (10 : Nat), (13 : Nat), (13 : Nat)), ((0 : Nat), (10 : Nat), (17 : Nat), (15 : Nat)), ((0 : Nat), (10 : Nat), (21 : Nat), (92 : Nat)), ((0 : Nat), (10 : Nat), (25 : Nat), (17 : Nat))]) ∈ WALL := wl4 133 (by decide +kernel) rfl
theorem wd_901 : (Jvm.Cond.classLink "StormBasinLaw" (92 : Nat) "java/lang/UnsupportedOperationException") ∈ WALL := wl4 134 (by decide +kernel) rfl
theorem wd_902 : (Jvm.Cond.methodLink "StormBasinLaw" (89 : Nat) ({ cls := "StormBasin", name := "claim", desc := "(II)I" } : Jvm.MethodName)) ∈ WALL := wl4 135 (by decide +kernel) rfl
theorem wd_903 : (Jvm.Cond.instanceMethod ({ cls := "StormBasin", name := "claim", desc := "(II)I" } : Jvm.MethodName)) ∈ WALL := wl4 136 (by decide +kernel) rfl
theorem wd_904 : (Jvm.Cond.selects "StormBasin" ({ cls := "StormBasin", name := "claim", desc := "(II)I" } : Jvm.MethodName) ({ cls := "StormBasin", name := "claim", desc := "(II)I" } : Jvm.MethodName)) ∈ WALL := wl4 137 (by decide +kernel) rfl
theorem wd_905 : (Jvm.Cond.code ({ cls := "StormBasin", name := "claim", desc := "(II)I" } : Jvm.MethodName) prog_1_method_33_code (4 : Nat) (Option.some Jvm.ClassFile.FieldType.int)) ∈ WALL := wl4 138 (by decide +kernel) rfl
theorem wd_906 : (Jvm.Cond.classLink "StormBasin" (226 : Nat) "java/lang/UnsupportedOperationException") ∈ WALL := wl4 139 (by decide +kernel) rfl
theorem wd_907 : (Jvm.Cond.instantiable "java/lang/UnsupportedOperationException" (6 : Nat)) ∈ WALL := wl4 140 (by decide +kernel) rfl
theorem wd_909 : (Jvm.Cond.selects "java/lang/UnsupportedOperationException" ({ cls := "java/lang/Throwable", name := "fillInStackTrace", desc := "(I)Ljava/lang/Throwable;" } : Jvm.MethodName) ({ cls := "java/lang/Throwable", name := "fillInStackTrace", desc := "(I)Ljava/lang/Throwable;" } : Jvm.MethodName)) ∈ WALL := wl4 142 (by decide +kernel) rfl
theorem wd_910 : (Jvm.Cond.lays "java/lang/UnsupportedOperationException" "java/lang/Throwable" "cause" "Ljava/lang/Throwable;") ∈ WALL := wl4 143 (by decide +kernel) rfl
theorem wd_911 : (Jvm.Cond.lays "java/lang/UnsupportedOperationException" "java/lang/Throwable" "stackTrace" "[Ljava/lang/StackTraceElement;") ∈ WALL := wl4 144 (by decide +kernel) rfl
theorem wd_912 : (Jvm.Cond.lays "java/lang/UnsupportedOperationException" "java/lang/Throwable" "suppressedExceptions" "Ljava/util/List;") ∈ WALL := wl4 145 (by decide +kernel) rfl
theorem wd_913 : (Jvm.Cond.lays "java/lang/UnsupportedOperationException" "java/lang/Throwable" "detailMessage" "Ljava/lang/String;") ∈ WALL := wl4 146 (by decide +kernel) rfl
theorem wd_914 : (Jvm.Cond.lays "java/lang/UnsupportedOperationException" "java/lang/Throwable" "backtrace" "Ljava/lang/Object;") ∈ WALL := wl4 147 (by decide +kernel) rfl
theorem wd_916 : (Jvm.Cond.methodLink "StormBasin" (230 : Nat) ({ cls := "java/lang/UnsupportedOperationException", name := "<init>", desc := "(Ljava/lang/String;)V" } : Jvm.MethodName)) ∈ WALL := wl4 149 (by decide +kernel) rfl
theorem wd_917 : (Jvm.Cond.instanceMethod ({ cls := "java/lang/UnsupportedOperationException", name := "<init>", desc := "(Ljava/lang/String;)V" } : Jvm.MethodName)) ∈ WALL := wl4 150 (by decide +kernel) rfl
theorem wd_918 : (Jvm.Cond.code ({ cls := "java/lang/UnsupportedOperationException", name := "<init>", desc := "(Ljava/lang/String;)V" } : Jvm.MethodName) prog_33_method_2_code (2 : Nat) (Option.none : Option Jvm.ClassFile.FieldType)) ∈ WALL := wl4 151 (by decide +kernel) rfl
theorem wd_919 : (Jvm.Cond.methodLink "java/lang/UnsupportedOperationException" (7 : Nat) ({ cls := "java/lang/RuntimeException", name := "<init>", desc := "(Ljava/lang/String;)V" } : Jvm.MethodName)) ∈ WALL := wl4 152 (by decide +kernel) rfl
theorem wd_920 : (Jvm.Cond.lays "java/lang/UnsupportedOperationException" "java/lang/Throwable" "depth" "I") ∈ WALL := wl4 153 (by decide +kernel) rfl
theorem wd_921 : (Jvm.Cond.superclass "java/lang/UnsupportedOperationException" "java/lang/RuntimeException") ∈ WALL := wl4 154 (by decide +kernel) rfl
theorem wd_923 : (Jvm.Cond.methodLink "StormBasin" (237 : Nat) ({ cls := "StormBasin$House", name := "pay", desc := "(I)I" } : Jvm.MethodName)) ∈ WALL := wl4 156 (by decide +kernel) rfl
theorem wd_924 : (Jvm.Cond.instanceMethod ({ cls := "StormBasin$House", name := "pay", desc := "(I)I" } : Jvm.MethodName)) ∈ WALL := wl4 157 (by decide +kernel) rfl
theorem wd_925 : (Jvm.Cond.selects "StormBasin$House" ({ cls := "StormBasin$House", name := "pay", desc := "(I)I" } : Jvm.MethodName) ({ cls := "StormBasin$House", name := "pay", desc := "(I)I" } : Jvm.MethodName)) ∈ WALL := wl4 158 (by decide +kernel) rfl
theorem wd_926 : (Jvm.Cond.code ({ cls := "StormBasin$House", name := "pay", desc := "(I)I" } : Jvm.MethodName) prog_3_method_5_code (3 : Nat) (Option.some Jvm.ClassFile.FieldType.int)) ∈ WALL := wl4 159 (by decide +kernel) rfl
theorem wd_927 : (Jvm.Cond.methodLink "StormBasin$House" (43 : Nat) ({ cls := "StormBasin$House", name := "worthAt", desc := "(I)I" } : Jvm.MethodName)) ∈ WALL := wl4 160 (by decide +kernel) rfl
theorem wd_928 : (Jvm.Cond.methodLink "StormBasin$House" (50 : Nat) ({ cls := "java/lang/Math", name := "min", desc := "(II)I" } : Jvm.MethodName)) ∈ WALL := wl4 161 (by decide +kernel) rfl
theorem wd_929 : (Jvm.Cond.methodLink "StormBasinLaw" (246 : Nat) ({ cls := "StormBasinLaw", name := "claimWorst", desc := "(LStormBasin;I[J)I" } : Jvm.MethodName)) ∈ WALL := wl4 162 (by decide +kernel) rfl
theorem wd_930 : (Jvm.Cond.static ({ cls := "StormBasinLaw", name := "claimWorst", desc := "(LStormBasin;I[J)I" } : Jvm.MethodName)) ∈ WALL := wl4 163 (by decide +kernel) rfl
theorem wd_931 : (Jvm.Cond.codeWith ({ cls := "StormBasinLaw", name := "claimWorst", desc := "(LStormBasin;I[J)I" } : Jvm.MethodName) method_26_code (4 : Nat) (Option.some Jvm.ClassFile.FieldType.int) [((0 : Nat), (9 : Nat), (12 : Nat), (13 : Nat)), ((0 : Nat), (9 : Nat), (15 : Nat), (97 : Nat))]) ∈ WALL := wl4 164 (by decide +kernel) rfl
theorem wd_932 : (Jvm.Cond.classLink "StormBasinLaw" (97 : Nat) "java/util/NoSuchElementException") ∈ WALL := wl4 165 (by decide +kernel) rfl
theorem wd_933 : (Jvm.Cond.methodLink "StormBasinLaw" (94 : Nat) ({ cls := "StormBasin", name := "claimWorst", desc := "(I)I" } : Jvm.MethodName)) ∈ WALL := wl4 166 (by decide +kernel) rfl
theorem wd_934 : (Jvm.Cond.instanceMethod ({ cls := "StormBasin", name := "claimWorst", desc := "(I)I" } : Jvm.MethodName)) ∈ WALL := wl4 167 (by decide +kernel) rfl
theorem wd_935 : (Jvm.Cond.selects "StormBasin" ({ cls := "StormBasin", name := "claimWorst", desc := "(I)I" } : Jvm.MethodName) ({ cls := "StormBasin", name := "claimWorst", desc := "(I)I" } : Jvm.MethodName)) ∈ WALL := wl4 168 (by decide +kernel) rfl
theorem wd_936 : (Jvm.Cond.code ({ cls := "StormBasin", name := "claimWorst", desc := "(I)I" } : Jvm.MethodName) prog_1_method_34_code (4 : Nat) (Option.some Jvm.ClassFile.FieldType.int)) ∈ WALL := wl4 169 (by decide +kernel) rfl
theorem wd_937 : (Jvm.Cond.methodLink "StormBasin" (240 : Nat) ({ cls := "StormBasin$House", name := "worstHour", desc := "(I)I" } : Jvm.MethodName)) ∈ WALL := wl4 170 (by decide +kernel) rfl
theorem wd_938 : (Jvm.Cond.instanceMethod ({ cls := "StormBasin$House", name := "worstHour", desc := "(I)I" } : Jvm.MethodName)) ∈ WALL := wl4 171 (by decide +kernel) rfl
theorem wd_939 : (Jvm.Cond.selects "StormBasin$House" ({ cls := "StormBasin$House", name := "worstHour", desc := "(I)I" } : Jvm.MethodName) ({ cls := "StormBasin$House", name := "worstHour", desc := "(I)I" } : Jvm.MethodName)) ∈ WALL := wl4 172 (by decide +kernel) rfl
theorem wd_940 : (Jvm.Cond.code ({ cls := "StormBasin$House", name := "worstHour", desc := "(I)I" } : Jvm.MethodName) prog_3_method_4_code (6 : Nat) (Option.some Jvm.ClassFile.FieldType.int)) ∈ WALL := wl4 173 (by decide +kernel) rfl
theorem wd_941 : (Jvm.Cond.classLink "StormBasin" (243 : Nat) "java/util/NoSuchElementException") ∈ WALL := wl4 174 (by decide +kernel) rfl
theorem wd_942 : (Jvm.Cond.instantiable "java/util/NoSuchElementException" (6 : Nat)) ∈ WALL := wl4 175 (by decide +kernel) rfl
theorem wd_944 : (Jvm.Cond.selects "java/util/NoSuchElementException" ({ cls := "java/lang/Throwable", name := "fillInStackTrace", desc := "(I)Ljava/lang/Throwable;" } : Jvm.MethodName) ({ cls := "java/lang/Throwable", name := "fillInStackTrace", desc := "(I)Ljava/lang/Throwable;" } : Jvm.MethodName)) ∈ WALL := wl4 177 (by decide +kernel) rfl
theorem wd_945 : (Jvm.Cond.lays "java/util/NoSuchElementException" "java/lang/Throwable" "cause" "Ljava/lang/Throwable;") ∈ WALL := wl4 178 (by decide +kernel) rfl
theorem wd_946 : (Jvm.Cond.lays "java/util/NoSuchElementException" "java/lang/Throwable" "stackTrace" "[Ljava/lang/StackTraceElement;") ∈ WALL := wl4 179 (by decide +kernel) rfl
theorem wd_947 : (Jvm.Cond.lays "java/util/NoSuchElementException" "java/lang/Throwable" "suppressedExceptions" "Ljava/util/List;") ∈ WALL := wl4 180 (by decide +kernel) rfl
theorem wd_948 : (Jvm.Cond.lays "java/util/NoSuchElementException" "java/lang/Throwable" "detailMessage" "Ljava/lang/String;") ∈ WALL := wl4 181 (by decide +kernel) rfl
theorem wd_949 : (Jvm.Cond.lays "java/util/NoSuchElementException" "java/lang/Throwable" "backtrace" "Ljava/lang/Object;") ∈ WALL := wl4 182 (by decide +kernel) rfl
theorem wd_951 : (Jvm.Cond.methodLink "StormBasin" (247 : Nat) ({ cls := "java/util/NoSuchElementException", name := "<init>", desc := "(Ljava/lang/String;)V" } : Jvm.MethodName)) ∈ WALL := wl4 184 (by decide +kernel) rfl
theorem wd_952 : (Jvm.Cond.instanceMethod ({ cls := "java/util/NoSuchElementException", name := "<init>", desc := "(Ljava/lang/String;)V" } : Jvm.MethodName)) ∈ WALL := wl4 185 (by decide +kernel) rfl
theorem wd_953 : (Jvm.Cond.code ({ cls := "java/util/NoSuchElementException", name := "<init>", desc := "(Ljava/lang/String;)V" } : Jvm.MethodName) prog_42_method_4_code (2 : Nat) (Option.none : Option Jvm.ClassFile.FieldType)) ∈ WALL := wl4 186 (by decide +kernel) rfl
theorem wd_954 : (Jvm.Cond.methodLink "java/util/NoSuchElementException" (13 : Nat) ({ cls := "java/lang/RuntimeException", name := "<init>", desc := "(Ljava/lang/String;)V" } : Jvm.MethodName)) ∈ WALL := wl4 187 (by decide +kernel) rfl
theorem wd_955 : (Jvm.Cond.lays "java/util/NoSuchElementException" "java/lang/Throwable" "depth" "I") ∈ WALL := wl4 188 (by decide +kernel) rfl
theorem wd_956 : (Jvm.Cond.superclass "java/util/NoSuchElementException" "java/lang/RuntimeException") ∈ WALL := wl4 189 (by decide +kernel) rfl
theorem wd_957 : (Jvm.Cond.methodLink "StormBasinLaw" (249 : Nat) ({ cls := "StormBasinLaw", name := "claimCount", desc := "(LStormBasin;I[J)I" } : Jvm.MethodName)) ∈ WALL := wl4 190 (by decide +kernel) rfl
theorem wd_958 : (Jvm.Cond.static ({ cls := "StormBasinLaw", name := "claimCount", desc := "(LStormBasin;I[J)I" } : Jvm.MethodName)) ∈ WALL := wl4 191 (by decide +kernel) rfl
theorem wd_959 : (Jvm.Cond.codeWith ({ cls := "StormBasinLaw", name := "claimCount", desc := "(LStormBasin;I[J)I" } : Jvm.MethodName) method_27_code (4 : Nat) (Option.some Jvm.ClassFile.FieldType.int) [((0 : Nat), (9 : Nat), (12 : Nat), (13 : Nat))]) ∈ WALL := wl4 192 (by decide +kernel) rfl
theorem wd_960 : (Jvm.Cond.methodLink "StormBasinLaw" (99 : Nat) ({ cls := "StormBasin", name := "claimCount", desc := "(I)I" } : Jvm.MethodName)) ∈ WALL := wl4 193 (by decide +kernel) rfl
theorem wd_961 : (Jvm.Cond.instanceMethod ({ cls := "StormBasin", name := "claimCount", desc := "(I)I" } : Jvm.MethodName)) ∈ WALL := wl4 194 (by decide +kernel) rfl
theorem wd_962 : (Jvm.Cond.selects "StormBasin" ({ cls := "StormBasin", name := "claimCount", desc := "(I)I" } : Jvm.MethodName) ({ cls := "StormBasin", name := "claimCount", desc := "(I)I" } : Jvm.MethodName)) ∈ WALL := wl4 195 (by decide +kernel) rfl
theorem wd_963 : (Jvm.Cond.code ({ cls := "StormBasin", name := "claimCount", desc := "(I)I" } : Jvm.MethodName) prog_1_method_35_code (2 : Nat) (Option.some Jvm.ClassFile.FieldType.int)) ∈ WALL := wl4 196 (by decide +kernel) rfl
theorem wd_964 : (Jvm.Cond.methodLink "StormBasinLaw" (252 : Nat) ({ cls := "StormBasinLaw", name := "paidTo", desc := "(LStormBasin;I[J)I" } : Jvm.MethodName)) ∈ WALL := wl4 197 (by decide +kernel) rfl
theorem wd_965 : (Jvm.Cond.static ({ cls := "StormBasinLaw", name := "paidTo", desc := "(LStormBasin;I[J)I" } : Jvm.MethodName)) ∈ WALL := wl4 198 (by decide +kernel) rfl
theorem wd_966 : (Jvm.Cond.codeWith ({ cls := "StormBasinLaw", name := "paidTo", desc := "(LStormBasin;I[J)I" } : Jvm.MethodName) method_28_code (4 : Nat) (Option.some Jvm.ClassFile.FieldType.int) [((0 : Nat), (9 : Nat), (12 : Nat), (13 : Nat))]) ∈ WALL := wl4 199 (by decide +kernel) rfl
theorem wd_967 : (Jvm.Cond.methodLink "StormBasinLaw" (102 : Nat) ({ cls := "StormBasin", name := "paidTo", desc := "(I)I" } : Jvm.MethodName)) ∈ WALL := wl4 200 (by decide +kernel) rfl
theorem wd_968 : (Jvm.Cond.instanceMethod ({ cls := "StormBasin", name := "paidTo", desc := "(I)I" } : Jvm.MethodName)) ∈ WALL := wl4 201 (by decide +kernel) rfl
theorem wd_969 : (Jvm.Cond.selects "StormBasin" ({ cls := "StormBasin", name := "paidTo", desc := "(I)I" } : Jvm.MethodName) ({ cls := "StormBasin", name := "paidTo", desc := "(I)I" } : Jvm.MethodName)) ∈ WALL := wl4 202 (by decide +kernel) rfl
theorem wd_970 : (Jvm.Cond.code ({ cls := "StormBasin", name := "paidTo", desc := "(I)I" } : Jvm.MethodName) prog_1_method_36_code (2 : Nat) (Option.some Jvm.ClassFile.FieldType.int)) ∈ WALL := wl4 203 (by decide +kernel) rfl
theorem wd_971 : (Jvm.Cond.methodLink "StormBasinLaw" (260 : Nat) ({ cls := "StormBasinLaw", name := "meanPayment", desc := "(LStormBasin;[D)I" } : Jvm.MethodName)) ∈ WALL := wl4 204 (by decide +kernel) rfl
theorem wd_972 : (Jvm.Cond.static ({ cls := "StormBasinLaw", name := "meanPayment", desc := "(LStormBasin;[D)I" } : Jvm.MethodName)) ∈ WALL := wl4 205 (by decide +kernel) rfl
theorem wd_973 : (Jvm.Cond.codeWith ({ cls := "StormBasinLaw", name := "meanPayment", desc := "(LStormBasin;[D)I" } : Jvm.MethodName) method_29_code (3 : Nat) (Option.some Jvm.ClassFile.FieldType.int) [((0 : Nat), (7 : Nat), (10 : Nat), (109 : Nat))]) ∈ WALL := wl4 206 (by decide +kernel) rfl
theorem wd_974 : (Jvm.Cond.classLink "StormBasinLaw" (109 : Nat) "java/lang/ArithmeticException") ∈ WALL := wl4 207 (by decide +kernel) rfl
theorem wd_975 : (Jvm.Cond.instantiable "java/lang/ArithmeticException" (6 : Nat)) ∈ WALL := wl4 208 (by decide +kernel) rfl
theorem wd_976 : (Jvm.Cond.instanceMethod ({ cls := "java/lang/ArithmeticException", name := "<init>", desc := "(Ljava/lang/String;)V" } : Jvm.MethodName)) ∈ WALL := wl4 209 (by decide +kernel) rfl
theorem wd_977 : (Jvm.Cond.code ({ cls := "java/lang/ArithmeticException", name := "<init>", desc := "(Ljava/lang/String;)V" } : Jvm.MethodName) prog_12_method_2_code (2 : Nat) (Option.none : Option Jvm.ClassFile.FieldType)) ∈ WALL := wl4 210 (by decide +kernel) rfl
theorem wd_978 : (Jvm.Cond.methodLink "java/lang/ArithmeticException" (7 : Nat) ({ cls := "java/lang/RuntimeException", name := "<init>", desc := "(Ljava/lang/String;)V" } : Jvm.MethodName)) ∈ WALL := wl4 211 (by decide +kernel) rfl
theorem wd_979 : (Jvm.Cond.lays "java/lang/ArithmeticException" "java/lang/Throwable" "backtrace" "Ljava/lang/Object;") ∈ WALL := wl4 212 (by decide +kernel) rfl
theorem wd_980 : (Jvm.Cond.lays "java/lang/ArithmeticException" "java/lang/Throwable" "detailMessage" "Ljava/lang/String;") ∈ WALL := wl4 213 (by decide +kernel) rfl
theorem wd_981 : (Jvm.Cond.lays "java/lang/ArithmeticException" "java/lang/Throwable" "cause" "Ljava/lang/Throwable;") ∈ WALL := wl4 214 (by decide +kernel) rfl
theorem wd_982 : (Jvm.Cond.lays "java/lang/ArithmeticException" "java/lang/Throwable" "stackTrace" "[Ljava/lang/StackTraceElement;") ∈ WALL := wl4 215 (by decide +kernel) rfl
theorem wd_983 : (Jvm.Cond.lays "java/lang/ArithmeticException" "java/lang/Throwable" "depth" "I") ∈ WALL := wl4 216 (by decide +kernel) rfl
theorem wd_984 : (Jvm.Cond.lays "java/lang/ArithmeticException" "java/lang/Throwable" "suppressedExceptions" "Ljava/util/List;") ∈ WALL := wl4 217 (by decide +kernel) rfl
theorem wd_985 : (Jvm.Cond.superclass "java/lang/ArithmeticException" "java/lang/RuntimeException") ∈ WALL := wl4 218 (by decide +kernel) rfl
theorem wd_987 : (Jvm.Cond.selects "java/lang/ArithmeticException" ({ cls := "java/lang/Throwable", name := "fillInStackTrace", desc := "(I)Ljava/lang/Throwable;" } : Jvm.MethodName) ({ cls := "java/lang/Throwable", name := "fillInStackTrace", desc := "(I)Ljava/lang/Throwable;" } : Jvm.MethodName)) ∈ WALL := wl4 220 (by decide +kernel) rfl
theorem wd_988 : (Jvm.Cond.methodLink "StormBasinLaw" (105 : Nat) ({ cls := "StormBasin", name := "meanPayment", desc := "()D" } : Jvm.MethodName)) ∈ WALL := wl4 221 (by decide +kernel) rfl
theorem wd_989 : (Jvm.Cond.instanceMethod ({ cls := "StormBasin", name := "meanPayment", desc := "()D" } : Jvm.MethodName)) ∈ WALL := wl4 222 (by decide +kernel) rfl
theorem wd_990 : (Jvm.Cond.selects "StormBasin" ({ cls := "StormBasin", name := "meanPayment", desc := "()D" } : Jvm.MethodName) ({ cls := "StormBasin", name := "meanPayment", desc := "()D" } : Jvm.MethodName)) ∈ WALL := wl4 223 (by decide +kernel) rfl
theorem wd_991 : (Jvm.Cond.code ({ cls := "StormBasin", name := "meanPayment", desc := "()D" } : Jvm.MethodName) prog_1_method_38_code (3 : Nat) (Option.some Jvm.ClassFile.FieldType.double)) ∈ WALL := wl4 224 (by decide +kernel) rfl
theorem wd_992 : (Jvm.Cond.classLink "StormBasin" (254 : Nat) "java/lang/ArithmeticException") ∈ WALL := wl4 225 (by decide +kernel) rfl
theorem wd_994 : (Jvm.Cond.methodLink "StormBasin" (258 : Nat) ({ cls := "java/lang/ArithmeticException", name := "<init>", desc := "(Ljava/lang/String;)V" } : Jvm.MethodName)) ∈ WALL := wl4 227 (by decide +kernel) rfl
theorem wd_995 : (Jvm.Cond.methodLink "StormBasin" (259 : Nat) ({ cls := "StormBasin", name := "paidTotal", desc := "()J" } : Jvm.MethodName)) ∈ WALL := wl4 228 (by decide +kernel) rfl
theorem wd_996 : (Jvm.Cond.methodLink "StormBasinLaw" (268 : Nat) ({ cls := "StormBasinLaw", name := "floodedWithOpening", desc := "(LStormBasin;II[J)I" } : Jvm.MethodName)) ∈ WALL := wl4 229 (by decide +kernel) rfl
theorem wd_997 : (Jvm.Cond.static ({ cls := "StormBasinLaw", name := "floodedWithOpening", desc := "(LStormBasin;II[J)I" } : Jvm.MethodName)) ∈ WALL := wl4 230 (by decide +kernel) rfl
theorem wd_998 : (Jvm.Cond.codeWith ({ cls := "StormBasinLaw", name := "floodedWithOpening", desc := "(LStormBasin;II[J)I" } : Jvm.MethodName) method_30_code (5 : Nat) (Option.some Jvm.ClassFile.FieldType.int) [((0 : Nat), (10 : Nat), (13 : Nat), (13 : Nat)), ((0 : Nat), (10 : Nat), (17 : Nat), (15 : Nat))]) ∈ WALL := wl4 231 (by decide +kernel) rfl
theorem wd_999 : (Jvm.Cond.methodLink "StormBasinLaw" (111 : Nat) ({ cls := "StormBasin", name := "floodedWithOpening", desc := "(II)I" } : Jvm.MethodName)) ∈ WALL := wl4 232 (by decide +kernel) rfl
theorem wd_1000 : (Jvm.Cond.instanceMethod ({ cls := "StormBasin", name := "floodedWithOpening", desc := "(II)I" } : Jvm.MethodName)) ∈ WALL := wl4 233 (by decide +kernel) rfl
theorem wd_1001 : (Jvm.Cond.selects "StormBasin" ({ cls := "StormBasin", name := "floodedWithOpening", desc := "(II)I" } : Jvm.MethodName) ({ cls := "StormBasin", name := "floodedWithOpening", desc := "(II)I" } : Jvm.MethodName)) ∈ WALL := wl4 234 (by decide +kernel) rfl
theorem wd_1002 : (Jvm.Cond.code ({ cls := "StormBasin", name := "floodedWithOpening", desc := "(II)I" } : Jvm.MethodName) prog_1_method_40_code (3 : Nat) (Option.some Jvm.ClassFile.FieldType.int)) ∈ WALL := wl4 235 (by decide +kernel) rfl
theorem wd_1003 : (Jvm.Cond.methodLink "StormBasinLaw" (271 : Nat) ({ cls := "StormBasinLaw", name := "bestOpening", desc := "(LStormBasin;I[J)I" } : Jvm.MethodName)) ∈ WALL := wl4 236 (by decide +kernel) rfl
theorem wd_1004 : (Jvm.Cond.static ({ cls := "StormBasinLaw", name := "bestOpening", desc := "(LStormBasin;I[J)I" } : Jvm.MethodName)) ∈ WALL := wl4 237 (by decide +kernel) rfl
theorem wd_1005 : (Jvm.Cond.codeWith ({ cls := "StormBasinLaw", name := "bestOpening", desc := "(LStormBasin;I[J)I" } : Jvm.MethodName) method_31_code (4 : Nat) (Option.some Jvm.ClassFile.FieldType.int) [((0 : Nat), (9 : Nat), (12 : Nat), (13 : Nat))]) ∈ WALL := wl4 238 (by decide +kernel) rfl
theorem wd_1006 : (Jvm.Cond.methodLink "StormBasinLaw" (114 : Nat) ({ cls := "StormBasin", name := "bestOpening", desc := "(I)I" } : Jvm.MethodName)) ∈ WALL := wl4 239 (by decide +kernel) rfl
theorem wd_1007 : (Jvm.Cond.instanceMethod ({ cls := "StormBasin", name := "bestOpening", desc := "(I)I" } : Jvm.MethodName)) ∈ WALL := wl5 0 (by decide +kernel) rfl
theorem wd_1008 : (Jvm.Cond.selects "StormBasin" ({ cls := "StormBasin", name := "bestOpening", desc := "(I)I" } : Jvm.MethodName) ({ cls := "StormBasin", name := "bestOpening", desc := "(I)I" } : Jvm.MethodName)) ∈ WALL := wl5 1 (by decide +kernel) rfl
theorem wd_1009 : (Jvm.Cond.code ({ cls := "StormBasin", name := "bestOpening", desc := "(I)I" } : Jvm.MethodName) prog_1_method_41_code (6 : Nat) (Option.some Jvm.ClassFile.FieldType.int)) ∈ WALL := wl5 2 (by decide +kernel) rfl
theorem wd_1010 : (Jvm.Cond.methodLink "StormBasinLaw" (274 : Nat) ({ cls := "StormBasinLaw", name := "writeRule", desc := "(LStormBasin;I[J)I" } : Jvm.MethodName)) ∈ WALL := wl5 3 (by decide +kernel) rfl
theorem wd_1011 : (Jvm.Cond.static ({ cls := "StormBasinLaw", name := "writeRule", desc := "(LStormBasin;I[J)I" } : Jvm.MethodName)) ∈ WALL := wl5 4 (by decide +kernel) rfl
theorem wd_1012 : (Jvm.Cond.codeWith ({ cls := "StormBasinLaw", name := "writeRule", desc := "(LStormBasin;I[J)I" } : Jvm.MethodName) method_32_code (4 : Nat) (Option.some Jvm.ClassFile.FieldType.int) [((0 : Nat), (9 : Nat), (12 : Nat), (13 : Nat))]) ∈ WALL := wl5 5 (by decide +kernel) rfl
theorem wd_1013 : (Jvm.Cond.methodLink "StormBasinLaw" (117 : Nat) ({ cls := "StormBasin", name := "writeRule", desc := "(I)I" } : Jvm.MethodName)) ∈ WALL := wl5 6 (by decide +kernel) rfl
theorem wd_1014 : (Jvm.Cond.instanceMethod ({ cls := "StormBasin", name := "writeRule", desc := "(I)I" } : Jvm.MethodName)) ∈ WALL := wl5 7 (by decide +kernel) rfl
theorem wd_1015 : (Jvm.Cond.selects "StormBasin" ({ cls := "StormBasin", name := "writeRule", desc := "(I)I" } : Jvm.MethodName) ({ cls := "StormBasin", name := "writeRule", desc := "(I)I" } : Jvm.MethodName)) ∈ WALL := wl5 8 (by decide +kernel) rfl
theorem wd_1016 : (Jvm.Cond.code ({ cls := "StormBasin", name := "writeRule", desc := "(I)I" } : Jvm.MethodName) prog_1_method_42_code (3 : Nat) (Option.some Jvm.ClassFile.FieldType.int)) ∈ WALL := wl5 9 (by decide +kernel) rfl
theorem wd_1017 : (Jvm.Cond.methodLink "StormBasin" (266 : Nat) ({ cls := "java/lang/StringBuilder", name := "setLength", desc := "(I)V" } : Jvm.MethodName)) ∈ WALL := wl5 10 (by decide +kernel) rfl
theorem wd_1018 : (Jvm.Cond.instanceMethod ({ cls := "java/lang/StringBuilder", name := "setLength", desc := "(I)V" } : Jvm.MethodName)) ∈ WALL := wl5 11 (by decide +kernel) rfl
theorem wd_1019 : (Jvm.Cond.selects "java/lang/StringBuilder" ({ cls := "java/lang/StringBuilder", name := "setLength", desc := "(I)V" } : Jvm.MethodName) ({ cls := "java/lang/StringBuilder", name := "setLength", desc := "(I)V" } : Jvm.MethodName)) ∈ WALL := wl5 12 (by decide +kernel) rfl
theorem wd_1020 : (Jvm.Cond.code ({ cls := "java/lang/StringBuilder", name := "setLength", desc := "(I)V" } : Jvm.MethodName) prog_27_method_89_code (2 : Nat) (Option.none : Option Jvm.ClassFile.FieldType)) ∈ WALL := wl5 13 (by decide +kernel) rfl
theorem wd_1021 : (Jvm.Cond.methodLink "java/lang/StringBuilder" (333 : Nat) ({ cls := "java/lang/AbstractStringBuilder", name := "setLength", desc := "(I)V" } : Jvm.MethodName)) ∈ WALL := wl5 14 (by decide +kernel) rfl
theorem wd_1022 : (Jvm.Cond.instanceMethod ({ cls := "java/lang/AbstractStringBuilder", name := "setLength", desc := "(I)V" } : Jvm.MethodName)) ∈ WALL := wl5 15 (by decide +kernel) rfl
theorem wd_1023 : (Jvm.Cond.code ({ cls := "java/lang/AbstractStringBuilder", name := "setLength", desc := "(I)V" } : Jvm.MethodName) prog_10_method_13_code (2 : Nat) (Option.none : Option Jvm.ClassFile.FieldType)) ∈ WALL := wl5 16 (by decide +kernel) rfl
theorem wd_1024 : (Jvm.Cond.classLink "java/lang/AbstractStringBuilder" (129 : Nat) "java/lang/StringIndexOutOfBoundsException") ∈ WALL := wl5 17 (by decide +kernel) rfl
theorem wd_1025 : (Jvm.Cond.instantiable "java/lang/StringIndexOutOfBoundsException" (6 : Nat)) ∈ WALL := wl5 18 (by decide +kernel) rfl
theorem wd_1026 : (Jvm.Cond.methodLink "java/lang/AbstractStringBuilder" (131 : Nat) ({ cls := "java/lang/StringIndexOutOfBoundsException", name := "<init>", desc := "(I)V" } : Jvm.MethodName)) ∈ WALL := wl5 19 (by decide +kernel) rfl
theorem wd_1027 : (Jvm.Cond.instanceMethod ({ cls := "java/lang/StringIndexOutOfBoundsException", name := "<init>", desc := "(I)V" } : Jvm.MethodName)) ∈ WALL := wl5 20 (by decide +kernel) rfl
theorem wd_1028 : (Jvm.Cond.code ({ cls := "java/lang/StringIndexOutOfBoundsException", name := "<init>", desc := "(I)V" } : Jvm.MethodName) prog_28_method_3_code (2 : Nat) (Option.none : Option Jvm.ClassFile.FieldType)) ∈ WALL := wl5 21 (by decide +kernel) rfl
theorem wd_1029 : (Jvm.Cond.classLink "java/lang/StringIndexOutOfBoundsException" (10 : Nat) "java/lang/StringBuilder") ∈ WALL := wl5 22 (by decide +kernel) rfl
theorem wd_1030 : (Jvm.Cond.methodLink "java/lang/StringIndexOutOfBoundsException" (12 : Nat) ({ cls := "java/lang/StringBuilder", name := "<init>", desc := "()V" } : Jvm.MethodName)) ∈ WALL := wl5 23 (by decide +kernel) rfl
theorem wd_1032 : (Jvm.Cond.methodLink "java/lang/StringIndexOutOfBoundsException" (15 : Nat) ({ cls := "java/lang/StringBuilder", name := "append", desc := "(Ljava/lang/String;)Ljava/lang/StringBuilder;" } : Jvm.MethodName)) ∈ WALL := wl5 25 (by decide +kernel) rfl
theorem wd_1033 : (Jvm.Cond.instanceMethod ({ cls := "java/lang/StringBuilder", name := "append", desc := "(Ljava/lang/String;)Ljava/lang/StringBuilder;" } : Jvm.MethodName)) ∈ WALL := wl5 26 (by decide +kernel) rfl
theorem wd_1034 : (Jvm.Cond.selects "java/lang/StringBuilder" ({ cls := "java/lang/StringBuilder", name := "append", desc := "(Ljava/lang/String;)Ljava/lang/StringBuilder;" } : Jvm.MethodName) ({ cls := "java/lang/StringBuilder", name := "append", desc := "(Ljava/lang/String;)Ljava/lang/StringBuilder;" } : Jvm.MethodName)) ∈ WALL := wl5 27 (by decide +kernel) rfl
theorem wd_1035 : (Jvm.Cond.code ({ cls := "java/lang/StringBuilder", name := "append", desc := "(Ljava/lang/String;)Ljava/lang/StringBuilder;" } : Jvm.MethodName) prog_27_method_7_code (2 : Nat) (Option.some (Jvm.ClassFile.FieldType.object "java/lang/StringBuilder"))) ∈ WALL := wl5 28 (by decide +kernel) rfl
theorem wd_1036 : (Jvm.Cond.methodLink "java/lang/StringBuilder" (29 : Nat) ({ cls := "java/lang/AbstractStringBuilder", name := "append", desc := "(Ljava/lang/String;)Ljava/lang/AbstractStringBuilder;" } : Jvm.MethodName)) ∈ WALL := wl5 29 (by decide +kernel) rfl
theorem wd_1037 : (Jvm.Cond.instanceMethod ({ cls := "java/lang/AbstractStringBuilder", name := "append", desc := "(Ljava/lang/String;)Ljava/lang/AbstractStringBuilder;" } : Jvm.MethodName)) ∈ WALL := wl5 30 (by decide +kernel) rfl
theorem wd_1038 : (Jvm.Cond.code ({ cls := "java/lang/AbstractStringBuilder", name := "append", desc := "(Ljava/lang/String;)Ljava/lang/AbstractStringBuilder;" } : Jvm.MethodName) prog_10_method_22_code (3 : Nat) (Option.some (Jvm.ClassFile.FieldType.object "java/lang/AbstractStringBuilder"))) ∈ WALL := wl5 31 (by decide +kernel) rfl
theorem wd_1039 : (Jvm.Cond.methodLink "java/lang/AbstractStringBuilder" (204 : Nat) ({ cls := "java/lang/AbstractStringBuilder", name := "appendNull", desc := "()Ljava/lang/AbstractStringBuilder;" } : Jvm.MethodName)) ∈ WALL := wl5 32 (by decide +kernel) rfl
theorem wd_1041 : (Jvm.Cond.instanceMethod ({ cls := "java/lang/AbstractStringBuilder", name := "appendNull", desc := "()Ljava/lang/AbstractStringBuilder;" } : Jvm.MethodName)) ∈ WALL := wl5 34 (by decide +kernel) rfl
theorem wd_1042 : (Jvm.Cond.code ({ cls := "java/lang/AbstractStringBuilder", name := "appendNull", desc := "()Ljava/lang/AbstractStringBuilder;" } : Jvm.MethodName) prog_10_method_26_code (3 : Nat) (Option.some (Jvm.ClassFile.FieldType.object "java/lang/AbstractStringBuilder"))) ∈ WALL := wl5 35 (by decide +kernel) rfl
theorem wd_1043 : (Jvm.Cond.methodLink "java/lang/AbstractStringBuilder" (100 : Nat) ({ cls := "java/lang/AbstractStringBuilder", name := "ensureCapacityInternal", desc := "(I)V" } : Jvm.MethodName)) ∈ WALL := wl5 36 (by decide +kernel) rfl
theorem wd_1045 : (Jvm.Cond.instanceMethod ({ cls := "java/lang/AbstractStringBuilder", name := "ensureCapacityInternal", desc := "(I)V" } : Jvm.MethodName)) ∈ WALL := wl5 38 (by decide +kernel) rfl
theorem wd_1046 : (Jvm.Cond.code ({ cls := "java/lang/AbstractStringBuilder", name := "ensureCapacityInternal", desc := "(I)V" } : Jvm.MethodName) prog_10_method_9_code (3 : Nat) (Option.none : Option Jvm.ClassFile.FieldType)) ∈ WALL := wl5 39 (by decide +kernel) rfl
theorem wd_1047 : (Jvm.Cond.methodLink "java/lang/AbstractStringBuilder" (104 : Nat) ({ cls := "java/lang/AbstractStringBuilder", name := "newCapacity", desc := "(I)I" } : Jvm.MethodName)) ∈ WALL := wl5 40 (by decide +kernel) rfl
theorem wd_1049 : (Jvm.Cond.instanceMethod ({ cls := "java/lang/AbstractStringBuilder", name := "newCapacity", desc := "(I)I" } : Jvm.MethodName)) ∈ WALL := wl5 42 (by decide +kernel) rfl
theorem wd_1050 : (Jvm.Cond.code ({ cls := "java/lang/AbstractStringBuilder", name := "newCapacity", desc := "(I)I" } : Jvm.MethodName) prog_10_method_10_code (6 : Nat) (Option.some Jvm.ClassFile.FieldType.int)) ∈ WALL := wl5 43 (by decide +kernel) rfl
theorem wd_1051 : (Jvm.Cond.methodLink "java/lang/AbstractStringBuilder" (114 : Nat) ({ cls := "jdk/internal/util/ArraysSupport", name := "newLength", desc := "(III)I" } : Jvm.MethodName)) ∈ WALL := wl5 44 (by decide +kernel) rfl
theorem wd_1052 : (Jvm.Cond.constant "java/lang/AbstractStringBuilder" (39 : Nat) (2147483647 : Int32)) ∈ WALL := wl5 45 (by decide +kernel) rfl
theorem wd_1053 : (Jvm.Cond.methodLink "java/lang/AbstractStringBuilder" (108 : Nat) ({ cls := "java/util/Arrays", name := "copyOf", desc := "([BI)[B" } : Jvm.MethodName)) ∈ WALL := wl5 46 (by decide +kernel) rfl
theorem wd_1054 : (Jvm.Cond.static ({ cls := "java/util/Arrays", name := "copyOf", desc := "([BI)[B" } : Jvm.MethodName)) ∈ WALL := wl5 47 (by decide +kernel) rfl
theorem wd_1055 : (Jvm.Cond.code ({ cls := "java/util/Arrays", name := "copyOf", desc := "([BI)[B" } : Jvm.MethodName) prog_39_method_121_code (3 : Nat) (Option.some (Jvm.ClassFile.FieldType.array Jvm.ClassFile.FieldType.byte))) ∈ WALL := wl5 48 (by decide +kernel) rfl
theorem wd_1056 : (Jvm.Cond.methodLink "java/util/Arrays" (310 : Nat) ({ cls := "[B", name := "clone", desc := "()Ljava/lang/Object;" } : Jvm.MethodName)) ∈ WALL := wl5 49 (by decide +kernel) rfl
theorem wd_1057 : (Jvm.Cond.sameMethod "[B" "java/lang/Object" "clone" "()Ljava/lang/Object;") ∈ WALL := wl5 50 (by decide +kernel) rfl
theorem wd_1058 : (Jvm.Cond.native ({ cls := "java/lang/Object", name := "clone", desc := "()Ljava/lang/Object;" } : Jvm.MethodName)) ∈ WALL := wl5 51 (by decide +kernel) rfl
theorem wd_1059 : (Jvm.Cond.instanceMethod ({ cls := "java/lang/Object", name := "clone", desc := "()Ljava/lang/Object;" } : Jvm.MethodName)) ∈ WALL := wl5 52 (by decide +kernel) rfl
theorem wd_1060 : (Jvm.Cond.selects "[B" ({ cls := "[B", name := "clone", desc := "()Ljava/lang/Object;" } : Jvm.MethodName) ({ cls := "java/lang/Object", name := "clone", desc := "()Ljava/lang/Object;" } : Jvm.MethodName)) ∈ WALL := wl5 53 (by decide +kernel) rfl
theorem wd_1062 : (Jvm.Cond.classLink "java/util/Arrays" (311 : Nat) "[B") ∈ WALL := wl5 55 (by decide +kernel) rfl
theorem wd_1063 : (Jvm.Cond.methodLink "java/lang/AbstractStringBuilder" (83 : Nat) ({ cls := "java/lang/AbstractStringBuilder", name := "isLatin1", desc := "()Z" } : Jvm.MethodName)) ∈ WALL := wl5 56 (by decide +kernel) rfl
theorem wd_1064 : (Jvm.Cond.instanceMethod ({ cls := "java/lang/AbstractStringBuilder", name := "isLatin1", desc := "()Z" } : Jvm.MethodName)) ∈ WALL := wl5 57 (by decide +kernel) rfl
theorem wd_1065 : (Jvm.Cond.sameMethod "java/lang/AbstractStringBuilder" "java/lang/AbstractStringBuilder" "isLatin1" "()Z") ∈ WALL := wl5 58 (by decide +kernel) rfl
theorem wd_1066 : (Jvm.Cond.selects "java/lang/StringBuilder" ({ cls := "java/lang/AbstractStringBuilder", name := "isLatin1", desc := "()Z" } : Jvm.MethodName) ({ cls := "java/lang/AbstractStringBuilder", name := "isLatin1", desc := "()Z" } : Jvm.MethodName)) ∈ WALL := wl5 59 (by decide +kernel) rfl
theorem wd_1067 : (Jvm.Cond.code ({ cls := "java/lang/AbstractStringBuilder", name := "isLatin1", desc := "()Z" } : Jvm.MethodName) prog_10_method_68_code (1 : Nat) (Option.some Jvm.ClassFile.FieldType.boolean)) ∈ WALL := wl5 60 (by decide +kernel) rfl
theorem wd_1068 : (Jvm.Cond.methodLink "java/lang/AbstractStringBuilder" (226 : Nat) ({ cls := "java/lang/StringUTF16", name := "putCharsAt", desc := "([BICCCC)I" } : Jvm.MethodName)) ∈ WALL := wl5 61 (by decide +kernel) rfl
theorem wd_1069 : (Jvm.Cond.static ({ cls := "java/lang/StringUTF16", name := "putCharsAt", desc := "([BICCCC)I" } : Jvm.MethodName)) ∈ WALL := wl5 62 (by decide +kernel) rfl
theorem wd_1070 : (Jvm.Cond.code ({ cls := "java/lang/StringUTF16", name := "putCharsAt", desc := "([BICCCC)I" } : Jvm.MethodName) prog_30_method_81_code (7 : Nat) (Option.some Jvm.ClassFile.FieldType.int)) ∈ WALL := wl5 63 (by decide +kernel) rfl
theorem wd_1071 : (Jvm.Cond.methodLink "java/lang/StringUTF16" (96 : Nat) ({ cls := "java/lang/StringUTF16", name := "checkBoundsBeginEnd", desc := "(II[B)V" } : Jvm.MethodName)) ∈ WALL := wl5 64 (by decide +kernel) rfl
theorem wd_1072 : (Jvm.Cond.static ({ cls := "java/lang/StringUTF16", name := "checkBoundsBeginEnd", desc := "(II[B)V" } : Jvm.MethodName)) ∈ WALL := wl5 65 (by decide +kernel) rfl
theorem wd_1073 : (Jvm.Cond.code ({ cls := "java/lang/StringUTF16", name := "checkBoundsBeginEnd", desc := "(II[B)V" } : Jvm.MethodName) prog_30_method_93_code (3 : Nat) (Option.none : Option Jvm.ClassFile.FieldType)) ∈ WALL := wl5 66 (by decide +kernel) rfl
theorem wd_1074 : (Jvm.Cond.methodLink "java/lang/StringUTF16" (48 : Nat) ({ cls := "java/lang/StringUTF16", name := "length", desc := "([B)I" } : Jvm.MethodName)) ∈ WALL := wl5 67 (by decide +kernel) rfl
theorem wd_1075 : (Jvm.Cond.static ({ cls := "java/lang/StringUTF16", name := "length", desc := "([B)I" } : Jvm.MethodName)) ∈ WALL := wl5 68 (by decide +kernel) rfl
theorem wd_1076 : (Jvm.Cond.code ({ cls := "java/lang/StringUTF16", name := "length", desc := "([B)I" } : Jvm.MethodName) prog_30_method_6_code (1 : Nat) (Option.some Jvm.ClassFile.FieldType.int)) ∈ WALL := wl5 69 (by decide +kernel) rfl
theorem wd_1077 : (Jvm.Cond.methodLink "java/lang/StringUTF16" (241 : Nat) ({ cls := "java/lang/String", name := "checkBoundsBeginEnd", desc := "(III)V" } : Jvm.MethodName)) ∈ WALL := wl5 70 (by decide +kernel) rfl
theorem wd_1078 : (Jvm.Cond.static ({ cls := "java/lang/String", name := "checkBoundsBeginEnd", desc := "(III)V" } : Jvm.MethodName)) ∈ WALL := wl5 71 (by decide +kernel) rfl
theorem wd_1079 : (Jvm.Cond.code ({ cls := "java/lang/String", name := "checkBoundsBeginEnd", desc := "(III)V" } : Jvm.MethodName) prog_26_method_158_code (3 : Nat) (Option.none : Option Jvm.ClassFile.FieldType)) ∈ WALL := wl5 72 (by decide +kernel) rfl
theorem wd_1080 : (Jvm.Cond.fieldLink "java/lang/String" (1053 : Nat) "jdk/internal/util/Preconditions" "SIOOBE_FORMATTER" "Ljava/util/function/BiFunction;") ∈ WALL := wl5 73 (by decide +kernel) rfl
theorem wd_1082 : (Jvm.Cond.methodLink "java/lang/String" (1062 : Nat) ({ cls := "jdk/internal/util/Preconditions", name := "checkFromToIndex", desc := "(IIILjava/util/function/BiFunction;)I" } : Jvm.MethodName)) ∈ WALL := wl5 75 (by decide +kernel) rfl
theorem wd_1083 : (Jvm.Cond.static ({ cls := "jdk/internal/util/Preconditions", name := "checkFromToIndex", desc := "(IIILjava/util/function/BiFunction;)I" } : Jvm.MethodName)) ∈ WALL := wl5 76 (by decide +kernel) rfl
theorem wd_1084 : (Jvm.Cond.code ({ cls := "jdk/internal/util/Preconditions", name := "checkFromToIndex", desc := "(IIILjava/util/function/BiFunction;)I" } : Jvm.MethodName) prog_47_method_12_code (4 : Nat) (Option.some Jvm.ClassFile.FieldType.int)) ∈ WALL := wl5 77 (by decide +kernel) rfl
theorem wd_1085 : (Jvm.Cond.methodLink "java/lang/StringUTF16" (111 : Nat) ({ cls := "java/lang/StringUTF16", name := "putChar", desc := "([BII)V" } : Jvm.MethodName)) ∈ WALL := wl5 78 (by decide +kernel) rfl
theorem wd_1086 : (Jvm.Cond.static ({ cls := "java/lang/StringUTF16", name := "putChar", desc := "([BII)V" } : Jvm.MethodName)) ∈ WALL := wl5 79 (by decide +kernel) rfl
theorem wd_1087 : (Jvm.Cond.code ({ cls := "java/lang/StringUTF16", name := "putChar", desc := "([BII)V" } : Jvm.MethodName) prog_30_method_4_code (3 : Nat) (Option.none : Option Jvm.ClassFile.FieldType)) ∈ WALL := wl5 80 (by decide +kernel) rfl
theorem wd_1088 : (Jvm.Cond.fieldLink "java/lang/StringUTF16" (44 : Nat) "java/lang/StringUTF16" "$assertionsDisabled" "Z") ∈ WALL := wl5 81 (by decide +kernel) rfl
theorem wd_1090 : (Jvm.Cond.fieldLink "java/lang/StringUTF16" (59 : Nat) "java/lang/StringUTF16" "HI_BYTE_SHIFT" "I") ∈ WALL := wl5 83 (by decide +kernel) rfl
theorem wd_1092 : (Jvm.Cond.fieldLink "java/lang/StringUTF16" (63 : Nat) "java/lang/StringUTF16" "LO_BYTE_SHIFT" "I") ∈ WALL := wl5 85 (by decide +kernel) rfl
theorem wd_1094 : (Jvm.Cond.methodLink "java/lang/AbstractStringBuilder" (32 : Nat) ({ cls := "java/lang/String", name := "length", desc := "()I" } : Jvm.MethodName)) ∈ WALL := wl5 87 (by decide +kernel) rfl
theorem wd_1095 : (Jvm.Cond.instanceMethod ({ cls := "java/lang/String", name := "length", desc := "()I" } : Jvm.MethodName)) ∈ WALL := wl5 88 (by decide +kernel) rfl
theorem wd_1096 : (Jvm.Cond.selects "java/lang/String" ({ cls := "java/lang/String", name := "length", desc := "()I" } : Jvm.MethodName) ({ cls := "java/lang/String", name := "length", desc := "()I" } : Jvm.MethodName)) ∈ WALL := wl5 89 (by decide +kernel) rfl
theorem wd_1097 : (Jvm.Cond.code ({ cls := "java/lang/String", name := "length", desc := "()I" } : Jvm.MethodName) prog_26_method_54_code (1 : Nat) (Option.some Jvm.ClassFile.FieldType.int)) ∈ WALL := wl5 90 (by decide +kernel) rfl
theorem wd_1098 : (Jvm.Cond.methodLink "java/lang/String" (335 : Nat) ({ cls := "java/lang/String", name := "coder", desc := "()B" } : Jvm.MethodName)) ∈ WALL := wl5 91 (by decide +kernel) rfl
theorem wd_1099 : (Jvm.Cond.instanceMethod ({ cls := "java/lang/String", name := "coder", desc := "()B" } : Jvm.MethodName)) ∈ WALL := wl5 92 (by decide +kernel) rfl
theorem wd_1100 : (Jvm.Cond.selects "java/lang/String" ({ cls := "java/lang/String", name := "coder", desc := "()B" } : Jvm.MethodName) ({ cls := "java/lang/String", name := "coder", desc := "()B" } : Jvm.MethodName)) ∈ WALL := wl5 93 (by decide +kernel) rfl
theorem wd_1101 : (Jvm.Cond.code ({ cls := "java/lang/String", name := "coder", desc := "()B" } : Jvm.MethodName) prog_26_method_152_code (1 : Nat) (Option.some Jvm.ClassFile.FieldType.byte)) ∈ WALL := wl5 94 (by decide +kernel) rfl
theorem wd_1102 : (Jvm.Cond.fieldLink "java/lang/String" (38 : Nat) "java/lang/String" "COMPACT_STRINGS" "Z") ∈ WALL := wl5 95 (by decide +kernel) rfl
theorem wd_1103 : (Jvm.Cond.methodLink "java/lang/AbstractStringBuilder" (208 : Nat) ({ cls := "java/lang/AbstractStringBuilder", name := "putStringAt", desc := "(ILjava/lang/String;)V" } : Jvm.MethodName)) ∈ WALL := wl5 96 (by decide +kernel) rfl
theorem wd_1105 : (Jvm.Cond.instanceMethod ({ cls := "java/lang/AbstractStringBuilder", name := "putStringAt", desc := "(ILjava/lang/String;)V" } : Jvm.MethodName)) ∈ WALL := wl5 98 (by decide +kernel) rfl
theorem wd_1106 : (Jvm.Cond.code ({ cls := "java/lang/AbstractStringBuilder", name := "putStringAt", desc := "(ILjava/lang/String;)V" } : Jvm.MethodName) prog_10_method_73_code (3 : Nat) (Option.none : Option Jvm.ClassFile.FieldType)) ∈ WALL := wl5 99 (by decide +kernel) rfl
theorem wd_1107 : (Jvm.Cond.methodLink "java/lang/AbstractStringBuilder" (397 : Nat) ({ cls := "java/lang/AbstractStringBuilder", name := "inflateIfNeededFor", desc := "(Ljava/lang/String;)V" } : Jvm.MethodName)) ∈ WALL := wl5 100 (by decide +kernel) rfl
theorem wd_1109 : (Jvm.Cond.instanceMethod ({ cls := "java/lang/AbstractStringBuilder", name := "inflateIfNeededFor", desc := "(Ljava/lang/String;)V" } : Jvm.MethodName)) ∈ WALL := wl5 102 (by decide +kernel) rfl
theorem wd_1110 : (Jvm.Cond.code ({ cls := "java/lang/AbstractStringBuilder", name := "inflateIfNeededFor", desc := "(Ljava/lang/String;)V" } : Jvm.MethodName) prog_10_method_71_code (2 : Nat) (Option.none : Option Jvm.ClassFile.FieldType)) ∈ WALL := wl5 103 (by decide +kernel) rfl
theorem wd_1111 : (Jvm.Cond.methodLink "java/lang/AbstractStringBuilder" (40 : Nat) ({ cls := "java/lang/String", name := "coder", desc := "()B" } : Jvm.MethodName)) ∈ WALL := wl5 104 (by decide +kernel) rfl
theorem wd_1112 : (Jvm.Cond.methodLink "java/lang/AbstractStringBuilder" (195 : Nat) ({ cls := "java/lang/AbstractStringBuilder", name := "inflate", desc := "()V" } : Jvm.MethodName)) ∈ WALL := wl5 105 (by decide +kernel) rfl
theorem wd_1114 : (Jvm.Cond.instanceMethod ({ cls := "java/lang/AbstractStringBuilder", name := "inflate", desc := "()V" } : Jvm.MethodName)) ∈ WALL := wl5 107 (by decide +kernel) rfl
theorem wd_1115 : (Jvm.Cond.code ({ cls := "java/lang/AbstractStringBuilder", name := "inflate", desc := "()V" } : Jvm.MethodName) prog_10_method_11_code (2 : Nat) (Option.none : Option Jvm.ClassFile.FieldType)) ∈ WALL := wl5 108 (by decide +kernel) rfl
theorem wd_1116 : (Jvm.Cond.methodLink "java/lang/AbstractStringBuilder" (125 : Nat) ({ cls := "java/lang/StringLatin1", name := "inflate", desc := "([BI[BII)V" } : Jvm.MethodName)) ∈ WALL := wl5 109 (by decide +kernel) rfl
theorem wd_1117 : (Jvm.Cond.static ({ cls := "java/lang/StringLatin1", name := "inflate", desc := "([BI[BII)V" } : Jvm.MethodName)) ∈ WALL := wl5 110 (by decide +kernel) rfl
theorem wd_1118 : (Jvm.Cond.code ({ cls := "java/lang/StringLatin1", name := "inflate", desc := "([BI[BII)V" } : Jvm.MethodName) prog_29_method_50_code (5 : Nat) (Option.none : Option Jvm.ClassFile.FieldType)) ∈ WALL := wl5 111 (by decide +kernel) rfl
theorem wd_1119 : (Jvm.Cond.methodLink "java/lang/StringLatin1" (240 : Nat) ({ cls := "java/lang/StringUTF16", name := "inflate", desc := "([BI[BII)V" } : Jvm.MethodName)) ∈ WALL := wl5 112 (by decide +kernel) rfl
theorem wd_1120 : (Jvm.Cond.static ({ cls := "java/lang/StringUTF16", name := "inflate", desc := "([BI[BII)V" } : Jvm.MethodName)) ∈ WALL := wl5 113 (by decide +kernel) rfl
theorem wd_1121 : (Jvm.Cond.code ({ cls := "java/lang/StringUTF16", name := "inflate", desc := "([BI[BII)V" } : Jvm.MethodName) prog_30_method_86_code (6 : Nat) (Option.none : Option Jvm.ClassFile.FieldType)) ∈ WALL := wl5 114 (by decide +kernel) rfl
theorem wd_1122 : (Jvm.Cond.methodLink "java/lang/StringUTF16" (173 : Nat) ({ cls := "java/lang/StringUTF16", name := "checkBoundsOffCount", desc := "(II[B)V" } : Jvm.MethodName)) ∈ WALL := wl5 115 (by decide +kernel) rfl
theorem wd_1123 : (Jvm.Cond.static ({ cls := "java/lang/StringUTF16", name := "checkBoundsOffCount", desc := "(II[B)V" } : Jvm.MethodName)) ∈ WALL := wl5 116 (by decide +kernel) rfl
theorem wd_1124 : (Jvm.Cond.code ({ cls := "java/lang/StringUTF16", name := "checkBoundsOffCount", desc := "(II[B)V" } : Jvm.MethodName) prog_30_method_94_code (3 : Nat) (Option.none : Option Jvm.ClassFile.FieldType)) ∈ WALL := wl5 117 (by decide +kernel) rfl
theorem wd_1125 : (Jvm.Cond.methodLink "java/lang/StringUTF16" (419 : Nat) ({ cls := "java/lang/String", name := "checkBoundsOffCount", desc := "(III)I" } : Jvm.MethodName)) ∈ WALL := wl5 118 (by decide +kernel) rfl
theorem wd_1126 : (Jvm.Cond.static ({ cls := "java/lang/String", name := "checkBoundsOffCount", desc := "(III)I" } : Jvm.MethodName)) ∈ WALL := wl5 119 (by decide +kernel) rfl
theorem wd_1127 : (Jvm.Cond.code ({ cls := "java/lang/String", name := "checkBoundsOffCount", desc := "(III)I" } : Jvm.MethodName) prog_26_method_157_code (3 : Nat) (Option.some Jvm.ClassFile.FieldType.int)) ∈ WALL := wl5 120 (by decide +kernel) rfl
theorem wd_1128 : (Jvm.Cond.methodLink "java/lang/String" (1065 : Nat) ({ cls := "jdk/internal/util/Preconditions", name := "checkFromIndexSize", desc := "(IIILjava/util/function/BiFunction;)I" } : Jvm.MethodName)) ∈ WALL := wl5 121 (by decide +kernel) rfl
theorem wd_1129 : (Jvm.Cond.static ({ cls := "jdk/internal/util/Preconditions", name := "checkFromIndexSize", desc := "(IIILjava/util/function/BiFunction;)I" } : Jvm.MethodName)) ∈ WALL := wl5 122 (by decide +kernel) rfl
theorem wd_1130 : (Jvm.Cond.code ({ cls := "jdk/internal/util/Preconditions", name := "checkFromIndexSize", desc := "(IIILjava/util/function/BiFunction;)I" } : Jvm.MethodName) prog_47_method_13_code (4 : Nat) (Option.some Jvm.ClassFile.FieldType.int)) ∈ WALL := wl5 123 (by decide +kernel) rfl
theorem wd_1131 : (Jvm.Cond.methodLink "java/lang/AbstractStringBuilder" (399 : Nat) ({ cls := "java/lang/String", name := "getBytes", desc := "([BIB)V" } : Jvm.MethodName)) ∈ WALL := wl5 124 (by decide +kernel) rfl
theorem wd_1132 : (Jvm.Cond.instanceMethod ({ cls := "java/lang/String", name := "getBytes", desc := "([BIB)V" } : Jvm.MethodName)) ∈ WALL := wl5 125 (by decide +kernel) rfl
theorem wd_1133 : (Jvm.Cond.selects "java/lang/String" ({ cls := "java/lang/String", name := "getBytes", desc := "([BIB)V" } : Jvm.MethodName) ({ cls := "java/lang/String", name := "getBytes", desc := "([BIB)V" } : Jvm.MethodName)) ∈ WALL := wl5 126 (by decide +kernel) rfl
theorem wd_1134 : (Jvm.Cond.code ({ cls := "java/lang/String", name := "getBytes", desc := "([BIB)V" } : Jvm.MethodName) prog_26_method_147_code (4 : Nat) (Option.none : Option Jvm.ClassFile.FieldType)) ∈ WALL := wl5 127 (by decide +kernel) rfl
theorem wd_1135 : (Jvm.Cond.methodLink "java/lang/String" (212 : Nat) ({ cls := "java/lang/System", name := "arraycopy", desc := "(Ljava/lang/Object;ILjava/lang/Object;II)V" } : Jvm.MethodName)) ∈ WALL := wl5 128 (by decide +kernel) rfl
theorem wd_1136 : (Jvm.Cond.methodLink "java/lang/String" (106 : Nat) ({ cls := "java/lang/StringLatin1", name := "inflate", desc := "([BI[BII)V" } : Jvm.MethodName)) ∈ WALL := wl5 129 (by decide +kernel) rfl
theorem wd_1137 : (Jvm.Cond.methodLink "java/lang/StringIndexOutOfBoundsException" (19 : Nat) ({ cls := "java/lang/StringBuilder", name := "append", desc := "(I)Ljava/lang/StringBuilder;" } : Jvm.MethodName)) ∈ WALL := wl5 130 (by decide +kernel) rfl
theorem wd_1138 : (Jvm.Cond.instanceMethod ({ cls := "java/lang/StringBuilder", name := "append", desc := "(I)Ljava/lang/StringBuilder;" } : Jvm.MethodName)) ∈ WALL := wl5 131 (by decide +kernel) rfl
theorem wd_1139 : (Jvm.Cond.selects "java/lang/StringBuilder" ({ cls := "java/lang/StringBuilder", name := "append", desc := "(I)Ljava/lang/StringBuilder;" } : Jvm.MethodName) ({ cls := "java/lang/StringBuilder", name := "append", desc := "(I)Ljava/lang/StringBuilder;" } : Jvm.MethodName)) ∈ WALL := wl5 132 (by decide +kernel) rfl
theorem wd_1140 : (Jvm.Cond.code ({ cls := "java/lang/StringBuilder", name := "append", desc := "(I)Ljava/lang/StringBuilder;" } : Jvm.MethodName) prog_27_method_15_code (2 : Nat) (Option.some (Jvm.ClassFile.FieldType.object "java/lang/StringBuilder"))) ∈ WALL := wl5 133 (by decide +kernel) rfl
theorem wd_1141 : (Jvm.Cond.methodLink "java/lang/StringBuilder" (53 : Nat) ({ cls := "java/lang/AbstractStringBuilder", name := "append", desc := "(I)Ljava/lang/AbstractStringBuilder;" } : Jvm.MethodName)) ∈ WALL := wl5 134 (by decide +kernel) rfl
theorem wd_1142 : (Jvm.Cond.instanceMethod ({ cls := "java/lang/AbstractStringBuilder", name := "append", desc := "(I)Ljava/lang/AbstractStringBuilder;" } : Jvm.MethodName)) ∈ WALL := wl5 135 (by decide +kernel) rfl
theorem wd_1143 : (Jvm.Cond.code ({ cls := "java/lang/AbstractStringBuilder", name := "append", desc := "(I)Ljava/lang/AbstractStringBuilder;" } : Jvm.MethodName) prog_10_method_32_code (4 : Nat) (Option.some (Jvm.ClassFile.FieldType.object "java/lang/AbstractStringBuilder"))) ∈ WALL := wl5 136 (by decide +kernel) rfl
theorem wd_1144 : (Jvm.Cond.methodLink "java/lang/AbstractStringBuilder" (245 : Nat) ({ cls := "java/lang/Integer", name := "stringSize", desc := "(I)I" } : Jvm.MethodName)) ∈ WALL := wl5 137 (by decide +kernel) rfl
theorem wd_1145 : (Jvm.Cond.static ({ cls := "java/lang/Integer", name := "stringSize", desc := "(I)I" } : Jvm.MethodName)) ∈ WALL := wl5 138 (by decide +kernel) rfl
theorem wd_1146 : (Jvm.Cond.code ({ cls := "java/lang/Integer", name := "stringSize", desc := "(I)I" } : Jvm.MethodName) prog_21_method_13_code (4 : Nat) (Option.some Jvm.ClassFile.FieldType.int)) ∈ WALL := wl5 139 (by decide +kernel) rfl
theorem wd_1147 : (Jvm.Cond.methodLink "java/lang/AbstractStringBuilder" (248 : Nat) ({ cls := "java/lang/Integer", name := "getChars", desc := "(II[B)I" } : Jvm.MethodName)) ∈ WALL := wl5 140 (by decide +kernel) rfl
theorem wd_1148 : (Jvm.Cond.static ({ cls := "java/lang/Integer", name := "getChars", desc := "(II[B)I" } : Jvm.MethodName)) ∈ WALL := wl5 141 (by decide +kernel) rfl
theorem wd_1149 : (Jvm.Cond.code ({ cls := "java/lang/Integer", name := "getChars", desc := "(II[B)I" } : Jvm.MethodName) prog_21_method_12_code (7 : Nat) (Option.some Jvm.ClassFile.FieldType.int)) ∈ WALL := wl5 142 (by decide +kernel) rfl
theorem wd_1150 : (Jvm.Cond.fieldLink "java/lang/Integer" (83 : Nat) "java/lang/Integer" "DigitOnes" "[B") ∈ WALL := wl5 143 (by decide +kernel) rfl
theorem wd_1152 : (Jvm.Cond.fieldLink "java/lang/Integer" (87 : Nat) "java/lang/Integer" "DigitTens" "[B") ∈ WALL := wl5 145 (by decide +kernel) rfl
theorem wd_1154 : (Jvm.Cond.methodLink "java/lang/AbstractStringBuilder" (251 : Nat) ({ cls := "java/lang/StringUTF16", name := "getChars", desc := "(III[B)I" } : Jvm.MethodName)) ∈ WALL := wl5 147 (by decide +kernel) rfl
theorem wd_1155 : (Jvm.Cond.static ({ cls := "java/lang/StringUTF16", name := "getChars", desc := "(III[B)I" } : Jvm.MethodName)) ∈ WALL := wl5 148 (by decide +kernel) rfl
theorem wd_1156 : (Jvm.Cond.code ({ cls := "java/lang/StringUTF16", name := "getChars", desc := "(III[B)I" } : Jvm.MethodName) prog_30_method_77_code (5 : Nat) (Option.some Jvm.ClassFile.FieldType.int)) ∈ WALL := wl5 149 (by decide +kernel) rfl
theorem wd_1157 : (Jvm.Cond.methodLink "java/lang/StringUTF16" (393 : Nat) ({ cls := "java/lang/StringUTF16", name := "getChars", desc := "(II[B)I" } : Jvm.MethodName)) ∈ WALL := wl5 150 (by decide +kernel) rfl
theorem wd_1158 : (Jvm.Cond.static ({ cls := "java/lang/StringUTF16", name := "getChars", desc := "(II[B)I" } : Jvm.MethodName)) ∈ WALL := wl5 151 (by decide +kernel) rfl
theorem wd_1159 : (Jvm.Cond.code ({ cls := "java/lang/StringUTF16", name := "getChars", desc := "(II[B)I" } : Jvm.MethodName) prog_30_method_89_code (7 : Nat) (Option.some Jvm.ClassFile.FieldType.int)) ∈ WALL := wl5 152 (by decide +kernel) rfl
theorem wd_1160 : (Jvm.Cond.fieldLink "java/lang/StringUTF16" (403 : Nat) "java/lang/Integer" "DigitOnes" "[B") ∈ WALL := wl5 153 (by decide +kernel) rfl
theorem wd_1161 : (Jvm.Cond.fieldLink "java/lang/StringUTF16" (407 : Nat) "java/lang/Integer" "DigitTens" "[B") ∈ WALL := wl5 154 (by decide +kernel) rfl
theorem wd_1162 : (Jvm.Cond.methodLink "java/lang/StringIndexOutOfBoundsException" (22 : Nat) ({ cls := "java/lang/StringBuilder", name := "toString", desc := "()Ljava/lang/String;" } : Jvm.MethodName)) ∈ WALL := wl5 155 (by decide +kernel) rfl
theorem wd_1163 : (Jvm.Cond.instanceMethod ({ cls := "java/lang/StringBuilder", name := "toString", desc := "()Ljava/lang/String;" } : Jvm.MethodName)) ∈ WALL := wl5 156 (by decide +kernel) rfl
theorem wd_1164 : (Jvm.Cond.selects "java/lang/StringBuilder" ({ cls := "java/lang/StringBuilder", name := "toString", desc := "()Ljava/lang/String;" } : Jvm.MethodName) ({ cls := "java/lang/StringBuilder", name := "toString", desc := "()Ljava/lang/String;" } : Jvm.MethodName)) ∈ WALL := wl5 157 (by decide +kernel) rfl
theorem wd_1165 : (Jvm.Cond.code ({ cls := "java/lang/StringBuilder", name := "toString", desc := "()Ljava/lang/String;" } : Jvm.MethodName) prog_27_method_42_code (1 : Nat) (Option.some (Jvm.ClassFile.FieldType.object "java/lang/String"))) ∈ WALL := wl5 158 (by decide +kernel) rfl
theorem wd_1166 : (Jvm.Cond.classLink "java/lang/StringBuilder" (18 : Nat) "java/lang/String") ∈ WALL := wl5 159 (by decide +kernel) rfl
theorem wd_1167 : (Jvm.Cond.methodLink "java/lang/StringBuilder" (137 : Nat) ({ cls := "java/lang/String", name := "<init>", desc := "(Ljava/lang/StringBuilder;)V" } : Jvm.MethodName)) ∈ WALL := wl5 160 (by decide +kernel) rfl
theorem wd_1168 : (Jvm.Cond.instanceMethod ({ cls := "java/lang/String", name := "<init>", desc := "(Ljava/lang/StringBuilder;)V" } : Jvm.MethodName)) ∈ WALL := wl5 161 (by decide +kernel) rfl
theorem wd_1169 : (Jvm.Cond.code ({ cls := "java/lang/String", name := "<init>", desc := "(Ljava/lang/StringBuilder;)V" } : Jvm.MethodName) prog_26_method_53_code (2 : Nat) (Option.none : Option Jvm.ClassFile.FieldType)) ∈ WALL := wl5 162 (by decide +kernel) rfl
theorem wd_1170 : (Jvm.Cond.methodLink "java/lang/String" (489 : Nat) ({ cls := "java/lang/String", name := "<init>", desc := "(Ljava/lang/AbstractStringBuilder;Ljava/lang/Void;)V" } : Jvm.MethodName)) ∈ WALL := wl5 163 (by decide +kernel) rfl
theorem wd_1171 : (Jvm.Cond.instanceMethod ({ cls := "java/lang/String", name := "<init>", desc := "(Ljava/lang/AbstractStringBuilder;Ljava/lang/Void;)V" } : Jvm.MethodName)) ∈ WALL := wl5 164 (by decide +kernel) rfl
theorem wd_1172 : (Jvm.Cond.code ({ cls := "java/lang/String", name := "<init>", desc := "(Ljava/lang/AbstractStringBuilder;Ljava/lang/Void;)V" } : Jvm.MethodName) prog_26_method_150_code (5 : Nat) (Option.none : Option Jvm.ClassFile.FieldType)) ∈ WALL := wl5 165 (by decide +kernel) rfl
theorem wd_1173 : (Jvm.Cond.methodLink "java/lang/String" (1 : Nat) ({ cls := "java/lang/Object", name := "<init>", desc := "()V" } : Jvm.MethodName)) ∈ WALL := wl5 166 (by decide +kernel) rfl
theorem wd_1174 : (Jvm.Cond.methodLink "java/lang/String" (552 : Nat) ({ cls := "java/lang/AbstractStringBuilder", name := "getValue", desc := "()[B" } : Jvm.MethodName)) ∈ WALL := wl5 167 (by decide +kernel) rfl
theorem wd_1175 : (Jvm.Cond.instanceMethod ({ cls := "java/lang/AbstractStringBuilder", name := "getValue", desc := "()[B" } : Jvm.MethodName)) ∈ WALL := wl5 168 (by decide +kernel) rfl
theorem wd_1176 : (Jvm.Cond.sameMethod "java/lang/AbstractStringBuilder" "java/lang/AbstractStringBuilder" "getValue" "()[B") ∈ WALL := wl5 169 (by decide +kernel) rfl
theorem wd_1177 : (Jvm.Cond.selects "java/lang/StringBuilder" ({ cls := "java/lang/AbstractStringBuilder", name := "getValue", desc := "()[B" } : Jvm.MethodName) ({ cls := "java/lang/AbstractStringBuilder", name := "getValue", desc := "()[B" } : Jvm.MethodName)) ∈ WALL := wl5 170 (by decide +kernel) rfl
theorem wd_1178 : (Jvm.Cond.code ({ cls := "java/lang/AbstractStringBuilder", name := "getValue", desc := "()[B" } : Jvm.MethodName) prog_10_method_64_code (1 : Nat) (Option.some (Jvm.ClassFile.FieldType.array Jvm.ClassFile.FieldType.byte))) ∈ WALL := wl5 171 (by decide +kernel) rfl
theorem wd_1179 : (Jvm.Cond.methodLink "java/lang/String" (549 : Nat) ({ cls := "java/lang/AbstractStringBuilder", name := "length", desc := "()I" } : Jvm.MethodName)) ∈ WALL := wl5 172 (by decide +kernel) rfl
theorem wd_1180 : (Jvm.Cond.instanceMethod ({ cls := "java/lang/AbstractStringBuilder", name := "length", desc := "()I" } : Jvm.MethodName)) ∈ WALL := wl5 173 (by decide +kernel) rfl
theorem wd_1181 : (Jvm.Cond.sameMethod "java/lang/AbstractStringBuilder" "java/lang/AbstractStringBuilder" "length" "()I") ∈ WALL := wl5 174 (by decide +kernel) rfl
theorem wd_1182 : (Jvm.Cond.selects "java/lang/StringBuilder" ({ cls := "java/lang/AbstractStringBuilder", name := "length", desc := "()I" } : Jvm.MethodName) ({ cls := "java/lang/StringBuilder", name := "length", desc := "()I" } : Jvm.MethodName)) ∈ WALL := wl5 175 (by decide +kernel) rfl
theorem wd_1183 : (Jvm.Cond.instanceMethod ({ cls := "java/lang/StringBuilder", name := "length", desc := "()I" } : Jvm.MethodName)) ∈ WALL := wl5 176 (by decide +kernel) rfl
theorem wd_1184 : (Jvm.Cond.code ({ cls := "java/lang/StringBuilder", name := "length", desc := "()I" } : Jvm.MethodName) prog_27_method_93_code (1 : Nat) (Option.some Jvm.ClassFile.FieldType.int)) ∈ WALL := wl5 177 (by decide +kernel) rfl
theorem wd_1185 : (Jvm.Cond.methodLink "java/lang/StringBuilder" (343 : Nat) ({ cls := "java/lang/AbstractStringBuilder", name := "length", desc := "()I" } : Jvm.MethodName)) ∈ WALL := wl5 178 (by decide +kernel) rfl
theorem wd_1186 : (Jvm.Cond.code ({ cls := "java/lang/AbstractStringBuilder", name := "length", desc := "()I" } : Jvm.MethodName) prog_10_method_6_code (1 : Nat) (Option.some Jvm.ClassFile.FieldType.int)) ∈ WALL := wl5 179 (by decide +kernel) rfl
theorem wd_1187 : (Jvm.Cond.methodLink "java/lang/String" (1047 : Nat) ({ cls := "java/lang/AbstractStringBuilder", name := "isLatin1", desc := "()Z" } : Jvm.MethodName)) ∈ WALL := wl5 180 (by decide +kernel) rfl
theorem wd_1188 : (Jvm.Cond.methodLink "java/lang/String" (54 : Nat) ({ cls := "java/util/Arrays", name := "copyOfRange", desc := "([BII)[B" } : Jvm.MethodName)) ∈ WALL := wl5 181 (by decide +kernel) rfl
theorem wd_1189 : (Jvm.Cond.static ({ cls := "java/util/Arrays", name := "copyOfRange", desc := "([BII)[B" } : Jvm.MethodName)) ∈ WALL := wl5 182 (by decide +kernel) rfl
theorem wd_1190 : (Jvm.Cond.code ({ cls := "java/util/Arrays", name := "copyOfRange", desc := "([BII)[B" } : Jvm.MethodName) prog_39_method_132_code (3 : Nat) (Option.some (Jvm.ClassFile.FieldType.array Jvm.ClassFile.FieldType.byte))) ∈ WALL := wl5 183 (by decide +kernel) rfl
theorem wd_1191 : (Jvm.Cond.methodLink "java/util/Arrays" (339 : Nat) ({ cls := "java/util/Arrays", name := "copyOfRangeByte", desc := "([BII)[B" } : Jvm.MethodName)) ∈ WALL := wl5 184 (by decide +kernel) rfl
theorem wd_1192 : (Jvm.Cond.static ({ cls := "java/util/Arrays", name := "copyOfRangeByte", desc := "([BII)[B" } : Jvm.MethodName)) ∈ WALL := wl5 185 (by decide +kernel) rfl
theorem wd_1193 : (Jvm.Cond.code ({ cls := "java/util/Arrays", name := "copyOfRangeByte", desc := "([BII)[B" } : Jvm.MethodName) prog_39_method_133_code (5 : Nat) (Option.some (Jvm.ClassFile.FieldType.array Jvm.ClassFile.FieldType.byte))) ∈ WALL := wl5 186 (by decide +kernel) rfl
theorem wd_1194 : (Jvm.Cond.methodLink "java/util/Arrays" (343 : Nat) ({ cls := "java/util/Arrays", name := "checkLength", desc := "(II)V" } : Jvm.MethodName)) ∈ WALL := wl5 187 (by decide +kernel) rfl
theorem wd_1195 : (Jvm.Cond.static ({ cls := "java/util/Arrays", name := "checkLength", desc := "(II)V" } : Jvm.MethodName)) ∈ WALL := wl5 188 (by decide +kernel) rfl
theorem wd_1196 : (Jvm.Cond.code ({ cls := "java/util/Arrays", name := "checkLength", desc := "(II)V" } : Jvm.MethodName) prog_39_method_131_code (2 : Nat) (Option.none : Option Jvm.ClassFile.FieldType)) ∈ WALL := wl5 189 (by decide +kernel) rfl
theorem wd_1197 : (Jvm.Cond.classLink "java/util/Arrays" (43 : Nat) "java/lang/IllegalArgumentException") ∈ WALL := wl5 190 (by decide +kernel) rfl
theorem wd_1198 : (Jvm.Cond.classLink "java/util/Arrays" (45 : Nat) "java/lang/StringBuilder") ∈ WALL := wl5 191 (by decide +kernel) rfl
theorem wd_1199 : (Jvm.Cond.methodLink "java/util/Arrays" (47 : Nat) ({ cls := "java/lang/StringBuilder", name := "<init>", desc := "()V" } : Jvm.MethodName)) ∈ WALL := wl5 192 (by decide +kernel) rfl
theorem wd_1200 : (Jvm.Cond.methodLink "java/util/Arrays" (54 : Nat) ({ cls := "java/lang/StringBuilder", name := "append", desc := "(I)Ljava/lang/StringBuilder;" } : Jvm.MethodName)) ∈ WALL := wl5 193 (by decide +kernel) rfl
theorem wd_1202 : (Jvm.Cond.methodLink "java/util/Arrays" (50 : Nat) ({ cls := "java/lang/StringBuilder", name := "append", desc := "(Ljava/lang/String;)Ljava/lang/StringBuilder;" } : Jvm.MethodName)) ∈ WALL := wl5 195 (by decide +kernel) rfl
theorem wd_1203 : (Jvm.Cond.methodLink "java/util/Arrays" (61 : Nat) ({ cls := "java/lang/StringBuilder", name := "toString", desc := "()Ljava/lang/String;" } : Jvm.MethodName)) ∈ WALL := wl5 196 (by decide +kernel) rfl
theorem wd_1204 : (Jvm.Cond.methodLink "java/util/Arrays" (65 : Nat) ({ cls := "java/lang/IllegalArgumentException", name := "<init>", desc := "(Ljava/lang/String;)V" } : Jvm.MethodName)) ∈ WALL := wl5 197 (by decide +kernel) rfl
theorem wd_1205 : (Jvm.Cond.methodLink "java/lang/String" (1051 : Nat) ({ cls := "java/lang/StringUTF16", name := "compress", desc := "([BII)[B" } : Jvm.MethodName)) ∈ WALL := wl5 198 (by decide +kernel) rfl
theorem wd_1206 : (Jvm.Cond.static ({ cls := "java/lang/StringUTF16", name := "compress", desc := "([BII)[B" } : Jvm.MethodName)) ∈ WALL := wl5 199 (by decide +kernel) rfl
theorem wd_1207 : (Jvm.Cond.code ({ cls := "java/lang/StringUTF16", name := "compress", desc := "([BII)[B" } : Jvm.MethodName) prog_30_method_17_code (6 : Nat) (Option.some (Jvm.ClassFile.FieldType.array Jvm.ClassFile.FieldType.byte))) ∈ WALL := wl5 200 (by decide +kernel) rfl
theorem wd_1208 : (Jvm.Cond.methodLink "java/lang/StringUTF16" (123 : Nat) ({ cls := "java/lang/StringUTF16", name := "compress", desc := "([BI[BII)I" } : Jvm.MethodName)) ∈ WALL := wl5 201 (by decide +kernel) rfl
theorem wd_1209 : (Jvm.Cond.static ({ cls := "java/lang/StringUTF16", name := "compress", desc := "([BI[BII)I" } : Jvm.MethodName)) ∈ WALL := wl5 202 (by decide +kernel) rfl
theorem wd_1210 : (Jvm.Cond.code ({ cls := "java/lang/StringUTF16", name := "compress", desc := "([BI[BII)I" } : Jvm.MethodName) prog_30_method_22_code (7 : Nat) (Option.some Jvm.ClassFile.FieldType.int)) ∈ WALL := wl5 203 (by decide +kernel) rfl
theorem wd_1211 : (Jvm.Cond.methodLink "java/lang/StringUTF16" (71 : Nat) ({ cls := "java/lang/StringUTF16", name := "getChar", desc := "([BI)C" } : Jvm.MethodName)) ∈ WALL := wl5 204 (by decide +kernel) rfl
theorem wd_1212 : (Jvm.Cond.static ({ cls := "java/lang/StringUTF16", name := "getChar", desc := "([BI)C" } : Jvm.MethodName)) ∈ WALL := wl5 205 (by decide +kernel) rfl
theorem wd_1213 : (Jvm.Cond.code ({ cls := "java/lang/StringUTF16", name := "getChar", desc := "([BI)C" } : Jvm.MethodName) prog_30_method_5_code (2 : Nat) (Option.some Jvm.ClassFile.FieldType.char)) ∈ WALL := wl5 206 (by decide +kernel) rfl
theorem wd_1214 : (Jvm.Cond.methodLink "java/lang/StringUTF16" (126 : Nat) ({ cls := "java/util/Arrays", name := "copyOfRange", desc := "([BII)[B" } : Jvm.MethodName)) ∈ WALL := wl5 207 (by decide +kernel) rfl
theorem wd_1215 : (Jvm.Cond.methodLink "java/lang/String" (47 : Nat) ({ cls := "java/lang/StringUTF16", name := "coderFromArrayLen", desc := "([BI)B" } : Jvm.MethodName)) ∈ WALL := wl5 208 (by decide +kernel) rfl
theorem wd_1216 : (Jvm.Cond.static ({ cls := "java/lang/StringUTF16", name := "coderFromArrayLen", desc := "([BI)B" } : Jvm.MethodName)) ∈ WALL := wl5 209 (by decide +kernel) rfl
theorem wd_1217 : (Jvm.Cond.code ({ cls := "java/lang/StringUTF16", name := "coderFromArrayLen", desc := "([BI)B" } : Jvm.MethodName) prog_30_method_15_code (2 : Nat) (Option.some Jvm.ClassFile.FieldType.byte)) ∈ WALL := wl5 210 (by decide +kernel) rfl
theorem wd_1218 : (Jvm.Cond.fieldLink "java/lang/String" (9 : Nat) "java/lang/String" "value" "[B") ∈ WALL := wl5 211 (by decide +kernel) rfl
theorem wd_1219 : (Jvm.Cond.fieldLink "java/lang/String" (15 : Nat) "java/lang/String" "coder" "B") ∈ WALL := wl5 212 (by decide +kernel) rfl
theorem wd_1220 : (Jvm.Cond.lays "java/lang/String" "java/lang/String" "hash" "I") ∈ WALL := wl5 213 (by decide +kernel) rfl
theorem wd_1222 : (Jvm.Cond.lays "java/lang/String" "java/lang/String" "hashIsZero" "Z") ∈ WALL := wl5 215 (by decide +kernel) rfl
theorem wd_1224 : (Jvm.Cond.superclass "java/lang/String" "java/lang/Object") ∈ WALL := wl5 217 (by decide +kernel) rfl
theorem wd_1225 : (Jvm.Cond.methodLink "java/lang/StringIndexOutOfBoundsException" (7 : Nat) ({ cls := "java/lang/IndexOutOfBoundsException", name := "<init>", desc := "(Ljava/lang/String;)V" } : Jvm.MethodName)) ∈ WALL := wl5 218 (by decide +kernel) rfl
theorem wd_1226 : (Jvm.Cond.lays "java/lang/StringIndexOutOfBoundsException" "java/lang/Throwable" "backtrace" "Ljava/lang/Object;") ∈ WALL := wl5 219 (by decide +kernel) rfl
theorem wd_1227 : (Jvm.Cond.lays "java/lang/StringIndexOutOfBoundsException" "java/lang/Throwable" "detailMessage" "Ljava/lang/String;") ∈ WALL := wl5 220 (by decide +kernel) rfl
theorem wd_1228 : (Jvm.Cond.lays "java/lang/StringIndexOutOfBoundsException" "java/lang/Throwable" "cause" "Ljava/lang/Throwable;") ∈ WALL := wl5 221 (by decide +kernel) rfl
theorem wd_1229 : (Jvm.Cond.lays "java/lang/StringIndexOutOfBoundsException" "java/lang/Throwable" "stackTrace" "[Ljava/lang/StackTraceElement;") ∈ WALL := wl5 222 (by decide +kernel) rfl
theorem wd_1230 : (Jvm.Cond.lays "java/lang/StringIndexOutOfBoundsException" "java/lang/Throwable" "depth" "I") ∈ WALL := wl5 223 (by decide +kernel) rfl
theorem wd_1231 : (Jvm.Cond.lays "java/lang/StringIndexOutOfBoundsException" "java/lang/Throwable" "suppressedExceptions" "Ljava/util/List;") ∈ WALL := wl5 224 (by decide +kernel) rfl
theorem wd_1232 : (Jvm.Cond.superclass "java/lang/StringIndexOutOfBoundsException" "java/lang/IndexOutOfBoundsException") ∈ WALL := wl5 225 (by decide +kernel) rfl
theorem wd_1233 : (Jvm.Cond.methodLink "java/lang/AbstractStringBuilder" (133 : Nat) ({ cls := "java/lang/StringLatin1", name := "fillNull", desc := "([BII)V" } : Jvm.MethodName)) ∈ WALL := wl5 226 (by decide +kernel) rfl
theorem wd_1234 : (Jvm.Cond.static ({ cls := "java/lang/StringLatin1", name := "fillNull", desc := "([BII)V" } : Jvm.MethodName)) ∈ WALL := wl5 227 (by decide +kernel) rfl
theorem wd_1235 : (Jvm.Cond.code ({ cls := "java/lang/StringLatin1", name := "fillNull", desc := "([BII)V" } : Jvm.MethodName) prog_29_method_48_code (3 : Nat) (Option.none : Option Jvm.ClassFile.FieldType)) ∈ WALL := wl5 228 (by decide +kernel) rfl
theorem wd_1236 : (Jvm.Cond.methodLink "java/lang/StringLatin1" (236 : Nat) ({ cls := "java/util/Arrays", name := "fill", desc := "([BIIB)V" } : Jvm.MethodName)) ∈ WALL := wl5 229 (by decide +kernel) rfl
theorem wd_1237 : (Jvm.Cond.static ({ cls := "java/util/Arrays", name := "fill", desc := "([BIIB)V" } : Jvm.MethodName)) ∈ WALL := wl5 230 (by decide +kernel) rfl
theorem wd_1238 : (Jvm.Cond.code ({ cls := "java/util/Arrays", name := "fill", desc := "([BIIB)V" } : Jvm.MethodName) prog_39_method_110_code (5 : Nat) (Option.none : Option Jvm.ClassFile.FieldType)) ∈ WALL := wl5 231 (by decide +kernel) rfl
theorem wd_1239 : (Jvm.Cond.methodLink "java/util/Arrays" (13 : Nat) ({ cls := "java/util/Arrays", name := "rangeCheck", desc := "(III)V" } : Jvm.MethodName)) ∈ WALL := wl5 232 (by decide +kernel) rfl
theorem wd_1240 : (Jvm.Cond.static ({ cls := "java/util/Arrays", name := "rangeCheck", desc := "(III)V" } : Jvm.MethodName)) ∈ WALL := wl5 233 (by decide +kernel) rfl
theorem wd_1241 : (Jvm.Cond.code ({ cls := "java/util/Arrays", name := "rangeCheck", desc := "(III)V" } : Jvm.MethodName) prog_39_method_30_code (3 : Nat) (Option.none : Option Jvm.ClassFile.FieldType)) ∈ WALL := wl5 234 (by decide +kernel) rfl
theorem wd_1245 : (Jvm.Cond.classLink "java/util/Arrays" (68 : Nat) "java/lang/ArrayIndexOutOfBoundsException") ∈ WALL := wl5 238 (by decide +kernel) rfl
theorem wd_1246 : (Jvm.Cond.methodLink "java/util/Arrays" (70 : Nat) ({ cls := "java/lang/ArrayIndexOutOfBoundsException", name := "<init>", desc := "(I)V" } : Jvm.MethodName)) ∈ WALL := wl5 239 (by decide +kernel) rfl
theorem wd_1247 : (Jvm.Cond.instanceMethod ({ cls := "java/lang/ArrayIndexOutOfBoundsException", name := "<init>", desc := "(I)V" } : Jvm.MethodName)) ∈ WALL := wl6 0 (by decide +kernel) rfl
theorem wd_1248 : (Jvm.Cond.code ({ cls := "java/lang/ArrayIndexOutOfBoundsException", name := "<init>", desc := "(I)V" } : Jvm.MethodName) prog_13_method_3_code (2 : Nat) (Option.none : Option Jvm.ClassFile.FieldType)) ∈ WALL := wl6 1 (by decide +kernel) rfl
theorem wd_1249 : (Jvm.Cond.classLink "java/lang/ArrayIndexOutOfBoundsException" (10 : Nat) "java/lang/StringBuilder") ∈ WALL := wl6 2 (by decide +kernel) rfl
theorem wd_1250 : (Jvm.Cond.methodLink "java/lang/ArrayIndexOutOfBoundsException" (12 : Nat) ({ cls := "java/lang/StringBuilder", name := "<init>", desc := "()V" } : Jvm.MethodName)) ∈ WALL := wl6 3 (by decide +kernel) rfl
theorem wd_1252 : (Jvm.Cond.methodLink "java/lang/ArrayIndexOutOfBoundsException" (15 : Nat) ({ cls := "java/lang/StringBuilder", name := "append", desc := "(Ljava/lang/String;)Ljava/lang/StringBuilder;" } : Jvm.MethodName)) ∈ WALL := wl6 5 (by decide +kernel) rfl
theorem wd_1253 : (Jvm.Cond.methodLink "java/lang/ArrayIndexOutOfBoundsException" (19 : Nat) ({ cls := "java/lang/StringBuilder", name := "append", desc := "(I)Ljava/lang/StringBuilder;" } : Jvm.MethodName)) ∈ WALL := wl6 6 (by decide +kernel) rfl
theorem wd_1254 : (Jvm.Cond.methodLink "java/lang/ArrayIndexOutOfBoundsException" (22 : Nat) ({ cls := "java/lang/StringBuilder", name := "toString", desc := "()Ljava/lang/String;" } : Jvm.MethodName)) ∈ WALL := wl6 7 (by decide +kernel) rfl
theorem wd_1255 : (Jvm.Cond.methodLink "java/lang/AbstractStringBuilder" (137 : Nat) ({ cls := "java/lang/StringUTF16", name := "fillNull", desc := "([BII)V" } : Jvm.MethodName)) ∈ WALL := wl6 8 (by decide +kernel) rfl
theorem wd_1256 : (Jvm.Cond.static ({ cls := "java/lang/StringUTF16", name := "fillNull", desc := "([BII)V" } : Jvm.MethodName)) ∈ WALL := wl6 9 (by decide +kernel) rfl
theorem wd_1257 : (Jvm.Cond.code ({ cls := "java/lang/StringUTF16", name := "fillNull", desc := "([BII)V" } : Jvm.MethodName) prog_30_method_70_code (3 : Nat) (Option.none : Option Jvm.ClassFile.FieldType)) ∈ WALL := wl6 10 (by decide +kernel) rfl
theorem wd_1258 : (Jvm.Cond.methodLink "java/lang/StringUTF16" (380 : Nat) ({ cls := "java/util/Arrays", name := "fill", desc := "([BIIB)V" } : Jvm.MethodName)) ∈ WALL := wl6 11 (by decide +kernel) rfl
theorem wd_1259 : (Jvm.Cond.methodLink "StormBasin" (272 : Nat) ({ cls := "java/lang/StringBuilder", name := "append", desc := "(I)Ljava/lang/StringBuilder;" } : Jvm.MethodName)) ∈ WALL := wl6 12 (by decide +kernel) rfl
theorem wd_1260 : (Jvm.Cond.methodLink "StormBasin" (275 : Nat) ({ cls := "java/lang/StringBuilder", name := "append", desc := "(C)Ljava/lang/StringBuilder;" } : Jvm.MethodName)) ∈ WALL := wl6 13 (by decide +kernel) rfl
theorem wd_1261 : (Jvm.Cond.instanceMethod ({ cls := "java/lang/StringBuilder", name := "append", desc := "(C)Ljava/lang/StringBuilder;" } : Jvm.MethodName)) ∈ WALL := wl6 14 (by decide +kernel) rfl
theorem wd_1262 : (Jvm.Cond.selects "java/lang/StringBuilder" ({ cls := "java/lang/StringBuilder", name := "append", desc := "(C)Ljava/lang/StringBuilder;" } : Jvm.MethodName) ({ cls := "java/lang/StringBuilder", name := "append", desc := "(C)Ljava/lang/StringBuilder;" } : Jvm.MethodName)) ∈ WALL := wl6 15 (by decide +kernel) rfl
theorem wd_1263 : (Jvm.Cond.code ({ cls := "java/lang/StringBuilder", name := "append", desc := "(C)Ljava/lang/StringBuilder;" } : Jvm.MethodName) prog_27_method_14_code (2 : Nat) (Option.some (Jvm.ClassFile.FieldType.object "java/lang/StringBuilder"))) ∈ WALL := wl6 16 (by decide +kernel) rfl
theorem wd_1264 : (Jvm.Cond.methodLink "java/lang/StringBuilder" (50 : Nat) ({ cls := "java/lang/AbstractStringBuilder", name := "append", desc := "(C)Ljava/lang/AbstractStringBuilder;" } : Jvm.MethodName)) ∈ WALL := wl6 17 (by decide +kernel) rfl
theorem wd_1265 : (Jvm.Cond.instanceMethod ({ cls := "java/lang/AbstractStringBuilder", name := "append", desc := "(C)Ljava/lang/AbstractStringBuilder;" } : Jvm.MethodName)) ∈ WALL := wl6 18 (by decide +kernel) rfl
theorem wd_1266 : (Jvm.Cond.code ({ cls := "java/lang/AbstractStringBuilder", name := "append", desc := "(C)Ljava/lang/AbstractStringBuilder;" } : Jvm.MethodName) prog_10_method_31_code (2 : Nat) (Option.some (Jvm.ClassFile.FieldType.object "java/lang/AbstractStringBuilder"))) ∈ WALL := wl6 19 (by decide +kernel) rfl
theorem wd_1267 : (Jvm.Cond.methodLink "java/lang/AbstractStringBuilder" (191 : Nat) ({ cls := "java/lang/StringLatin1", name := "canEncode", desc := "(C)Z" } : Jvm.MethodName)) ∈ WALL := wl6 20 (by decide +kernel) rfl
theorem wd_1268 : (Jvm.Cond.static ({ cls := "java/lang/StringLatin1", name := "canEncode", desc := "(C)Z" } : Jvm.MethodName)) ∈ WALL := wl6 21 (by decide +kernel) rfl
theorem wd_1269 : (Jvm.Cond.code ({ cls := "java/lang/StringLatin1", name := "canEncode", desc := "(C)Z" } : Jvm.MethodName) prog_29_method_3_code (1 : Nat) (Option.some Jvm.ClassFile.FieldType.boolean)) ∈ WALL := wl6 22 (by decide +kernel) rfl
theorem wd_1270 : (Jvm.Cond.methodLink "java/lang/AbstractStringBuilder" (197 : Nat) ({ cls := "java/lang/StringUTF16", name := "putCharSB", desc := "([BII)V" } : Jvm.MethodName)) ∈ WALL := wl6 23 (by decide +kernel) rfl
theorem wd_1271 : (Jvm.Cond.static ({ cls := "java/lang/StringUTF16", name := "putCharSB", desc := "([BII)V" } : Jvm.MethodName)) ∈ WALL := wl6 24 (by decide +kernel) rfl
theorem wd_1272 : (Jvm.Cond.code ({ cls := "java/lang/StringUTF16", name := "putCharSB", desc := "([BII)V" } : Jvm.MethodName) prog_30_method_71_code (3 : Nat) (Option.none : Option Jvm.ClassFile.FieldType)) ∈ WALL := wl6 25 (by decide +kernel) rfl
theorem wd_1273 : (Jvm.Cond.methodLink "java/lang/StringUTF16" (67 : Nat) ({ cls := "java/lang/StringUTF16", name := "checkIndex", desc := "(I[B)V" } : Jvm.MethodName)) ∈ WALL := wl6 26 (by decide +kernel) rfl
theorem wd_1274 : (Jvm.Cond.static ({ cls := "java/lang/StringUTF16", name := "checkIndex", desc := "(I[B)V" } : Jvm.MethodName)) ∈ WALL := wl6 27 (by decide +kernel) rfl
theorem wd_1275 : (Jvm.Cond.code ({ cls := "java/lang/StringUTF16", name := "checkIndex", desc := "(I[B)V" } : Jvm.MethodName) prog_30_method_91_code (2 : Nat) (Option.none : Option Jvm.ClassFile.FieldType)) ∈ WALL := wl6 28 (by decide +kernel) rfl
theorem wd_1276 : (Jvm.Cond.methodLink "java/lang/StringUTF16" (414 : Nat) ({ cls := "java/lang/String", name := "checkIndex", desc := "(II)V" } : Jvm.MethodName)) ∈ WALL := wl6 29 (by decide +kernel) rfl
theorem wd_1277 : (Jvm.Cond.static ({ cls := "java/lang/String", name := "checkIndex", desc := "(II)V" } : Jvm.MethodName)) ∈ WALL := wl6 30 (by decide +kernel) rfl
theorem wd_1278 : (Jvm.Cond.code ({ cls := "java/lang/String", name := "checkIndex", desc := "(II)V" } : Jvm.MethodName) prog_26_method_155_code (2 : Nat) (Option.none : Option Jvm.ClassFile.FieldType)) ∈ WALL := wl6 31 (by decide +kernel) rfl
theorem wd_1279 : (Jvm.Cond.methodLink "java/lang/String" (1059 : Nat) ({ cls := "jdk/internal/util/Preconditions", name := "checkIndex", desc := "(IILjava/util/function/BiFunction;)I" } : Jvm.MethodName)) ∈ WALL := wl6 32 (by decide +kernel) rfl
theorem wd_1280 : (Jvm.Cond.methodLink "StormBasin" (291 : Nat) ({ cls := "java/lang/StringBuilder", name := "length", desc := "()I" } : Jvm.MethodName)) ∈ WALL := wl6 33 (by decide +kernel) rfl
theorem wd_1281 : (Jvm.Cond.methodLink "StormBasinLaw" (277 : Nat) ({ cls := "StormBasinLaw", name := "lineAt", desc := "(LStormBasin;I[J)I" } : Jvm.MethodName)) ∈ WALL := wl6 34 (by decide +kernel) rfl
theorem wd_1282 : (Jvm.Cond.static ({ cls := "StormBasinLaw", name := "lineAt", desc := "(LStormBasin;I[J)I" } : Jvm.MethodName)) ∈ WALL := wl6 35 (by decide +kernel) rfl
theorem wd_1283 : (Jvm.Cond.codeWith ({ cls := "StormBasinLaw", name := "lineAt", desc := "(LStormBasin;I[J)I" } : Jvm.MethodName) method_33_code (4 : Nat) (Option.some Jvm.ClassFile.FieldType.int) [((0 : Nat), (9 : Nat), (12 : Nat), (13 : Nat))]) ∈ WALL := wl6 36 (by decide +kernel) rfl
theorem wd_1284 : (Jvm.Cond.methodLink "StormBasinLaw" (120 : Nat) ({ cls := "StormBasin", name := "lineAt", desc := "(I)C" } : Jvm.MethodName)) ∈ WALL := wl6 37 (by decide +kernel) rfl
theorem wd_1285 : (Jvm.Cond.instanceMethod ({ cls := "StormBasin", name := "lineAt", desc := "(I)C" } : Jvm.MethodName)) ∈ WALL := wl6 38 (by decide +kernel) rfl
theorem wd_1286 : (Jvm.Cond.selects "StormBasin" ({ cls := "StormBasin", name := "lineAt", desc := "(I)C" } : Jvm.MethodName) ({ cls := "StormBasin", name := "lineAt", desc := "(I)C" } : Jvm.MethodName)) ∈ WALL := wl6 39 (by decide +kernel) rfl
theorem wd_1287 : (Jvm.Cond.code ({ cls := "StormBasin", name := "lineAt", desc := "(I)C" } : Jvm.MethodName) prog_1_method_43_code (2 : Nat) (Option.some Jvm.ClassFile.FieldType.char)) ∈ WALL := wl6 40 (by decide +kernel) rfl
theorem wd_1289 : (Jvm.Cond.methodLink "StormBasin" (296 : Nat) ({ cls := "java/lang/StringBuilder", name := "charAt", desc := "(I)C" } : Jvm.MethodName)) ∈ WALL := wl6 42 (by decide +kernel) rfl
theorem wd_1290 : (Jvm.Cond.instanceMethod ({ cls := "java/lang/StringBuilder", name := "charAt", desc := "(I)C" } : Jvm.MethodName)) ∈ WALL := wl6 43 (by decide +kernel) rfl
theorem wd_1291 : (Jvm.Cond.selects "java/lang/StringBuilder" ({ cls := "java/lang/StringBuilder", name := "charAt", desc := "(I)C" } : Jvm.MethodName) ({ cls := "java/lang/StringBuilder", name := "charAt", desc := "(I)C" } : Jvm.MethodName)) ∈ WALL := wl6 44 (by decide +kernel) rfl
theorem wd_1292 : (Jvm.Cond.code ({ cls := "java/lang/StringBuilder", name := "charAt", desc := "(I)C" } : Jvm.MethodName) prog_27_method_88_code (2 : Nat) (Option.some Jvm.ClassFile.FieldType.char)) ∈ WALL := wl6 45 (by decide +kernel) rfl
theorem wd_1293 : (Jvm.Cond.methodLink "java/lang/StringBuilder" (329 : Nat) ({ cls := "java/lang/AbstractStringBuilder", name := "charAt", desc := "(I)C" } : Jvm.MethodName)) ∈ WALL := wl6 46 (by decide +kernel) rfl
theorem wd_1294 : (Jvm.Cond.instanceMethod ({ cls := "java/lang/AbstractStringBuilder", name := "charAt", desc := "(I)C" } : Jvm.MethodName)) ∈ WALL := wl6 47 (by decide +kernel) rfl
theorem wd_1295 : (Jvm.Cond.code ({ cls := "java/lang/AbstractStringBuilder", name := "charAt", desc := "(I)C" } : Jvm.MethodName) prog_10_method_14_code (5 : Nat) (Option.some Jvm.ClassFile.FieldType.char)) ∈ WALL := wl6 48 (by decide +kernel) rfl
theorem wd_1296 : (Jvm.Cond.methodLink "java/lang/AbstractStringBuilder" (138 : Nat) ({ cls := "java/lang/Math", name := "min", desc := "(II)I" } : Jvm.MethodName)) ∈ WALL := wl6 49 (by decide +kernel) rfl
theorem wd_1297 : (Jvm.Cond.methodLink "java/lang/AbstractStringBuilder" (144 : Nat) ({ cls := "java/lang/String", name := "checkIndex", desc := "(II)V" } : Jvm.MethodName)) ∈ WALL := wl6 50 (by decide +kernel) rfl
theorem wd_1298 : (Jvm.Cond.methodLink "java/lang/AbstractStringBuilder" (148 : Nat) ({ cls := "java/lang/StringUTF16", name := "getChar", desc := "([BI)C" } : Jvm.MethodName)) ∈ WALL := wl6 51 (by decide +kernel) rfl
theorem wd_1299 : (Jvm.Cond.classLink "StormBasinLaw" (125 : Nat) "StormBasinModel") ∈ WALL := wl6 52 (by decide +kernel) rfl
theorem wd_1300 : (Jvm.Cond.instantiable "StormBasinModel" (38 : Nat)) ∈ WALL := wl6 53 (by decide +kernel) rfl
theorem wd_1301 : (Jvm.Cond.methodLink "StormBasinLaw" (127 : Nat) ({ cls := "StormBasinModel", name := "<init>", desc := "()V" } : Jvm.MethodName)) ∈ WALL := wl6 54 (by decide +kernel) rfl
theorem wd_1302 : (Jvm.Cond.instanceMethod ({ cls := "StormBasinModel", name := "<init>", desc := "()V" } : Jvm.MethodName)) ∈ WALL := wl6 55 (by decide +kernel) rfl
theorem wd_1303 : (Jvm.Cond.code ({ cls := "StormBasinModel", name := "<init>", desc := "()V" } : Jvm.MethodName) prog_8_method_1_code (1 : Nat) (Option.none : Option Jvm.ClassFile.FieldType)) ∈ WALL := wl6 56 (by decide +kernel) rfl
theorem wd_1304 : (Jvm.Cond.methodLink "StormBasinModel" (1 : Nat) ({ cls := "java/lang/Object", name := "<init>", desc := "()V" } : Jvm.MethodName)) ∈ WALL := wl6 57 (by decide +kernel) rfl
theorem wd_1305 : (Jvm.Cond.fieldLink "StormBasinModel" (100 : Nat) "StormBasinModel" "basins" "I") ∈ WALL := wl6 58 (by decide +kernel) rfl
theorem wd_1306 : (Jvm.Cond.fieldLink "StormBasinModel" (7 : Nat) "StormBasinModel" "areas" "[I") ∈ WALL := wl6 59 (by decide +kernel) rfl
theorem wd_1307 : (Jvm.Cond.fieldLink "StormBasinModel" (13 : Nat) "StormBasinModel" "depths" "[I") ∈ WALL := wl6 60 (by decide +kernel) rfl
theorem wd_1308 : (Jvm.Cond.fieldLink "StormBasinModel" (16 : Nat) "StormBasinModel" "widths" "[I") ∈ WALL := wl6 61 (by decide +kernel) rfl
theorem wd_1309 : (Jvm.Cond.fieldLink "StormBasinModel" (19 : Nat) "StormBasinModel" "belows" "[I") ∈ WALL := wl6 62 (by decide +kernel) rfl
theorem wd_1310 : (Jvm.Cond.fieldLink "StormBasinModel" (22 : Nat) "StormBasinModel" "hands" "[I") ∈ WALL := wl6 63 (by decide +kernel) rfl
theorem wd_1311 : (Jvm.Cond.fieldLink "StormBasinModel" (25 : Nat) "StormBasinModel" "rains" "[I") ∈ WALL := wl6 64 (by decide +kernel) rfl
theorem wd_1312 : (Jvm.Cond.fieldLink "StormBasinModel" (28 : Nat) "StormBasinModel" "cells" "[I") ∈ WALL := wl6 65 (by decide +kernel) rfl
theorem wd_1313 : (Jvm.Cond.fieldLink "StormBasinModel" (31 : Nat) "StormBasinModel" "heights" "[I") ∈ WALL := wl6 66 (by decide +kernel) rfl
theorem wd_1314 : (Jvm.Cond.fieldLink "StormBasinModel" (34 : Nat) "StormBasinModel" "volumes" "[I") ∈ WALL := wl6 67 (by decide +kernel) rfl
theorem wd_1315 : (Jvm.Cond.fieldLink "StormBasinModel" (37 : Nat) "StormBasinModel" "streets" "[I") ∈ WALL := wl6 68 (by decide +kernel) rfl
theorem wd_1316 : (Jvm.Cond.fieldLink "StormBasinModel" (40 : Nat) "StormBasinModel" "tryVolumes" "[I") ∈ WALL := wl6 69 (by decide +kernel) rfl
theorem wd_1317 : (Jvm.Cond.fieldLink "StormBasinModel" (43 : Nat) "StormBasinModel" "tryStreets" "[I") ∈ WALL := wl6 70 (by decide +kernel) rfl
theorem wd_1318 : (Jvm.Cond.fieldLink "StormBasinModel" (46 : Nat) "StormBasinModel" "outs" "[I") ∈ WALL := wl6 71 (by decide +kernel) rfl
theorem wd_1319 : (Jvm.Cond.fieldLink "StormBasinModel" (111 : Nat) "StormBasinModel" "rules" "I") ∈ WALL := wl6 72 (by decide +kernel) rfl
theorem wd_1320 : (Jvm.Cond.fieldLink "StormBasinModel" (49 : Nat) "StormBasinModel" "gates" "[I") ∈ WALL := wl6 73 (by decide +kernel) rfl
theorem wd_1321 : (Jvm.Cond.fieldLink "StormBasinModel" (52 : Nat) "StormBasinModel" "observed" "[I") ∈ WALL := wl6 74 (by decide +kernel) rfl
theorem wd_1322 : (Jvm.Cond.fieldLink "StormBasinModel" (55 : Nat) "StormBasinModel" "areFrom" "[Z") ∈ WALL := wl6 75 (by decide +kernel) rfl
theorem wd_1323 : (Jvm.Cond.fieldLink "StormBasinModel" (59 : Nat) "StormBasinModel" "levels" "[I") ∈ WALL := wl6 76 (by decide +kernel) rfl
theorem wd_1324 : (Jvm.Cond.fieldLink "StormBasinModel" (62 : Nat) "StormBasinModel" "openings" "[I") ∈ WALL := wl6 77 (by decide +kernel) rfl
theorem wd_1325 : (Jvm.Cond.fieldLink "StormBasinModel" (120 : Nat) "StormBasinModel" "clock" "I") ∈ WALL := wl6 78 (by decide +kernel) rfl
theorem wd_1326 : (Jvm.Cond.fieldLink "StormBasinModel" (148 : Nat) "StormBasinModel" "fallen" "I") ∈ WALL := wl6 79 (by decide +kernel) rfl
theorem wd_1327 : (Jvm.Cond.fieldLink "StormBasinModel" (151 : Nat) "StormBasinModel" "river" "I") ∈ WALL := wl6 80 (by decide +kernel) rfl
theorem wd_1328 : (Jvm.Cond.fieldLink "StormBasinModel" (65 : Nat) "StormBasinModel" "rainThen" "[I") ∈ WALL := wl6 81 (by decide +kernel) rfl
theorem wd_1329 : (Jvm.Cond.fieldLink "StormBasinModel" (68 : Nat) "StormBasinModel" "streetThen" "[I") ∈ WALL := wl6 82 (by decide +kernel) rfl
theorem wd_1330 : (Jvm.Cond.fieldLink "StormBasinModel" (117 : Nat) "StormBasinModel" "houses" "I") ∈ WALL := wl6 83 (by decide +kernel) rfl
theorem wd_1331 : (Jvm.Cond.fieldLink "StormBasinModel" (71 : Nat) "StormBasinModel" "houseBasins" "[I") ∈ WALL := wl6 84 (by decide +kernel) rfl
theorem wd_1332 : (Jvm.Cond.fieldLink "StormBasinModel" (74 : Nat) "StormBasinModel" "houseCells" "[I") ∈ WALL := wl6 85 (by decide +kernel) rfl
theorem wd_1333 : (Jvm.Cond.fieldLink "StormBasinModel" (77 : Nat) "StormBasinModel" "rates" "[I") ∈ WALL := wl6 86 (by decide +kernel) rfl
theorem wd_1334 : (Jvm.Cond.fieldLink "StormBasinModel" (80 : Nat) "StormBasinModel" "covers" "[I") ∈ WALL := wl6 87 (by decide +kernel) rfl
theorem wd_1335 : (Jvm.Cond.fieldLink "StormBasinModel" (83 : Nat) "StormBasinModel" "paid" "[I") ∈ WALL := wl6 88 (by decide +kernel) rfl
theorem wd_1336 : (Jvm.Cond.fieldLink "StormBasinModel" (86 : Nat) "StormBasinModel" "areClaimed" "[Z") ∈ WALL := wl6 89 (by decide +kernel) rfl
theorem wd_1337 : (Jvm.Cond.fieldLink "StormBasinModel" (194 : Nat) "StormBasinModel" "claims" "I") ∈ WALL := wl6 90 (by decide +kernel) rfl
theorem wd_1338 : (Jvm.Cond.fieldLink "StormBasinModel" (89 : Nat) "StormBasinModel" "fixedBasin" "I") ∈ WALL := wl6 91 (by decide +kernel) rfl
theorem wd_1339 : (Jvm.Cond.fieldLink "StormBasinModel" (137 : Nat) "StormBasinModel" "fixedOpening" "I") ∈ WALL := wl6 92 (by decide +kernel) rfl
theorem wd_1340 : (Jvm.Cond.fieldLink "StormBasinModel" (93 : Nat) "StormBasinModel" "line" "[C") ∈ WALL := wl6 93 (by decide +kernel) rfl
theorem wd_1341 : (Jvm.Cond.fieldLink "StormBasinModel" (207 : Nat) "StormBasinModel" "length" "I") ∈ WALL := wl6 94 (by decide +kernel) rfl
theorem wd_1342 : (Jvm.Cond.fieldLink "StormBasinModel" (97 : Nat) "StormBasinModel" "code" "I") ∈ WALL := wl6 95 (by decide +kernel) rfl
theorem wd_1343 : (Jvm.Cond.lays "StormBasinModel" "StormBasinModel" "basins" "I") ∈ WALL := wl6 96 (by decide +kernel) rfl
theorem wd_1345 : (Jvm.Cond.laysFinal "StormBasinModel" "StormBasinModel" "areas" "[I") ∈ WALL := wl6 98 (by decide +kernel) rfl
theorem wd_1347 : (Jvm.Cond.laysFinal "StormBasinModel" "StormBasinModel" "depths" "[I") ∈ WALL := wl6 100 (by decide +kernel) rfl
theorem wd_1349 : (Jvm.Cond.laysFinal "StormBasinModel" "StormBasinModel" "widths" "[I") ∈ WALL := wl6 102 (by decide +kernel) rfl
theorem wd_1351 : (Jvm.Cond.laysFinal "StormBasinModel" "StormBasinModel" "belows" "[I") ∈ WALL := wl6 104 (by decide +kernel) rfl
theorem wd_1353 : (Jvm.Cond.laysFinal "StormBasinModel" "StormBasinModel" "hands" "[I") ∈ WALL := wl6 106 (by decide +kernel) rfl
theorem wd_1355 : (Jvm.Cond.laysFinal "StormBasinModel" "StormBasinModel" "rains" "[I") ∈ WALL := wl6 108 (by decide +kernel) rfl
theorem wd_1357 : (Jvm.Cond.laysFinal "StormBasinModel" "StormBasinModel" "cells" "[I") ∈ WALL := wl6 110 (by decide +kernel) rfl
theorem wd_1359 : (Jvm.Cond.laysFinal "StormBasinModel" "StormBasinModel" "heights" "[I") ∈ WALL := wl6 112 (by decide +kernel) rfl
theorem wd_1361 : (Jvm.Cond.laysFinal "StormBasinModel" "StormBasinModel" "volumes" "[I") ∈ WALL := wl6 114 (by decide +kernel) rfl
theorem wd_1363 : (Jvm.Cond.laysFinal "StormBasinModel" "StormBasinModel" "streets" "[I") ∈ WALL := wl6 116 (by decide +kernel) rfl
theorem wd_1365 : (Jvm.Cond.laysFinal "StormBasinModel" "StormBasinModel" "tryVolumes" "[I") ∈ WALL := wl6 118 (by decide +kernel) rfl
theorem wd_1367 : (Jvm.Cond.laysFinal "StormBasinModel" "StormBasinModel" "tryStreets" "[I") ∈ WALL := wl6 120 (by decide +kernel) rfl
theorem wd_1369 : (Jvm.Cond.laysFinal "StormBasinModel" "StormBasinModel" "outs" "[I") ∈ WALL := wl6 122 (by decide +kernel) rfl
theorem wd_1371 : (Jvm.Cond.lays "StormBasinModel" "StormBasinModel" "rules" "I") ∈ WALL := wl6 124 (by decide +kernel) rfl
theorem wd_1373 : (Jvm.Cond.laysFinal "StormBasinModel" "StormBasinModel" "gates" "[I") ∈ WALL := wl6 126 (by decide +kernel) rfl
theorem wd_1375 : (Jvm.Cond.laysFinal "StormBasinModel" "StormBasinModel" "observed" "[I") ∈ WALL := wl6 128 (by decide +kernel) rfl
theorem wd_1377 : (Jvm.Cond.laysFinal "StormBasinModel" "StormBasinModel" "areFrom" "[Z") ∈ WALL := wl6 130 (by decide +kernel) rfl
theorem wd_1379 : (Jvm.Cond.laysFinal "StormBasinModel" "StormBasinModel" "levels" "[I") ∈ WALL := wl6 132 (by decide +kernel) rfl
theorem wd_1381 : (Jvm.Cond.laysFinal "StormBasinModel" "StormBasinModel" "openings" "[I") ∈ WALL := wl6 134 (by decide +kernel) rfl
theorem wd_1383 : (Jvm.Cond.lays "StormBasinModel" "StormBasinModel" "clock" "I") ∈ WALL := wl6 136 (by decide +kernel) rfl
theorem wd_1385 : (Jvm.Cond.lays "StormBasinModel" "StormBasinModel" "fallen" "I") ∈ WALL := wl6 138 (by decide +kernel) rfl
theorem wd_1387 : (Jvm.Cond.lays "StormBasinModel" "StormBasinModel" "river" "I") ∈ WALL := wl6 140 (by decide +kernel) rfl
theorem wd_1389 : (Jvm.Cond.laysFinal "StormBasinModel" "StormBasinModel" "rainThen" "[I") ∈ WALL := wl6 142 (by decide +kernel) rfl
theorem wd_1391 : (Jvm.Cond.laysFinal "StormBasinModel" "StormBasinModel" "streetThen" "[I") ∈ WALL := wl6 144 (by decide +kernel) rfl
theorem wd_1393 : (Jvm.Cond.lays "StormBasinModel" "StormBasinModel" "houses" "I") ∈ WALL := wl6 146 (by decide +kernel) rfl
theorem wd_1395 : (Jvm.Cond.laysFinal "StormBasinModel" "StormBasinModel" "houseBasins" "[I") ∈ WALL := wl6 148 (by decide +kernel) rfl
theorem wd_1397 : (Jvm.Cond.laysFinal "StormBasinModel" "StormBasinModel" "houseCells" "[I") ∈ WALL := wl6 150 (by decide +kernel) rfl
theorem wd_1399 : (Jvm.Cond.laysFinal "StormBasinModel" "StormBasinModel" "rates" "[I") ∈ WALL := wl6 152 (by decide +kernel) rfl
theorem wd_1401 : (Jvm.Cond.laysFinal "StormBasinModel" "StormBasinModel" "covers" "[I") ∈ WALL := wl6 154 (by decide +kernel) rfl
theorem wd_1403 : (Jvm.Cond.laysFinal "StormBasinModel" "StormBasinModel" "paid" "[I") ∈ WALL := wl6 156 (by decide +kernel) rfl
theorem wd_1405 : (Jvm.Cond.laysFinal "StormBasinModel" "StormBasinModel" "areClaimed" "[Z") ∈ WALL := wl6 158 (by decide +kernel) rfl
theorem wd_1407 : (Jvm.Cond.lays "StormBasinModel" "StormBasinModel" "claims" "I") ∈ WALL := wl6 160 (by decide +kernel) rfl
theorem wd_1409 : (Jvm.Cond.lays "StormBasinModel" "StormBasinModel" "fixedBasin" "I") ∈ WALL := wl6 162 (by decide +kernel) rfl
theorem wd_1411 : (Jvm.Cond.lays "StormBasinModel" "StormBasinModel" "fixedOpening" "I") ∈ WALL := wl6 164 (by decide +kernel) rfl
theorem wd_1413 : (Jvm.Cond.laysFinal "StormBasinModel" "StormBasinModel" "line" "[C") ∈ WALL := wl6 166 (by decide +kernel) rfl
theorem wd_1415 : (Jvm.Cond.lays "StormBasinModel" "StormBasinModel" "length" "I") ∈ WALL := wl6 168 (by decide +kernel) rfl
theorem wd_1417 : (Jvm.Cond.lays "StormBasinModel" "StormBasinModel" "code" "I") ∈ WALL := wl6 170 (by decide +kernel) rfl
theorem wd_1419 : (Jvm.Cond.superclass "StormBasinModel" "java/lang/Object") ∈ WALL := wl6 172 (by decide +kernel) rfl
theorem wd_1420 : (Jvm.Cond.arrayClass Jvm.ClassFile.FieldType.char) ∈ WALL := wl6 173 (by decide +kernel) rfl
theorem wd_1421 : (Jvm.Cond.methodLink "StormBasinLaw" (134 : Nat) ({ cls := "StormBasinModel", name := "thrown", desc := "()I" } : Jvm.MethodName)) ∈ WALL := wl6 174 (by decide +kernel) rfl
theorem wd_1422 : (Jvm.Cond.instanceMethod ({ cls := "StormBasinModel", name := "thrown", desc := "()I" } : Jvm.MethodName)) ∈ WALL := wl6 175 (by decide +kernel) rfl
theorem wd_1423 : (Jvm.Cond.selects "StormBasinModel" ({ cls := "StormBasinModel", name := "thrown", desc := "()I" } : Jvm.MethodName) ({ cls := "StormBasinModel", name := "thrown", desc := "()I" } : Jvm.MethodName)) ∈ WALL := wl6 176 (by decide +kernel) rfl
theorem wd_1424 : (Jvm.Cond.code ({ cls := "StormBasinModel", name := "thrown", desc := "()I" } : Jvm.MethodName) prog_8_method_2_code (1 : Nat) (Option.some Jvm.ClassFile.FieldType.int)) ∈ WALL := wl6 177 (by decide +kernel) rfl
theorem wd_1425 : (Jvm.Cond.methodLink "StormBasinLaw" (133 : Nat) ({ cls := "StormBasinModel", name := "addBasin", desc := "(IIIII)I" } : Jvm.MethodName)) ∈ WALL := wl6 178 (by decide +kernel) rfl
theorem wd_1426 : (Jvm.Cond.instanceMethod ({ cls := "StormBasinModel", name := "addBasin", desc := "(IIIII)I" } : Jvm.MethodName)) ∈ WALL := wl6 179 (by decide +kernel) rfl
theorem wd_1427 : (Jvm.Cond.selects "StormBasinModel" ({ cls := "StormBasinModel", name := "addBasin", desc := "(IIIII)I" } : Jvm.MethodName) ({ cls := "StormBasinModel", name := "addBasin", desc := "(IIIII)I" } : Jvm.MethodName)) ∈ WALL := wl6 180 (by decide +kernel) rfl
theorem wd_1428 : (Jvm.Cond.code ({ cls := "StormBasinModel", name := "addBasin", desc := "(IIIII)I" } : Jvm.MethodName) prog_8_method_11_code (8 : Nat) (Option.some Jvm.ClassFile.FieldType.int)) ∈ WALL := wl6 181 (by decide +kernel) rfl
theorem wd_1429 : (Jvm.Cond.methodLink "StormBasinModel" (107 : Nat) ({ cls := "StormBasinModel", name := "isNone", desc := "(I)Z" } : Jvm.MethodName)) ∈ WALL := wl6 182 (by decide +kernel) rfl
theorem wd_1431 : (Jvm.Cond.instanceMethod ({ cls := "StormBasinModel", name := "isNone", desc := "(I)Z" } : Jvm.MethodName)) ∈ WALL := wl6 184 (by decide +kernel) rfl
theorem wd_1432 : (Jvm.Cond.code ({ cls := "StormBasinModel", name := "isNone", desc := "(I)Z" } : Jvm.MethodName) prog_8_method_7_code (2 : Nat) (Option.some Jvm.ClassFile.FieldType.boolean)) ∈ WALL := wl6 185 (by decide +kernel) rfl
theorem wd_1433 : (Jvm.Cond.methodLink "StormBasinModel" (103 : Nat) ({ cls := "StormBasinModel", name := "in", desc := "(III)Z" } : Jvm.MethodName)) ∈ WALL := wl6 186 (by decide +kernel) rfl
theorem wd_1434 : (Jvm.Cond.static ({ cls := "StormBasinModel", name := "in", desc := "(III)Z" } : Jvm.MethodName)) ∈ WALL := wl6 187 (by decide +kernel) rfl
theorem wd_1435 : (Jvm.Cond.code ({ cls := "StormBasinModel", name := "in", desc := "(III)Z" } : Jvm.MethodName) prog_8_method_5_code (3 : Nat) (Option.some Jvm.ClassFile.FieldType.boolean)) ∈ WALL := wl6 188 (by decide +kernel) rfl
theorem wd_1436 : (Jvm.Cond.methodLink "StormBasinModel" (114 : Nat) ({ cls := "StormBasinModel", name := "fails", desc := "(I)Z" } : Jvm.MethodName)) ∈ WALL := wl6 189 (by decide +kernel) rfl
theorem wd_1438 : (Jvm.Cond.instanceMethod ({ cls := "StormBasinModel", name := "fails", desc := "(I)Z" } : Jvm.MethodName)) ∈ WALL := wl6 191 (by decide +kernel) rfl
theorem wd_1439 : (Jvm.Cond.code ({ cls := "StormBasinModel", name := "fails", desc := "(I)Z" } : Jvm.MethodName) prog_8_method_3_code (2 : Nat) (Option.some Jvm.ClassFile.FieldType.boolean)) ∈ WALL := wl6 192 (by decide +kernel) rfl
theorem wd_1440 : (Jvm.Cond.methodLink "StormBasinLaw" (141 : Nat) ({ cls := "StormBasinModel", name := "addCell", desc := "(II)I" } : Jvm.MethodName)) ∈ WALL := wl6 193 (by decide +kernel) rfl
theorem wd_1441 : (Jvm.Cond.instanceMethod ({ cls := "StormBasinModel", name := "addCell", desc := "(II)I" } : Jvm.MethodName)) ∈ WALL := wl6 194 (by decide +kernel) rfl
theorem wd_1442 : (Jvm.Cond.selects "StormBasinModel" ({ cls := "StormBasinModel", name := "addCell", desc := "(II)I" } : Jvm.MethodName) ({ cls := "StormBasinModel", name := "addCell", desc := "(II)I" } : Jvm.MethodName)) ∈ WALL := wl6 195 (by decide +kernel) rfl
theorem wd_1443 : (Jvm.Cond.code ({ cls := "StormBasinModel", name := "addCell", desc := "(II)I" } : Jvm.MethodName) prog_8_method_12_code (3 : Nat) (Option.some Jvm.ClassFile.FieldType.int)) ∈ WALL := wl6 196 (by decide +kernel) rfl
theorem wd_1444 : (Jvm.Cond.methodLink "StormBasinLaw" (145 : Nat) ({ cls := "StormBasinModel", name := "basinCount", desc := "()I" } : Jvm.MethodName)) ∈ WALL := wl6 197 (by decide +kernel) rfl
theorem wd_1445 : (Jvm.Cond.instanceMethod ({ cls := "StormBasinModel", name := "basinCount", desc := "()I" } : Jvm.MethodName)) ∈ WALL := wl6 198 (by decide +kernel) rfl
theorem wd_1446 : (Jvm.Cond.selects "StormBasinModel" ({ cls := "StormBasinModel", name := "basinCount", desc := "()I" } : Jvm.MethodName) ({ cls := "StormBasinModel", name := "basinCount", desc := "()I" } : Jvm.MethodName)) ∈ WALL := wl6 199 (by decide +kernel) rfl
theorem wd_1447 : (Jvm.Cond.code ({ cls := "StormBasinModel", name := "basinCount", desc := "()I" } : Jvm.MethodName) prog_8_method_13_code (1 : Nat) (Option.some Jvm.ClassFile.FieldType.int)) ∈ WALL := wl6 200 (by decide +kernel) rfl
theorem wd_1448 : (Jvm.Cond.methodLink "StormBasinModel" (123 : Nat) ({ cls := "StormBasinModel", name := "tells", desc := "(I)I" } : Jvm.MethodName)) ∈ WALL := wl6 201 (by decide +kernel) rfl
theorem wd_1450 : (Jvm.Cond.instanceMethod ({ cls := "StormBasinModel", name := "tells", desc := "(I)I" } : Jvm.MethodName)) ∈ WALL := wl6 203 (by decide +kernel) rfl
theorem wd_1451 : (Jvm.Cond.code ({ cls := "StormBasinModel", name := "tells", desc := "(I)I" } : Jvm.MethodName) prog_8_method_4_code (2 : Nat) (Option.some Jvm.ClassFile.FieldType.int)) ∈ WALL := wl6 204 (by decide +kernel) rfl
theorem wd_1452 : (Jvm.Cond.methodLink "StormBasinLaw" (149 : Nat) ({ cls := "StormBasinModel", name := "cellCount", desc := "(I)I" } : Jvm.MethodName)) ∈ WALL := wl6 205 (by decide +kernel) rfl
theorem wd_1453 : (Jvm.Cond.instanceMethod ({ cls := "StormBasinModel", name := "cellCount", desc := "(I)I" } : Jvm.MethodName)) ∈ WALL := wl6 206 (by decide +kernel) rfl
theorem wd_1454 : (Jvm.Cond.selects "StormBasinModel" ({ cls := "StormBasinModel", name := "cellCount", desc := "(I)I" } : Jvm.MethodName) ({ cls := "StormBasinModel", name := "cellCount", desc := "(I)I" } : Jvm.MethodName)) ∈ WALL := wl6 207 (by decide +kernel) rfl
theorem wd_1455 : (Jvm.Cond.code ({ cls := "StormBasinModel", name := "cellCount", desc := "(I)I" } : Jvm.MethodName) prog_8_method_14_code (2 : Nat) (Option.some Jvm.ClassFile.FieldType.int)) ∈ WALL := wl6 208 (by decide +kernel) rfl
theorem wd_1456 : (Jvm.Cond.methodLink "StormBasinLaw" (152 : Nat) ({ cls := "StormBasinModel", name := "capacityOf", desc := "(I)I" } : Jvm.MethodName)) ∈ WALL := wl6 209 (by decide +kernel) rfl
theorem wd_1457 : (Jvm.Cond.instanceMethod ({ cls := "StormBasinModel", name := "capacityOf", desc := "(I)I" } : Jvm.MethodName)) ∈ WALL := wl6 210 (by decide +kernel) rfl
theorem wd_1458 : (Jvm.Cond.selects "StormBasinModel" ({ cls := "StormBasinModel", name := "capacityOf", desc := "(I)I" } : Jvm.MethodName) ({ cls := "StormBasinModel", name := "capacityOf", desc := "(I)I" } : Jvm.MethodName)) ∈ WALL := wl6 211 (by decide +kernel) rfl
theorem wd_1459 : (Jvm.Cond.code ({ cls := "StormBasinModel", name := "capacityOf", desc := "(I)I" } : Jvm.MethodName) prog_8_method_16_code (2 : Nat) (Option.some Jvm.ClassFile.FieldType.int)) ∈ WALL := wl6 212 (by decide +kernel) rfl
theorem wd_1460 : (Jvm.Cond.methodLink "StormBasinModel" (127 : Nat) ({ cls := "StormBasinModel", name := "holds", desc := "(I)I" } : Jvm.MethodName)) ∈ WALL := wl6 213 (by decide +kernel) rfl
theorem wd_1462 : (Jvm.Cond.instanceMethod ({ cls := "StormBasinModel", name := "holds", desc := "(I)I" } : Jvm.MethodName)) ∈ WALL := wl6 215 (by decide +kernel) rfl
theorem wd_1463 : (Jvm.Cond.code ({ cls := "StormBasinModel", name := "holds", desc := "(I)I" } : Jvm.MethodName) prog_8_method_15_code (2 : Nat) (Option.some Jvm.ClassFile.FieldType.int)) ∈ WALL := wl6 216 (by decide +kernel) rfl
theorem wd_1464 : (Jvm.Cond.methodLink "StormBasinLaw" (155 : Nat) ({ cls := "StormBasinModel", name := "setHand", desc := "(II)I" } : Jvm.MethodName)) ∈ WALL := wl6 217 (by decide +kernel) rfl
theorem wd_1465 : (Jvm.Cond.instanceMethod ({ cls := "StormBasinModel", name := "setHand", desc := "(II)I" } : Jvm.MethodName)) ∈ WALL := wl6 218 (by decide +kernel) rfl
theorem wd_1466 : (Jvm.Cond.selects "StormBasinModel" ({ cls := "StormBasinModel", name := "setHand", desc := "(II)I" } : Jvm.MethodName) ({ cls := "StormBasinModel", name := "setHand", desc := "(II)I" } : Jvm.MethodName)) ∈ WALL := wl6 219 (by decide +kernel) rfl
theorem wd_1467 : (Jvm.Cond.code ({ cls := "StormBasinModel", name := "setHand", desc := "(II)I" } : Jvm.MethodName) prog_8_method_17_code (4 : Nat) (Option.some Jvm.ClassFile.FieldType.int)) ∈ WALL := wl6 220 (by decide +kernel) rfl
theorem wd_1468 : (Jvm.Cond.methodLink "StormBasinLaw" (159 : Nat) ({ cls := "StormBasinModel", name := "addRule", desc := "(IIZII)I" } : Jvm.MethodName)) ∈ WALL := wl6 221 (by decide +kernel) rfl
theorem wd_1469 : (Jvm.Cond.instanceMethod ({ cls := "StormBasinModel", name := "addRule", desc := "(IIZII)I" } : Jvm.MethodName)) ∈ WALL := wl6 222 (by decide +kernel) rfl
theorem wd_1470 : (Jvm.Cond.selects "StormBasinModel" ({ cls := "StormBasinModel", name := "addRule", desc := "(IIZII)I" } : Jvm.MethodName) ({ cls := "StormBasinModel", name := "addRule", desc := "(IIZII)I" } : Jvm.MethodName)) ∈ WALL := wl6 223 (by decide +kernel) rfl
theorem wd_1471 : (Jvm.Cond.code ({ cls := "StormBasinModel", name := "addRule", desc := "(IIZII)I" } : Jvm.MethodName) prog_8_method_18_code (6 : Nat) (Option.some Jvm.ClassFile.FieldType.int)) ∈ WALL := wl6 224 (by decide +kernel) rfl
theorem wd_1472 : (Jvm.Cond.methodLink "StormBasinLaw" (162 : Nat) ({ cls := "StormBasinModel", name := "removeRule", desc := "(I)I" } : Jvm.MethodName)) ∈ WALL := wl6 225 (by decide +kernel) rfl
theorem wd_1473 : (Jvm.Cond.instanceMethod ({ cls := "StormBasinModel", name := "removeRule", desc := "(I)I" } : Jvm.MethodName)) ∈ WALL := wl6 226 (by decide +kernel) rfl
theorem wd_1474 : (Jvm.Cond.selects "StormBasinModel" ({ cls := "StormBasinModel", name := "removeRule", desc := "(I)I" } : Jvm.MethodName) ({ cls := "StormBasinModel", name := "removeRule", desc := "(I)I" } : Jvm.MethodName)) ∈ WALL := wl6 227 (by decide +kernel) rfl
theorem wd_1475 : (Jvm.Cond.code ({ cls := "StormBasinModel", name := "removeRule", desc := "(I)I" } : Jvm.MethodName) prog_8_method_19_code (3 : Nat) (Option.some Jvm.ClassFile.FieldType.int)) ∈ WALL := wl6 228 (by decide +kernel) rfl
theorem wd_1476 : (Jvm.Cond.methodLink "StormBasinModel" (130 : Nat) ({ cls := "StormBasinModel", name := "isNoRule", desc := "(I)Z" } : Jvm.MethodName)) ∈ WALL := wl6 229 (by decide +kernel) rfl
theorem wd_1478 : (Jvm.Cond.instanceMethod ({ cls := "StormBasinModel", name := "isNoRule", desc := "(I)Z" } : Jvm.MethodName)) ∈ WALL := wl6 231 (by decide +kernel) rfl
theorem wd_1479 : (Jvm.Cond.code ({ cls := "StormBasinModel", name := "isNoRule", desc := "(I)Z" } : Jvm.MethodName) prog_8_method_9_code (2 : Nat) (Option.some Jvm.ClassFile.FieldType.boolean)) ∈ WALL := wl6 232 (by decide +kernel) rfl
theorem wd_1480 : (Jvm.Cond.methodLink "StormBasinLaw" (166 : Nat) ({ cls := "StormBasinModel", name := "ruleCount", desc := "()I" } : Jvm.MethodName)) ∈ WALL := wl6 233 (by decide +kernel) rfl
theorem wd_1481 : (Jvm.Cond.instanceMethod ({ cls := "StormBasinModel", name := "ruleCount", desc := "()I" } : Jvm.MethodName)) ∈ WALL := wl6 234 (by decide +kernel) rfl
theorem wd_1482 : (Jvm.Cond.selects "StormBasinModel" ({ cls := "StormBasinModel", name := "ruleCount", desc := "()I" } : Jvm.MethodName) ({ cls := "StormBasinModel", name := "ruleCount", desc := "()I" } : Jvm.MethodName)) ∈ WALL := wl6 235 (by decide +kernel) rfl
theorem wd_1483 : (Jvm.Cond.code ({ cls := "StormBasinModel", name := "ruleCount", desc := "()I" } : Jvm.MethodName) prog_8_method_20_code (1 : Nat) (Option.some Jvm.ClassFile.FieldType.int)) ∈ WALL := wl6 236 (by decide +kernel) rfl
theorem wd_1484 : (Jvm.Cond.methodLink "StormBasinLaw" (169 : Nat) ({ cls := "StormBasinModel", name := "doesHold", desc := "(I)Z" } : Jvm.MethodName)) ∈ WALL := wl6 237 (by decide +kernel) rfl
theorem wd_1485 : (Jvm.Cond.instanceMethod ({ cls := "StormBasinModel", name := "doesHold", desc := "(I)Z" } : Jvm.MethodName)) ∈ WALL := wl6 238 (by decide +kernel) rfl
theorem wd_1486 : (Jvm.Cond.selects "StormBasinModel" ({ cls := "StormBasinModel", name := "doesHold", desc := "(I)Z" } : Jvm.MethodName) ({ cls := "StormBasinModel", name := "doesHold", desc := "(I)Z" } : Jvm.MethodName)) ∈ WALL := wl6 239 (by decide +kernel) rfl
theorem wd_1487 : (Jvm.Cond.code ({ cls := "StormBasinModel", name := "doesHold", desc := "(I)Z" } : Jvm.MethodName) prog_8_method_22_code (2 : Nat) (Option.some Jvm.ClassFile.FieldType.boolean)) ∈ WALL := wl7 0 (by decide +kernel) rfl
theorem wd_1488 : (Jvm.Cond.methodLink "StormBasinModel" (133 : Nat) ({ cls := "StormBasinModel", name := "isTrue", desc := "(I[I)Z" } : Jvm.MethodName)) ∈ WALL := wl7 1 (by decide +kernel) rfl
theorem wd_1490 : (Jvm.Cond.instanceMethod ({ cls := "StormBasinModel", name := "isTrue", desc := "(I[I)Z" } : Jvm.MethodName)) ∈ WALL := wl7 3 (by decide +kernel) rfl
theorem wd_1491 : (Jvm.Cond.code ({ cls := "StormBasinModel", name := "isTrue", desc := "(I[I)Z" } : Jvm.MethodName) prog_8_method_21_code (3 : Nat) (Option.some Jvm.ClassFile.FieldType.boolean)) ∈ WALL := wl7 4 (by decide +kernel) rfl
theorem wd_1492 : (Jvm.Cond.methodLink "StormBasinLaw" (172 : Nat) ({ cls := "StormBasinModel", name := "openingNow", desc := "(I)I" } : Jvm.MethodName)) ∈ WALL := wl7 5 (by decide +kernel) rfl
theorem wd_1493 : (Jvm.Cond.instanceMethod ({ cls := "StormBasinModel", name := "openingNow", desc := "(I)I" } : Jvm.MethodName)) ∈ WALL := wl7 6 (by decide +kernel) rfl
theorem wd_1494 : (Jvm.Cond.selects "StormBasinModel" ({ cls := "StormBasinModel", name := "openingNow", desc := "(I)I" } : Jvm.MethodName) ({ cls := "StormBasinModel", name := "openingNow", desc := "(I)I" } : Jvm.MethodName)) ∈ WALL := wl7 7 (by decide +kernel) rfl
theorem wd_1495 : (Jvm.Cond.code ({ cls := "StormBasinModel", name := "openingNow", desc := "(I)I" } : Jvm.MethodName) prog_8_method_24_code (2 : Nat) (Option.some Jvm.ClassFile.FieldType.int)) ∈ WALL := wl7 8 (by decide +kernel) rfl
theorem wd_1496 : (Jvm.Cond.methodLink "StormBasinModel" (140 : Nat) ({ cls := "StormBasinModel", name := "opening", desc := "(I[I)I" } : Jvm.MethodName)) ∈ WALL := wl7 9 (by decide +kernel) rfl
theorem wd_1498 : (Jvm.Cond.instanceMethod ({ cls := "StormBasinModel", name := "opening", desc := "(I[I)I" } : Jvm.MethodName)) ∈ WALL := wl7 11 (by decide +kernel) rfl
theorem wd_1499 : (Jvm.Cond.code ({ cls := "StormBasinModel", name := "opening", desc := "(I[I)I" } : Jvm.MethodName) prog_8_method_23_code (5 : Nat) (Option.some Jvm.ClassFile.FieldType.int)) ∈ WALL := wl7 12 (by decide +kernel) rfl
theorem wd_1500 : (Jvm.Cond.methodLink "StormBasinLaw" (175 : Nat) ({ cls := "StormBasinModel", name := "setRain", desc := "(II)I" } : Jvm.MethodName)) ∈ WALL := wl7 13 (by decide +kernel) rfl
theorem wd_1501 : (Jvm.Cond.instanceMethod ({ cls := "StormBasinModel", name := "setRain", desc := "(II)I" } : Jvm.MethodName)) ∈ WALL := wl7 14 (by decide +kernel) rfl
theorem wd_1502 : (Jvm.Cond.selects "StormBasinModel" ({ cls := "StormBasinModel", name := "setRain", desc := "(II)I" } : Jvm.MethodName) ({ cls := "StormBasinModel", name := "setRain", desc := "(II)I" } : Jvm.MethodName)) ∈ WALL := wl7 15 (by decide +kernel) rfl
theorem wd_1503 : (Jvm.Cond.code ({ cls := "StormBasinModel", name := "setRain", desc := "(II)I" } : Jvm.MethodName) prog_8_method_25_code (4 : Nat) (Option.some Jvm.ClassFile.FieldType.int)) ∈ WALL := wl7 16 (by decide +kernel) rfl
theorem wd_1504 : (Jvm.Cond.methodLink "StormBasinLaw" (178 : Nat) ({ cls := "StormBasinModel", name := "pass", desc := "(I)I" } : Jvm.MethodName)) ∈ WALL := wl7 17 (by decide +kernel) rfl
theorem wd_1505 : (Jvm.Cond.instanceMethod ({ cls := "StormBasinModel", name := "pass", desc := "(I)I" } : Jvm.MethodName)) ∈ WALL := wl7 18 (by decide +kernel) rfl
theorem wd_1506 : (Jvm.Cond.selects "StormBasinModel" ({ cls := "StormBasinModel", name := "pass", desc := "(I)I" } : Jvm.MethodName) ({ cls := "StormBasinModel", name := "pass", desc := "(I)I" } : Jvm.MethodName)) ∈ WALL := wl7 19 (by decide +kernel) rfl
theorem wd_1507 : (Jvm.Cond.code ({ cls := "StormBasinModel", name := "pass", desc := "(I)I" } : Jvm.MethodName) prog_8_method_27_code (4 : Nat) (Option.some Jvm.ClassFile.FieldType.int)) ∈ WALL := wl7 20 (by decide +kernel) rfl
theorem wd_1508 : (Jvm.Cond.methodLink "StormBasinModel" (154 : Nat) ({ cls := "StormBasinModel", name := "flows", desc := "([I[I)I" } : Jvm.MethodName)) ∈ WALL := wl7 21 (by decide +kernel) rfl
theorem wd_1510 : (Jvm.Cond.instanceMethod ({ cls := "StormBasinModel", name := "flows", desc := "([I[I)I" } : Jvm.MethodName)) ∈ WALL := wl7 23 (by decide +kernel) rfl
theorem wd_1511 : (Jvm.Cond.code ({ cls := "StormBasinModel", name := "flows", desc := "([I[I)I" } : Jvm.MethodName) prog_8_method_26_code (5 : Nat) (Option.some Jvm.ClassFile.FieldType.int)) ∈ WALL := wl7 24 (by decide +kernel) rfl
theorem wd_1512 : (Jvm.Cond.methodLink "StormBasinModel" (144 : Nat) ({ cls := "StormBasinModel", name := "lesser", desc := "(II)I" } : Jvm.MethodName)) ∈ WALL := wl7 25 (by decide +kernel) rfl
theorem wd_1513 : (Jvm.Cond.static ({ cls := "StormBasinModel", name := "lesser", desc := "(II)I" } : Jvm.MethodName)) ∈ WALL := wl7 26 (by decide +kernel) rfl
theorem wd_1514 : (Jvm.Cond.code ({ cls := "StormBasinModel", name := "lesser", desc := "(II)I" } : Jvm.MethodName) prog_8_method_6_code (2 : Nat) (Option.some Jvm.ClassFile.FieldType.int)) ∈ WALL := wl7 27 (by decide +kernel) rfl
theorem wd_1515 : (Jvm.Cond.methodLink "StormBasinLaw" (182 : Nat) ({ cls := "StormBasinModel", name := "clock", desc := "()I" } : Jvm.MethodName)) ∈ WALL := wl7 28 (by decide +kernel) rfl
theorem wd_1516 : (Jvm.Cond.instanceMethod ({ cls := "StormBasinModel", name := "clock", desc := "()I" } : Jvm.MethodName)) ∈ WALL := wl7 29 (by decide +kernel) rfl
theorem wd_1517 : (Jvm.Cond.selects "StormBasinModel" ({ cls := "StormBasinModel", name := "clock", desc := "()I" } : Jvm.MethodName) ({ cls := "StormBasinModel", name := "clock", desc := "()I" } : Jvm.MethodName)) ∈ WALL := wl7 30 (by decide +kernel) rfl
theorem wd_1518 : (Jvm.Cond.code ({ cls := "StormBasinModel", name := "clock", desc := "()I" } : Jvm.MethodName) prog_8_method_28_code (1 : Nat) (Option.some Jvm.ClassFile.FieldType.int)) ∈ WALL := wl7 31 (by decide +kernel) rfl
theorem wd_1519 : (Jvm.Cond.methodLink "StormBasinLaw" (185 : Nat) ({ cls := "StormBasinModel", name := "volumeOf", desc := "(I)I" } : Jvm.MethodName)) ∈ WALL := wl7 32 (by decide +kernel) rfl
theorem wd_1520 : (Jvm.Cond.instanceMethod ({ cls := "StormBasinModel", name := "volumeOf", desc := "(I)I" } : Jvm.MethodName)) ∈ WALL := wl7 33 (by decide +kernel) rfl
theorem wd_1521 : (Jvm.Cond.selects "StormBasinModel" ({ cls := "StormBasinModel", name := "volumeOf", desc := "(I)I" } : Jvm.MethodName) ({ cls := "StormBasinModel", name := "volumeOf", desc := "(I)I" } : Jvm.MethodName)) ∈ WALL := wl7 34 (by decide +kernel) rfl
theorem wd_1522 : (Jvm.Cond.code ({ cls := "StormBasinModel", name := "volumeOf", desc := "(I)I" } : Jvm.MethodName) prog_8_method_29_code (2 : Nat) (Option.some Jvm.ClassFile.FieldType.int)) ∈ WALL := wl7 35 (by decide +kernel) rfl
theorem wd_1523 : (Jvm.Cond.methodLink "StormBasinLaw" (188 : Nat) ({ cls := "StormBasinModel", name := "levelOf", desc := "(I)I" } : Jvm.MethodName)) ∈ WALL := wl7 36 (by decide +kernel) rfl
theorem wd_1524 : (Jvm.Cond.instanceMethod ({ cls := "StormBasinModel", name := "levelOf", desc := "(I)I" } : Jvm.MethodName)) ∈ WALL := wl7 37 (by decide +kernel) rfl
theorem wd_1525 : (Jvm.Cond.selects "StormBasinModel" ({ cls := "StormBasinModel", name := "levelOf", desc := "(I)I" } : Jvm.MethodName) ({ cls := "StormBasinModel", name := "levelOf", desc := "(I)I" } : Jvm.MethodName)) ∈ WALL := wl7 38 (by decide +kernel) rfl
theorem wd_1526 : (Jvm.Cond.code ({ cls := "StormBasinModel", name := "levelOf", desc := "(I)I" } : Jvm.MethodName) prog_8_method_30_code (2 : Nat) (Option.some Jvm.ClassFile.FieldType.int)) ∈ WALL := wl7 39 (by decide +kernel) rfl
theorem wd_1527 : (Jvm.Cond.methodLink "StormBasinLaw" (191 : Nat) ({ cls := "StormBasinModel", name := "streetVolume", desc := "(I)I" } : Jvm.MethodName)) ∈ WALL := wl7 40 (by decide +kernel) rfl
theorem wd_1528 : (Jvm.Cond.instanceMethod ({ cls := "StormBasinModel", name := "streetVolume", desc := "(I)I" } : Jvm.MethodName)) ∈ WALL := wl7 41 (by decide +kernel) rfl
theorem wd_1529 : (Jvm.Cond.selects "StormBasinModel" ({ cls := "StormBasinModel", name := "streetVolume", desc := "(I)I" } : Jvm.MethodName) ({ cls := "StormBasinModel", name := "streetVolume", desc := "(I)I" } : Jvm.MethodName)) ∈ WALL := wl7 42 (by decide +kernel) rfl
theorem wd_1530 : (Jvm.Cond.code ({ cls := "StormBasinModel", name := "streetVolume", desc := "(I)I" } : Jvm.MethodName) prog_8_method_31_code (2 : Nat) (Option.some Jvm.ClassFile.FieldType.int)) ∈ WALL := wl7 43 (by decide +kernel) rfl
theorem wd_1531 : (Jvm.Cond.methodLink "StormBasinLaw" (195 : Nat) ({ cls := "StormBasinModel", name := "rainTotal", desc := "()I" } : Jvm.MethodName)) ∈ WALL := wl7 44 (by decide +kernel) rfl
theorem wd_1532 : (Jvm.Cond.instanceMethod ({ cls := "StormBasinModel", name := "rainTotal", desc := "()I" } : Jvm.MethodName)) ∈ WALL := wl7 45 (by decide +kernel) rfl
theorem wd_1533 : (Jvm.Cond.selects "StormBasinModel" ({ cls := "StormBasinModel", name := "rainTotal", desc := "()I" } : Jvm.MethodName) ({ cls := "StormBasinModel", name := "rainTotal", desc := "()I" } : Jvm.MethodName)) ∈ WALL := wl7 46 (by decide +kernel) rfl
theorem wd_1534 : (Jvm.Cond.code ({ cls := "StormBasinModel", name := "rainTotal", desc := "()I" } : Jvm.MethodName) prog_8_method_32_code (1 : Nat) (Option.some Jvm.ClassFile.FieldType.int)) ∈ WALL := wl7 47 (by decide +kernel) rfl
theorem wd_1535 : (Jvm.Cond.methodLink "StormBasinLaw" (199 : Nat) ({ cls := "StormBasinModel", name := "riverTotal", desc := "()I" } : Jvm.MethodName)) ∈ WALL := wl7 48 (by decide +kernel) rfl
theorem wd_1536 : (Jvm.Cond.instanceMethod ({ cls := "StormBasinModel", name := "riverTotal", desc := "()I" } : Jvm.MethodName)) ∈ WALL := wl7 49 (by decide +kernel) rfl
theorem wd_1537 : (Jvm.Cond.selects "StormBasinModel" ({ cls := "StormBasinModel", name := "riverTotal", desc := "()I" } : Jvm.MethodName) ({ cls := "StormBasinModel", name := "riverTotal", desc := "()I" } : Jvm.MethodName)) ∈ WALL := wl7 50 (by decide +kernel) rfl
theorem wd_1538 : (Jvm.Cond.code ({ cls := "StormBasinModel", name := "riverTotal", desc := "()I" } : Jvm.MethodName) prog_8_method_33_code (1 : Nat) (Option.some Jvm.ClassFile.FieldType.int)) ∈ WALL := wl7 51 (by decide +kernel) rfl
theorem wd_1539 : (Jvm.Cond.methodLink "StormBasinLaw" (203 : Nat) ({ cls := "StormBasinModel", name := "heldTotal", desc := "()I" } : Jvm.MethodName)) ∈ WALL := wl7 52 (by decide +kernel) rfl
theorem wd_1540 : (Jvm.Cond.instanceMethod ({ cls := "StormBasinModel", name := "heldTotal", desc := "()I" } : Jvm.MethodName)) ∈ WALL := wl7 53 (by decide +kernel) rfl
theorem wd_1541 : (Jvm.Cond.selects "StormBasinModel" ({ cls := "StormBasinModel", name := "heldTotal", desc := "()I" } : Jvm.MethodName) ({ cls := "StormBasinModel", name := "heldTotal", desc := "()I" } : Jvm.MethodName)) ∈ WALL := wl7 54 (by decide +kernel) rfl
theorem wd_1542 : (Jvm.Cond.code ({ cls := "StormBasinModel", name := "heldTotal", desc := "()I" } : Jvm.MethodName) prog_8_method_35_code (1 : Nat) (Option.some Jvm.ClassFile.FieldType.int)) ∈ WALL := wl7 55 (by decide +kernel) rfl
theorem wd_1543 : (Jvm.Cond.methodLink "StormBasinModel" (158 : Nat) ({ cls := "StormBasinModel", name := "held", desc := "()I" } : Jvm.MethodName)) ∈ WALL := wl7 56 (by decide +kernel) rfl
theorem wd_1545 : (Jvm.Cond.instanceMethod ({ cls := "StormBasinModel", name := "held", desc := "()I" } : Jvm.MethodName)) ∈ WALL := wl7 58 (by decide +kernel) rfl
theorem wd_1546 : (Jvm.Cond.code ({ cls := "StormBasinModel", name := "held", desc := "()I" } : Jvm.MethodName) prog_8_method_34_code (3 : Nat) (Option.some Jvm.ClassFile.FieldType.int)) ∈ WALL := wl7 59 (by decide +kernel) rfl
theorem wd_1547 : (Jvm.Cond.methodLink "StormBasinLaw" (208 : Nat) ({ cls := "StormBasinModel", name := "isBalanced", desc := "()Z" } : Jvm.MethodName)) ∈ WALL := wl7 60 (by decide +kernel) rfl
theorem wd_1548 : (Jvm.Cond.instanceMethod ({ cls := "StormBasinModel", name := "isBalanced", desc := "()Z" } : Jvm.MethodName)) ∈ WALL := wl7 61 (by decide +kernel) rfl
theorem wd_1549 : (Jvm.Cond.selects "StormBasinModel" ({ cls := "StormBasinModel", name := "isBalanced", desc := "()Z" } : Jvm.MethodName) ({ cls := "StormBasinModel", name := "isBalanced", desc := "()Z" } : Jvm.MethodName)) ∈ WALL := wl7 62 (by decide +kernel) rfl
theorem wd_1550 : (Jvm.Cond.code ({ cls := "StormBasinModel", name := "isBalanced", desc := "()Z" } : Jvm.MethodName) prog_8_method_36_code (1 : Nat) (Option.some Jvm.ClassFile.FieldType.boolean)) ∈ WALL := wl7 63 (by decide +kernel) rfl
theorem wd_1551 : (Jvm.Cond.methodLink "StormBasinLaw" (211 : Nat) ({ cls := "StormBasinModel", name := "depthAt", desc := "(II)I" } : Jvm.MethodName)) ∈ WALL := wl7 64 (by decide +kernel) rfl
theorem wd_1552 : (Jvm.Cond.instanceMethod ({ cls := "StormBasinModel", name := "depthAt", desc := "(II)I" } : Jvm.MethodName)) ∈ WALL := wl7 65 (by decide +kernel) rfl
theorem wd_1553 : (Jvm.Cond.selects "StormBasinModel" ({ cls := "StormBasinModel", name := "depthAt", desc := "(II)I" } : Jvm.MethodName) ({ cls := "StormBasinModel", name := "depthAt", desc := "(II)I" } : Jvm.MethodName)) ∈ WALL := wl7 66 (by decide +kernel) rfl
theorem wd_1554 : (Jvm.Cond.code ({ cls := "StormBasinModel", name := "depthAt", desc := "(II)I" } : Jvm.MethodName) prog_8_method_41_code (3 : Nat) (Option.some Jvm.ClassFile.FieldType.int)) ∈ WALL := wl7 67 (by decide +kernel) rfl
theorem wd_1555 : (Jvm.Cond.methodLink "StormBasinModel" (176 : Nat) ({ cls := "StormBasinModel", name := "deep", desc := "(II)I" } : Jvm.MethodName)) ∈ WALL := wl7 68 (by decide +kernel) rfl
theorem wd_1557 : (Jvm.Cond.instanceMethod ({ cls := "StormBasinModel", name := "deep", desc := "(II)I" } : Jvm.MethodName)) ∈ WALL := wl7 70 (by decide +kernel) rfl
theorem wd_1558 : (Jvm.Cond.code ({ cls := "StormBasinModel", name := "deep", desc := "(II)I" } : Jvm.MethodName) prog_8_method_40_code (3 : Nat) (Option.some Jvm.ClassFile.FieldType.int)) ∈ WALL := wl7 71 (by decide +kernel) rfl
theorem wd_1559 : (Jvm.Cond.methodLink "StormBasinModel" (168 : Nat) ({ cls := "StormBasinModel", name := "isNoCell", desc := "(II)Z" } : Jvm.MethodName)) ∈ WALL := wl7 72 (by decide +kernel) rfl
theorem wd_1561 : (Jvm.Cond.instanceMethod ({ cls := "StormBasinModel", name := "isNoCell", desc := "(II)Z" } : Jvm.MethodName)) ∈ WALL := wl7 74 (by decide +kernel) rfl
theorem wd_1562 : (Jvm.Cond.code ({ cls := "StormBasinModel", name := "isNoCell", desc := "(II)Z" } : Jvm.MethodName) prog_8_method_8_code (3 : Nat) (Option.some Jvm.ClassFile.FieldType.boolean)) ∈ WALL := wl7 75 (by decide +kernel) rfl
theorem wd_1563 : (Jvm.Cond.methodLink "StormBasinModel" (172 : Nat) ({ cls := "StormBasinModel", name := "depth", desc := "(III)I" } : Jvm.MethodName)) ∈ WALL := wl7 76 (by decide +kernel) rfl
theorem wd_1565 : (Jvm.Cond.instanceMethod ({ cls := "StormBasinModel", name := "depth", desc := "(III)I" } : Jvm.MethodName)) ∈ WALL := wl7 78 (by decide +kernel) rfl
theorem wd_1566 : (Jvm.Cond.code ({ cls := "StormBasinModel", name := "depth", desc := "(III)I" } : Jvm.MethodName) prog_8_method_39_code (8 : Nat) (Option.some Jvm.ClassFile.FieldType.int)) ∈ WALL := wl7 79 (by decide +kernel) rfl
theorem wd_1567 : (Jvm.Cond.methodLink "StormBasinModel" (165 : Nat) ({ cls := "StormBasinModel", name := "heightOf", desc := "(II)I" } : Jvm.MethodName)) ∈ WALL := wl7 80 (by decide +kernel) rfl
theorem wd_1569 : (Jvm.Cond.instanceMethod ({ cls := "StormBasinModel", name := "heightOf", desc := "(II)I" } : Jvm.MethodName)) ∈ WALL := wl7 82 (by decide +kernel) rfl
theorem wd_1570 : (Jvm.Cond.code ({ cls := "StormBasinModel", name := "heightOf", desc := "(II)I" } : Jvm.MethodName) prog_8_method_38_code (6 : Nat) (Option.some Jvm.ClassFile.FieldType.int)) ∈ WALL := wl7 83 (by decide +kernel) rfl
theorem wd_1571 : (Jvm.Cond.methodLink "StormBasinModel" (162 : Nat) ({ cls := "StormBasinModel", name := "upTo", desc := "(II)I" } : Jvm.MethodName)) ∈ WALL := wl7 84 (by decide +kernel) rfl
theorem wd_1573 : (Jvm.Cond.instanceMethod ({ cls := "StormBasinModel", name := "upTo", desc := "(II)I" } : Jvm.MethodName)) ∈ WALL := wl7 86 (by decide +kernel) rfl
theorem wd_1574 : (Jvm.Cond.code ({ cls := "StormBasinModel", name := "upTo", desc := "(II)I" } : Jvm.MethodName) prog_8_method_37_code (5 : Nat) (Option.some Jvm.ClassFile.FieldType.int)) ∈ WALL := wl7 87 (by decide +kernel) rfl
theorem wd_1575 : (Jvm.Cond.methodLink "StormBasinLaw" (214 : Nat) ({ cls := "StormBasinModel", name := "depthByPouring", desc := "(II)I" } : Jvm.MethodName)) ∈ WALL := wl7 88 (by decide +kernel) rfl
theorem wd_1576 : (Jvm.Cond.instanceMethod ({ cls := "StormBasinModel", name := "depthByPouring", desc := "(II)I" } : Jvm.MethodName)) ∈ WALL := wl7 89 (by decide +kernel) rfl
theorem wd_1577 : (Jvm.Cond.selects "StormBasinModel" ({ cls := "StormBasinModel", name := "depthByPouring", desc := "(II)I" } : Jvm.MethodName) ({ cls := "StormBasinModel", name := "depthByPouring", desc := "(II)I" } : Jvm.MethodName)) ∈ WALL := wl7 90 (by decide +kernel) rfl
theorem wd_1578 : (Jvm.Cond.code ({ cls := "StormBasinModel", name := "depthByPouring", desc := "(II)I" } : Jvm.MethodName) prog_8_method_42_code (3 : Nat) (Option.some Jvm.ClassFile.FieldType.int)) ∈ WALL := wl7 91 (by decide +kernel) rfl
theorem wd_1579 : (Jvm.Cond.methodLink "StormBasinLaw" (218 : Nat) ({ cls := "StormBasinModel", name := "depthThen", desc := "(III)I" } : Jvm.MethodName)) ∈ WALL := wl7 92 (by decide +kernel) rfl
theorem wd_1580 : (Jvm.Cond.instanceMethod ({ cls := "StormBasinModel", name := "depthThen", desc := "(III)I" } : Jvm.MethodName)) ∈ WALL := wl7 93 (by decide +kernel) rfl
theorem wd_1581 : (Jvm.Cond.selects "StormBasinModel" ({ cls := "StormBasinModel", name := "depthThen", desc := "(III)I" } : Jvm.MethodName) ({ cls := "StormBasinModel", name := "depthThen", desc := "(III)I" } : Jvm.MethodName)) ∈ WALL := wl7 94 (by decide +kernel) rfl
theorem wd_1582 : (Jvm.Cond.code ({ cls := "StormBasinModel", name := "depthThen", desc := "(III)I" } : Jvm.MethodName) prog_8_method_44_code (4 : Nat) (Option.some Jvm.ClassFile.FieldType.int)) ∈ WALL := wl7 95 (by decide +kernel) rfl
theorem wd_1583 : (Jvm.Cond.methodLink "StormBasinModel" (179 : Nat) ({ cls := "StormBasinModel", name := "then", desc := "(III)I" } : Jvm.MethodName)) ∈ WALL := wl7 96 (by decide +kernel) rfl
theorem wd_1585 : (Jvm.Cond.instanceMethod ({ cls := "StormBasinModel", name := "then", desc := "(III)I" } : Jvm.MethodName)) ∈ WALL := wl7 98 (by decide +kernel) rfl
theorem wd_1586 : (Jvm.Cond.code ({ cls := "StormBasinModel", name := "then", desc := "(III)I" } : Jvm.MethodName) prog_8_method_43_code (4 : Nat) (Option.some Jvm.ClassFile.FieldType.int)) ∈ WALL := wl7 99 (by decide +kernel) rfl
theorem wd_1587 : (Jvm.Cond.methodLink "StormBasinLaw" (221 : Nat) ({ cls := "StormBasinModel", name := "wetCells", desc := "(I)I" } : Jvm.MethodName)) ∈ WALL := wl7 100 (by decide +kernel) rfl
theorem wd_1588 : (Jvm.Cond.instanceMethod ({ cls := "StormBasinModel", name := "wetCells", desc := "(I)I" } : Jvm.MethodName)) ∈ WALL := wl7 101 (by decide +kernel) rfl
theorem wd_1589 : (Jvm.Cond.selects "StormBasinModel" ({ cls := "StormBasinModel", name := "wetCells", desc := "(I)I" } : Jvm.MethodName) ({ cls := "StormBasinModel", name := "wetCells", desc := "(I)I" } : Jvm.MethodName)) ∈ WALL := wl7 102 (by decide +kernel) rfl
theorem wd_1590 : (Jvm.Cond.code ({ cls := "StormBasinModel", name := "wetCells", desc := "(I)I" } : Jvm.MethodName) prog_8_method_46_code (2 : Nat) (Option.some Jvm.ClassFile.FieldType.int)) ∈ WALL := wl7 103 (by decide +kernel) rfl
theorem wd_1591 : (Jvm.Cond.methodLink "StormBasinModel" (182 : Nat) ({ cls := "StormBasinModel", name := "wet", desc := "(II)I" } : Jvm.MethodName)) ∈ WALL := wl7 104 (by decide +kernel) rfl
theorem wd_1593 : (Jvm.Cond.instanceMethod ({ cls := "StormBasinModel", name := "wet", desc := "(II)I" } : Jvm.MethodName)) ∈ WALL := wl7 106 (by decide +kernel) rfl
theorem wd_1594 : (Jvm.Cond.code ({ cls := "StormBasinModel", name := "wet", desc := "(II)I" } : Jvm.MethodName) prog_8_method_45_code (5 : Nat) (Option.some Jvm.ClassFile.FieldType.int)) ∈ WALL := wl7 107 (by decide +kernel) rfl
theorem wd_1595 : (Jvm.Cond.methodLink "StormBasinLaw" (224 : Nat) ({ cls := "StormBasinModel", name := "wetHours", desc := "(II)I" } : Jvm.MethodName)) ∈ WALL := wl7 108 (by decide +kernel) rfl
theorem wd_1596 : (Jvm.Cond.instanceMethod ({ cls := "StormBasinModel", name := "wetHours", desc := "(II)I" } : Jvm.MethodName)) ∈ WALL := wl7 109 (by decide +kernel) rfl
theorem wd_1597 : (Jvm.Cond.selects "StormBasinModel" ({ cls := "StormBasinModel", name := "wetHours", desc := "(II)I" } : Jvm.MethodName) ({ cls := "StormBasinModel", name := "wetHours", desc := "(II)I" } : Jvm.MethodName)) ∈ WALL := wl7 110 (by decide +kernel) rfl
theorem wd_1598 : (Jvm.Cond.code ({ cls := "StormBasinModel", name := "wetHours", desc := "(II)I" } : Jvm.MethodName) prog_8_method_47_code (5 : Nat) (Option.some Jvm.ClassFile.FieldType.int)) ∈ WALL := wl7 111 (by decide +kernel) rfl
theorem wd_1599 : (Jvm.Cond.methodLink "StormBasinLaw" (228 : Nat) ({ cls := "StormBasinModel", name := "floodedSoFar", desc := "()I" } : Jvm.MethodName)) ∈ WALL := wl7 112 (by decide +kernel) rfl
theorem wd_1600 : (Jvm.Cond.instanceMethod ({ cls := "StormBasinModel", name := "floodedSoFar", desc := "()I" } : Jvm.MethodName)) ∈ WALL := wl7 113 (by decide +kernel) rfl
theorem wd_1601 : (Jvm.Cond.selects "StormBasinModel" ({ cls := "StormBasinModel", name := "floodedSoFar", desc := "()I" } : Jvm.MethodName) ({ cls := "StormBasinModel", name := "floodedSoFar", desc := "()I" } : Jvm.MethodName)) ∈ WALL := wl7 114 (by decide +kernel) rfl
theorem wd_1602 : (Jvm.Cond.code ({ cls := "StormBasinModel", name := "floodedSoFar", desc := "()I" } : Jvm.MethodName) prog_8_method_48_code (4 : Nat) (Option.some Jvm.ClassFile.FieldType.int)) ∈ WALL := wl7 115 (by decide +kernel) rfl
theorem wd_1603 : (Jvm.Cond.methodLink "StormBasinLaw" (232 : Nat) ({ cls := "StormBasinModel", name := "addHouse", desc := "(IIII)I" } : Jvm.MethodName)) ∈ WALL := wl7 116 (by decide +kernel) rfl
theorem wd_1604 : (Jvm.Cond.instanceMethod ({ cls := "StormBasinModel", name := "addHouse", desc := "(IIII)I" } : Jvm.MethodName)) ∈ WALL := wl7 117 (by decide +kernel) rfl
theorem wd_1605 : (Jvm.Cond.selects "StormBasinModel" ({ cls := "StormBasinModel", name := "addHouse", desc := "(IIII)I" } : Jvm.MethodName) ({ cls := "StormBasinModel", name := "addHouse", desc := "(IIII)I" } : Jvm.MethodName)) ∈ WALL := wl7 118 (by decide +kernel) rfl
theorem wd_1606 : (Jvm.Cond.code ({ cls := "StormBasinModel", name := "addHouse", desc := "(IIII)I" } : Jvm.MethodName) prog_8_method_49_code (5 : Nat) (Option.some Jvm.ClassFile.FieldType.int)) ∈ WALL := wl7 119 (by decide +kernel) rfl
theorem wd_1607 : (Jvm.Cond.methodLink "StormBasinLaw" (236 : Nat) ({ cls := "StormBasinModel", name := "houseCount", desc := "()I" } : Jvm.MethodName)) ∈ WALL := wl7 120 (by decide +kernel) rfl
theorem wd_1608 : (Jvm.Cond.instanceMethod ({ cls := "StormBasinModel", name := "houseCount", desc := "()I" } : Jvm.MethodName)) ∈ WALL := wl7 121 (by decide +kernel) rfl
theorem wd_1609 : (Jvm.Cond.selects "StormBasinModel" ({ cls := "StormBasinModel", name := "houseCount", desc := "()I" } : Jvm.MethodName) ({ cls := "StormBasinModel", name := "houseCount", desc := "()I" } : Jvm.MethodName)) ∈ WALL := wl7 122 (by decide +kernel) rfl
theorem wd_1610 : (Jvm.Cond.code ({ cls := "StormBasinModel", name := "houseCount", desc := "()I" } : Jvm.MethodName) prog_8_method_50_code (1 : Nat) (Option.some Jvm.ClassFile.FieldType.int)) ∈ WALL := wl7 123 (by decide +kernel) rfl
theorem wd_1611 : (Jvm.Cond.methodLink "StormBasinLaw" (239 : Nat) ({ cls := "StormBasinModel", name := "wasWet", desc := "(II)Z" } : Jvm.MethodName)) ∈ WALL := wl7 124 (by decide +kernel) rfl
theorem wd_1612 : (Jvm.Cond.instanceMethod ({ cls := "StormBasinModel", name := "wasWet", desc := "(II)Z" } : Jvm.MethodName)) ∈ WALL := wl7 125 (by decide +kernel) rfl
theorem wd_1613 : (Jvm.Cond.selects "StormBasinModel" ({ cls := "StormBasinModel", name := "wasWet", desc := "(II)Z" } : Jvm.MethodName) ({ cls := "StormBasinModel", name := "wasWet", desc := "(II)Z" } : Jvm.MethodName)) ∈ WALL := wl7 126 (by decide +kernel) rfl
theorem wd_1614 : (Jvm.Cond.code ({ cls := "StormBasinModel", name := "wasWet", desc := "(II)Z" } : Jvm.MethodName) prog_8_method_53_code (3 : Nat) (Option.some Jvm.ClassFile.FieldType.boolean)) ∈ WALL := wl7 127 (by decide +kernel) rfl
theorem wd_1615 : (Jvm.Cond.methodLink "StormBasinModel" (188 : Nat) ({ cls := "StormBasinModel", name := "isNoHour", desc := "(II)Z" } : Jvm.MethodName)) ∈ WALL := wl7 128 (by decide +kernel) rfl
theorem wd_1617 : (Jvm.Cond.instanceMethod ({ cls := "StormBasinModel", name := "isNoHour", desc := "(II)Z" } : Jvm.MethodName)) ∈ WALL := wl7 130 (by decide +kernel) rfl
theorem wd_1618 : (Jvm.Cond.code ({ cls := "StormBasinModel", name := "isNoHour", desc := "(II)Z" } : Jvm.MethodName) prog_8_method_51_code (3 : Nat) (Option.some Jvm.ClassFile.FieldType.boolean)) ∈ WALL := wl7 131 (by decide +kernel) rfl
theorem wd_1619 : (Jvm.Cond.methodLink "StormBasinModel" (185 : Nat) ({ cls := "StormBasinModel", name := "isNoHouse", desc := "(I)Z" } : Jvm.MethodName)) ∈ WALL := wl7 132 (by decide +kernel) rfl
theorem wd_1621 : (Jvm.Cond.instanceMethod ({ cls := "StormBasinModel", name := "isNoHouse", desc := "(I)Z" } : Jvm.MethodName)) ∈ WALL := wl7 134 (by decide +kernel) rfl
theorem wd_1622 : (Jvm.Cond.code ({ cls := "StormBasinModel", name := "isNoHouse", desc := "(I)Z" } : Jvm.MethodName) prog_8_method_10_code (2 : Nat) (Option.some Jvm.ClassFile.FieldType.boolean)) ∈ WALL := wl7 135 (by decide +kernel) rfl
theorem wd_1623 : (Jvm.Cond.methodLink "StormBasinModel" (191 : Nat) ({ cls := "StormBasinModel", name := "worth", desc := "(II)I" } : Jvm.MethodName)) ∈ WALL := wl7 136 (by decide +kernel) rfl
theorem wd_1625 : (Jvm.Cond.instanceMethod ({ cls := "StormBasinModel", name := "worth", desc := "(II)I" } : Jvm.MethodName)) ∈ WALL := wl7 138 (by decide +kernel) rfl
theorem wd_1626 : (Jvm.Cond.code ({ cls := "StormBasinModel", name := "worth", desc := "(II)I" } : Jvm.MethodName) prog_8_method_52_code (3 : Nat) (Option.some Jvm.ClassFile.FieldType.int)) ∈ WALL := wl7 139 (by decide +kernel) rfl
theorem wd_1627 : (Jvm.Cond.methodLink "StormBasinLaw" (242 : Nat) ({ cls := "StormBasinModel", name := "worthOf", desc := "(II)I" } : Jvm.MethodName)) ∈ WALL := wl7 140 (by decide +kernel) rfl
theorem wd_1628 : (Jvm.Cond.instanceMethod ({ cls := "StormBasinModel", name := "worthOf", desc := "(II)I" } : Jvm.MethodName)) ∈ WALL := wl7 141 (by decide +kernel) rfl
theorem wd_1629 : (Jvm.Cond.selects "StormBasinModel" ({ cls := "StormBasinModel", name := "worthOf", desc := "(II)I" } : Jvm.MethodName) ({ cls := "StormBasinModel", name := "worthOf", desc := "(II)I" } : Jvm.MethodName)) ∈ WALL := wl7 142 (by decide +kernel) rfl
theorem wd_1630 : (Jvm.Cond.code ({ cls := "StormBasinModel", name := "worthOf", desc := "(II)I" } : Jvm.MethodName) prog_8_method_54_code (3 : Nat) (Option.some Jvm.ClassFile.FieldType.int)) ∈ WALL := wl7 143 (by decide +kernel) rfl
theorem wd_1631 : (Jvm.Cond.methodLink "StormBasinLaw" (245 : Nat) ({ cls := "StormBasinModel", name := "claim", desc := "(II)I" } : Jvm.MethodName)) ∈ WALL := wl7 144 (by decide +kernel) rfl
theorem wd_1632 : (Jvm.Cond.instanceMethod ({ cls := "StormBasinModel", name := "claim", desc := "(II)I" } : Jvm.MethodName)) ∈ WALL := wl7 145 (by decide +kernel) rfl
theorem wd_1633 : (Jvm.Cond.selects "StormBasinModel" ({ cls := "StormBasinModel", name := "claim", desc := "(II)I" } : Jvm.MethodName) ({ cls := "StormBasinModel", name := "claim", desc := "(II)I" } : Jvm.MethodName)) ∈ WALL := wl7 146 (by decide +kernel) rfl
theorem wd_1634 : (Jvm.Cond.code ({ cls := "StormBasinModel", name := "claim", desc := "(II)I" } : Jvm.MethodName) prog_8_method_56_code (3 : Nat) (Option.some Jvm.ClassFile.FieldType.int)) ∈ WALL := wl7 147 (by decide +kernel) rfl
theorem wd_1635 : (Jvm.Cond.methodLink "StormBasinModel" (197 : Nat) ({ cls := "StormBasinModel", name := "pays", desc := "(II)I" } : Jvm.MethodName)) ∈ WALL := wl7 148 (by decide +kernel) rfl
theorem wd_1637 : (Jvm.Cond.instanceMethod ({ cls := "StormBasinModel", name := "pays", desc := "(II)I" } : Jvm.MethodName)) ∈ WALL := wl7 150 (by decide +kernel) rfl
theorem wd_1638 : (Jvm.Cond.code ({ cls := "StormBasinModel", name := "pays", desc := "(II)I" } : Jvm.MethodName) prog_8_method_55_code (4 : Nat) (Option.some Jvm.ClassFile.FieldType.int)) ∈ WALL := wl7 151 (by decide +kernel) rfl
theorem wd_1639 : (Jvm.Cond.methodLink "StormBasinLaw" (248 : Nat) ({ cls := "StormBasinModel", name := "claimWorst", desc := "(I)I" } : Jvm.MethodName)) ∈ WALL := wl7 152 (by decide +kernel) rfl
theorem wd_1640 : (Jvm.Cond.instanceMethod ({ cls := "StormBasinModel", name := "claimWorst", desc := "(I)I" } : Jvm.MethodName)) ∈ WALL := wl7 153 (by decide +kernel) rfl
theorem wd_1641 : (Jvm.Cond.selects "StormBasinModel" ({ cls := "StormBasinModel", name := "claimWorst", desc := "(I)I" } : Jvm.MethodName) ({ cls := "StormBasinModel", name := "claimWorst", desc := "(I)I" } : Jvm.MethodName)) ∈ WALL := wl7 154 (by decide +kernel) rfl
theorem wd_1642 : (Jvm.Cond.code ({ cls := "StormBasinModel", name := "claimWorst", desc := "(I)I" } : Jvm.MethodName) prog_8_method_57_code (6 : Nat) (Option.some Jvm.ClassFile.FieldType.int)) ∈ WALL := wl7 155 (by decide +kernel) rfl
theorem wd_1643 : (Jvm.Cond.methodLink "StormBasinLaw" (251 : Nat) ({ cls := "StormBasinModel", name := "claimCount", desc := "(I)I" } : Jvm.MethodName)) ∈ WALL := wl7 156 (by decide +kernel) rfl
theorem wd_1644 : (Jvm.Cond.instanceMethod ({ cls := "StormBasinModel", name := "claimCount", desc := "(I)I" } : Jvm.MethodName)) ∈ WALL := wl7 157 (by decide +kernel) rfl
theorem wd_1645 : (Jvm.Cond.selects "StormBasinModel" ({ cls := "StormBasinModel", name := "claimCount", desc := "(I)I" } : Jvm.MethodName) ({ cls := "StormBasinModel", name := "claimCount", desc := "(I)I" } : Jvm.MethodName)) ∈ WALL := wl7 158 (by decide +kernel) rfl
theorem wd_1646 : (Jvm.Cond.code ({ cls := "StormBasinModel", name := "claimCount", desc := "(I)I" } : Jvm.MethodName) prog_8_method_58_code (4 : Nat) (Option.some Jvm.ClassFile.FieldType.int)) ∈ WALL := wl7 159 (by decide +kernel) rfl
theorem wd_1647 : (Jvm.Cond.methodLink "StormBasinLaw" (254 : Nat) ({ cls := "StormBasinModel", name := "paidTo", desc := "(I)I" } : Jvm.MethodName)) ∈ WALL := wl7 160 (by decide +kernel) rfl
theorem wd_1648 : (Jvm.Cond.instanceMethod ({ cls := "StormBasinModel", name := "paidTo", desc := "(I)I" } : Jvm.MethodName)) ∈ WALL := wl7 161 (by decide +kernel) rfl
theorem wd_1649 : (Jvm.Cond.selects "StormBasinModel" ({ cls := "StormBasinModel", name := "paidTo", desc := "(I)I" } : Jvm.MethodName) ({ cls := "StormBasinModel", name := "paidTo", desc := "(I)I" } : Jvm.MethodName)) ∈ WALL := wl7 162 (by decide +kernel) rfl
theorem wd_1650 : (Jvm.Cond.code ({ cls := "StormBasinModel", name := "paidTo", desc := "(I)I" } : Jvm.MethodName) prog_8_method_59_code (2 : Nat) (Option.some Jvm.ClassFile.FieldType.int)) ∈ WALL := wl7 163 (by decide +kernel) rfl
theorem wd_1651 : (Jvm.Cond.methodLink "StormBasinLaw" (259 : Nat) ({ cls := "StormBasinModel", name := "paidTotal", desc := "()J" } : Jvm.MethodName)) ∈ WALL := wl7 164 (by decide +kernel) rfl
theorem wd_1652 : (Jvm.Cond.instanceMethod ({ cls := "StormBasinModel", name := "paidTotal", desc := "()J" } : Jvm.MethodName)) ∈ WALL := wl7 165 (by decide +kernel) rfl
theorem wd_1653 : (Jvm.Cond.selects "StormBasinModel" ({ cls := "StormBasinModel", name := "paidTotal", desc := "()J" } : Jvm.MethodName) ({ cls := "StormBasinModel", name := "paidTotal", desc := "()J" } : Jvm.MethodName)) ∈ WALL := wl7 166 (by decide +kernel) rfl
theorem wd_1654 : (Jvm.Cond.code ({ cls := "StormBasinModel", name := "paidTotal", desc := "()J" } : Jvm.MethodName) prog_8_method_61_code (1 : Nat) (Option.some Jvm.ClassFile.FieldType.long)) ∈ WALL := wl7 167 (by decide +kernel) rfl
theorem wd_1655 : (Jvm.Cond.methodLink "StormBasinModel" (200 : Nat) ({ cls := "StormBasinModel", name := "allPaid", desc := "()J" } : Jvm.MethodName)) ∈ WALL := wl7 168 (by decide +kernel) rfl
theorem wd_1657 : (Jvm.Cond.instanceMethod ({ cls := "StormBasinModel", name := "allPaid", desc := "()J" } : Jvm.MethodName)) ∈ WALL := wl7 170 (by decide +kernel) rfl
theorem wd_1658 : (Jvm.Cond.code ({ cls := "StormBasinModel", name := "allPaid", desc := "()J" } : Jvm.MethodName) prog_8_method_60_code (4 : Nat) (Option.some Jvm.ClassFile.FieldType.long)) ∈ WALL := wl7 171 (by decide +kernel) rfl
theorem wd_1659 : (Jvm.Cond.methodLink "StormBasinLaw" (263 : Nat) ({ cls := "StormBasinModel", name := "meanPayment", desc := "()D" } : Jvm.MethodName)) ∈ WALL := wl7 172 (by decide +kernel) rfl
theorem wd_1660 : (Jvm.Cond.instanceMethod ({ cls := "StormBasinModel", name := "meanPayment", desc := "()D" } : Jvm.MethodName)) ∈ WALL := wl7 173 (by decide +kernel) rfl
theorem wd_1661 : (Jvm.Cond.selects "StormBasinModel" ({ cls := "StormBasinModel", name := "meanPayment", desc := "()D" } : Jvm.MethodName) ({ cls := "StormBasinModel", name := "meanPayment", desc := "()D" } : Jvm.MethodName)) ∈ WALL := wl7 174 (by decide +kernel) rfl
theorem wd_1662 : (Jvm.Cond.code ({ cls := "StormBasinModel", name := "meanPayment", desc := "()D" } : Jvm.MethodName) prog_8_method_62_code (1 : Nat) (Option.some Jvm.ClassFile.FieldType.double)) ∈ WALL := wl7 175 (by decide +kernel) rfl
theorem wd_1663 : (Jvm.Cond.methodLink "StormBasinLaw" (267 : Nat) ({ cls := "StormBasinModel", name := "floodedWith", desc := "()I" } : Jvm.MethodName)) ∈ WALL := wl7 176 (by decide +kernel) rfl
theorem wd_1664 : (Jvm.Cond.instanceMethod ({ cls := "StormBasinModel", name := "floodedWith", desc := "()I" } : Jvm.MethodName)) ∈ WALL := wl7 177 (by decide +kernel) rfl
theorem wd_1665 : (Jvm.Cond.selects "StormBasinModel" ({ cls := "StormBasinModel", name := "floodedWith", desc := "()I" } : Jvm.MethodName) ({ cls := "StormBasinModel", name := "floodedWith", desc := "()I" } : Jvm.MethodName)) ∈ WALL := wl7 178 (by decide +kernel) rfl
theorem wd_1666 : (Jvm.Cond.code ({ cls := "StormBasinModel", name := "floodedWith", desc := "()I" } : Jvm.MethodName) prog_8_method_64_code (1 : Nat) (Option.some Jvm.ClassFile.FieldType.int)) ∈ WALL := wl7 179 (by decide +kernel) rfl
theorem wd_1667 : (Jvm.Cond.methodLink "StormBasinModel" (204 : Nat) ({ cls := "StormBasinModel", name := "trial", desc := "(II)I" } : Jvm.MethodName)) ∈ WALL := wl7 180 (by decide +kernel) rfl
theorem wd_1669 : (Jvm.Cond.instanceMethod ({ cls := "StormBasinModel", name := "trial", desc := "(II)I" } : Jvm.MethodName)) ∈ WALL := wl7 182 (by decide +kernel) rfl
theorem wd_1670 : (Jvm.Cond.code ({ cls := "StormBasinModel", name := "trial", desc := "(II)I" } : Jvm.MethodName) prog_8_method_63_code (6 : Nat) (Option.some Jvm.ClassFile.FieldType.int)) ∈ WALL := wl7 183 (by decide +kernel) rfl
theorem wd_1671 : (Jvm.Cond.methodLink "StormBasinLaw" (270 : Nat) ({ cls := "StormBasinModel", name := "floodedWithOpening", desc := "(II)I" } : Jvm.MethodName)) ∈ WALL := wl7 184 (by decide +kernel) rfl
theorem wd_1672 : (Jvm.Cond.instanceMethod ({ cls := "StormBasinModel", name := "floodedWithOpening", desc := "(II)I" } : Jvm.MethodName)) ∈ WALL := wl7 185 (by decide +kernel) rfl
theorem wd_1673 : (Jvm.Cond.selects "StormBasinModel" ({ cls := "StormBasinModel", name := "floodedWithOpening", desc := "(II)I" } : Jvm.MethodName) ({ cls := "StormBasinModel", name := "floodedWithOpening", desc := "(II)I" } : Jvm.MethodName)) ∈ WALL := wl7 186 (by decide +kernel) rfl
theorem wd_1674 : (Jvm.Cond.code ({ cls := "StormBasinModel", name := "floodedWithOpening", desc := "(II)I" } : Jvm.MethodName) prog_8_method_65_code (3 : Nat) (Option.some Jvm.ClassFile.FieldType.int)) ∈ WALL := wl7 187 (by decide +kernel) rfl
theorem wd_1675 : (Jvm.Cond.methodLink "StormBasinLaw" (273 : Nat) ({ cls := "StormBasinModel", name := "bestOpening", desc := "(I)I" } : Jvm.MethodName)) ∈ WALL := wl7 188 (by decide +kernel) rfl
theorem wd_1676 : (Jvm.Cond.instanceMethod ({ cls := "StormBasinModel", name := "bestOpening", desc := "(I)I" } : Jvm.MethodName)) ∈ WALL := wl7 189 (by decide +kernel) rfl
theorem wd_1677 : (Jvm.Cond.selects "StormBasinModel" ({ cls := "StormBasinModel", name := "bestOpening", desc := "(I)I" } : Jvm.MethodName) ({ cls := "StormBasinModel", name := "bestOpening", desc := "(I)I" } : Jvm.MethodName)) ∈ WALL := wl7 190 (by decide +kernel) rfl
theorem wd_1678 : (Jvm.Cond.code ({ cls := "StormBasinModel", name := "bestOpening", desc := "(I)I" } : Jvm.MethodName) prog_8_method_66_code (6 : Nat) (Option.some Jvm.ClassFile.FieldType.int)) ∈ WALL := wl7 191 (by decide +kernel) rfl
theorem wd_1679 : (Jvm.Cond.methodLink "StormBasinLaw" (276 : Nat) ({ cls := "StormBasinModel", name := "writeRule", desc := "(I)I" } : Jvm.MethodName)) ∈ WALL := wl7 192 (by decide +kernel) rfl
theorem wd_1680 : (Jvm.Cond.instanceMethod ({ cls := "StormBasinModel", name := "writeRule", desc := "(I)I" } : Jvm.MethodName)) ∈ WALL := wl7 193 (by decide +kernel) rfl
theorem wd_1681 : (Jvm.Cond.selects "StormBasinModel" ({ cls := "StormBasinModel", name := "writeRule", desc := "(I)I" } : Jvm.MethodName) ({ cls := "StormBasinModel", name := "writeRule", desc := "(I)I" } : Jvm.MethodName)) ∈ WALL := wl7 194 (by decide +kernel) rfl
theorem wd_1682 : (Jvm.Cond.code ({ cls := "StormBasinModel", name := "writeRule", desc := "(I)I" } : Jvm.MethodName) prog_8_method_69_code (2 : Nat) (Option.some Jvm.ClassFile.FieldType.int)) ∈ WALL := wl7 195 (by decide +kernel) rfl
theorem wd_1683 : (Jvm.Cond.methodLink "StormBasinModel" (214 : Nat) ({ cls := "StormBasinModel", name := "putsNumber", desc := "(I)V" } : Jvm.MethodName)) ∈ WALL := wl7 196 (by decide +kernel) rfl
theorem wd_1685 : (Jvm.Cond.instanceMethod ({ cls := "StormBasinModel", name := "putsNumber", desc := "(I)V" } : Jvm.MethodName)) ∈ WALL := wl7 198 (by decide +kernel) rfl
theorem wd_1686 : (Jvm.Cond.code ({ cls := "StormBasinModel", name := "putsNumber", desc := "(I)V" } : Jvm.MethodName) prog_8_method_68_code (2 : Nat) (Option.none : Option Jvm.ClassFile.FieldType)) ∈ WALL := wl7 199 (by decide +kernel) rfl
theorem wd_1687 : (Jvm.Cond.methodLink "StormBasinModel" (210 : Nat) ({ cls := "StormBasinModel", name := "puts", desc := "(C)V" } : Jvm.MethodName)) ∈ WALL := wl7 200 (by decide +kernel) rfl
theorem wd_1689 : (Jvm.Cond.instanceMethod ({ cls := "StormBasinModel", name := "puts", desc := "(C)V" } : Jvm.MethodName)) ∈ WALL := wl7 202 (by decide +kernel) rfl
theorem wd_1690 : (Jvm.Cond.code ({ cls := "StormBasinModel", name := "puts", desc := "(C)V" } : Jvm.MethodName) prog_8_method_67_code (2 : Nat) (Option.none : Option Jvm.ClassFile.FieldType)) ∈ WALL := wl7 203 (by decide +kernel) rfl
theorem wd_1691 : (Jvm.Cond.methodLink "StormBasinLaw" (279 : Nat) ({ cls := "StormBasinModel", name := "lineAt", desc := "(I)C" } : Jvm.MethodName)) ∈ WALL := wl7 204 (by decide +kernel) rfl
theorem wd_1692 : (Jvm.Cond.instanceMethod ({ cls := "StormBasinModel", name := "lineAt", desc := "(I)C" } : Jvm.MethodName)) ∈ WALL := wl7 205 (by decide +kernel) rfl
theorem wd_1693 : (Jvm.Cond.selects "StormBasinModel" ({ cls := "StormBasinModel", name := "lineAt", desc := "(I)C" } : Jvm.MethodName) ({ cls := "StormBasinModel", name := "lineAt", desc := "(I)C" } : Jvm.MethodName)) ∈ WALL := wl7 206 (by decide +kernel) rfl
theorem wd_1694 : (Jvm.Cond.code ({ cls := "StormBasinModel", name := "lineAt", desc := "(I)C" } : Jvm.MethodName) prog_8_method_70_code (2 : Nat) (Option.some Jvm.ClassFile.FieldType.char)) ∈ WALL := wl7 207 (by decide +kernel) rfl
theorem wd_1695 : (Jvm.Cond.arrayClass Jvm.ClassFile.FieldType.long) ∈ WALL := wl7 208 (by decide +kernel) rfl
theorem wd_1696 : (Jvm.Cond.arrayClass Jvm.ClassFile.FieldType.double) ∈ WALL := wl7 209 (by decide +kernel) rfl
theorem wd_1697 : (Jvm.Cond.sameMethod "java/lang/Throwable" "java/lang/Throwable" "fillInStackTrace" "(I)Ljava/lang/Throwable;") ∈ WALL := wl7 210 (by decide +kernel) rfl
theorem wd_1698 : (Jvm.Cond.sameMethod "java/lang/AbstractStringBuilder" "java/lang/AbstractStringBuilder" "setLength" "(I)V") ∈ WALL := wl7 211 (by decide +kernel) rfl
theorem wd_1699 : (Jvm.Cond.sameMethod "java/lang/AbstractStringBuilder" "java/lang/AbstractStringBuilder" "append" "(Ljava/lang/String;)Ljava/lang/AbstractStringBuilder;") ∈ WALL := wl7 212 (by decide +kernel) rfl
theorem wd_1700 : (Jvm.Cond.sameMethod "java/lang/AbstractStringBuilder" "java/lang/AbstractStringBuilder" "appendNull" "()Ljava/lang/AbstractStringBuilder;") ∈ WALL := wl7 213 (by decide +kernel) rfl
theorem wd_1701 : (Jvm.Cond.sameMethod "java/lang/AbstractStringBuilder" "java/lang/AbstractStringBuilder" "ensureCapacityInternal" "(I)V") ∈ WALL := wl7 214 (by decide +kernel) rfl
theorem wd_1702 : (Jvm.Cond.sameMethod "java/lang/AbstractStringBuilder" "java/lang/AbstractStringBuilder" "newCapacity" "(I)I") ∈ WALL := wl7 215 (by decide +kernel) rfl
theorem wd_1703 : (Jvm.Cond.sameMethod "java/lang/AbstractStringBuilder" "java/lang/AbstractStringBuilder" "putStringAt" "(ILjava/lang/String;)V") ∈ WALL := wl7 216 (by decide +kernel) rfl
theorem wd_1704 : (Jvm.Cond.sameMethod "java/lang/AbstractStringBuilder" "java/lang/AbstractStringBuilder" "inflateIfNeededFor" "(Ljava/lang/String;)V") ∈ WALL := wl7 217 (by decide +kernel) rfl
theorem wd_1705 : (Jvm.Cond.sameMethod "java/lang/AbstractStringBuilder" "java/lang/AbstractStringBuilder" "inflate" "()V") ∈ WALL := wl7 218 (by decide +kernel) rfl
theorem wd_1706 : (Jvm.Cond.sameMethod "java/lang/AbstractStringBuilder" "java/lang/AbstractStringBuilder" "append" "(I)Ljava/lang/AbstractStringBuilder;") ∈ WALL := wl7 219 (by decide +kernel) rfl
theorem wd_1707 : (Jvm.Cond.sameMethod "java/lang/AbstractStringBuilder" "java/lang/AbstractStringBuilder" "append" "(C)Ljava/lang/AbstractStringBuilder;") ∈ WALL := wl7 220 (by decide +kernel) rfl
theorem wd_1708 : (Jvm.Cond.selects "java/lang/StringBuilder" ({ cls := "java/lang/StringBuilder", name := "length", desc := "()I" } : Jvm.MethodName) ({ cls := "java/lang/StringBuilder", name := "length", desc := "()I" } : Jvm.MethodName)) ∈ WALL := wl7 221 (by decide +kernel) rfl
theorem wd_1709 : (Jvm.Cond.sameMethod "java/lang/AbstractStringBuilder" "java/lang/AbstractStringBuilder" "charAt" "(I)C") ∈ WALL := wl7 222 (by decide +kernel) rfl
theorem wd_1731 : (Jvm.Cond.sameMethod "[Ljava/lang/Object;" "java/lang/Object" "getClass" "()Ljava/lang/Class;") ∈ WALL := wl8 4 (by decide +kernel) rfl
theorem wd_1732 : (Jvm.Cond.selects "[Ljava/lang/Object;" ({ cls := "java/lang/Object", name := "getClass", desc := "()Ljava/lang/Class;" } : Jvm.MethodName) ({ cls := "java/lang/Object", name := "getClass", desc := "()Ljava/lang/Class;" } : Jvm.MethodName)) ∈ WALL := wl8 5 (by decide +kernel) rfl
set_option maxRecDepth 100000 in
theorem us_J0 : ∀ w ∈ u_ws RJ0 TJ0 4, w ∈ WALL := List.forall_mem_cons.mpr ⟨wd_404, List.forall_mem_cons.mpr ⟨wd_406, List.forall_mem_cons.mpr ⟨wd_1220, List.forall_mem_cons.mpr ⟨wd_1222, fun _ h => absurd h List.not_mem_nil⟩⟩⟩⟩
set_option maxRecDepth 100000 in
theorem us_J4 : ∀ w ∈ u_ws RJ4 TJ4 4, w ∈ WALL := List.forall_mem_cons.mpr ⟨wd_163, List.forall_mem_cons.mpr ⟨wd_165, List.forall_mem_cons.mpr ⟨wd_167, List.forall_mem_cons.mpr ⟨wd_169, fun _ h => absurd h List.not_mem_nil⟩⟩⟩⟩
set_option maxRecDepth 100000 in
theorem us_Jx00060 : ∀ w ∈ u_ws RJx00060 TJx00060 6, w ∈ WALL := List.forall_mem_cons.mpr ⟨wd_371, List.forall_mem_cons.mpr ⟨wd_373, List.forall_mem_cons.mpr ⟨wd_375, List.forall_mem_cons.mpr ⟨wd_377, List.forall_mem_cons.mpr ⟨wd_379, List.forall_mem_cons.mpr ⟨wd_381, fun _ h => absurd h List.not_mem_nil⟩⟩⟩⟩⟩⟩
set_option maxRecDepth 100000 in
theorem us_Jx7c733 : ∀ w ∈ u_ws RJx7c733 TJx7c733 6, w ∈ WALL := List.forall_mem_cons.mpr ⟨wd_1226, List.forall_mem_cons.mpr ⟨wd_1227, List.forall_mem_cons.mpr ⟨wd_1228, List.forall_mem_cons.mpr ⟨wd_1229, List.forall_mem_cons.mpr ⟨wd_1230, List.forall_mem_cons.mpr ⟨wd_1231, fun _ h => absurd h List.not_mem_nil⟩⟩⟩⟩⟩⟩
set_option maxRecDepth 100000 in
theorem us_Jx4a65c : ∀ w ∈ u_ws RJx4a65c TJx4a65c 3, w ∈ WALL := List.forall_mem_cons.mpr ⟨wd_113, List.forall_mem_cons.mpr ⟨wd_109, List.forall_mem_cons.mpr ⟨wd_111, fun _ h => absurd h List.not_mem_nil⟩⟩⟩
set_option maxRecDepth 100000 in
theorem us_X0 : ∀ w ∈ u_ws RX0 TX0 8, w ∈ WALL := List.forall_mem_cons.mpr ⟨wd_514, List.forall_mem_cons.mpr ⟨wd_516, List.forall_mem_cons.mpr ⟨wd_518, List.forall_mem_cons.mpr ⟨wd_520, List.forall_mem_cons.mpr ⟨wd_522, List.forall_mem_cons.mpr ⟨wd_524, List.forall_mem_cons.mpr ⟨wd_526, List.forall_mem_cons.mpr ⟨wd_528, fun _ h => absurd h List.not_mem_nil⟩⟩⟩⟩⟩⟩⟩⟩
set_option maxRecDepth 100000 in
theorem us_X1 : ∀ w ∈ u_ws RX1 TX1 7, w ∈ WALL := List.forall_mem_cons.mpr ⟨wd_853, List.forall_mem_cons.mpr ⟨wd_855, List.forall_mem_cons.mpr ⟨wd_857, List.forall_mem_cons.mpr ⟨wd_859, List.forall_mem_cons.mpr ⟨wd_861, List.forall_mem_cons.mpr ⟨wd_863, List.forall_mem_cons.mpr ⟨wd_865, fun _ h => absurd h List.not_mem_nil⟩⟩⟩⟩⟩⟩⟩
set_option maxRecDepth 100000 in
theorem us_X2 : ∀ w ∈ u_ws RX2 TX2 5, w ∈ WALL := List.forall_mem_cons.mpr ⟨wd_673, List.forall_mem_cons.mpr ⟨wd_675, List.forall_mem_cons.mpr ⟨wd_677, List.forall_mem_cons.mpr ⟨wd_679, List.forall_mem_cons.mpr ⟨wd_681, fun _ h => absurd h List.not_mem_nil⟩⟩⟩⟩⟩
set_option maxRecDepth 100000 in
theorem us_X3 : ∀ w ∈ u_ws RX3 TX3 5, w ∈ WALL := List.forall_mem_cons.mpr ⟨wd_490, List.forall_mem_cons.mpr ⟨wd_492, List.forall_mem_cons.mpr ⟨wd_494, List.forall_mem_cons.mpr ⟨wd_496, List.forall_mem_cons.mpr ⟨wd_498, fun _ h => absurd h List.not_mem_nil⟩⟩⟩⟩⟩
set_option maxRecDepth 100000 in
theorem us_X4 : ∀ w ∈ u_ws RX4 TX4 4, w ∈ WALL := List.forall_mem_cons.mpr ⟨wd_130, List.forall_mem_cons.mpr ⟨wd_132, List.forall_mem_cons.mpr ⟨wd_134, List.forall_mem_cons.mpr ⟨wd_136, fun _ h => absurd h List.not_mem_nil⟩⟩⟩⟩
set_option maxRecDepth 100000 in
theorem us_X5 : ∀ w ∈ u_ws RX5 TX5 9, w ∈ WALL := List.forall_mem_cons.mpr ⟨wd_182, List.forall_mem_cons.mpr ⟨wd_184, List.forall_mem_cons.mpr ⟨wd_186, List.forall_mem_cons.mpr ⟨wd_188, List.forall_mem_cons.mpr ⟨wd_190, List.forall_mem_cons.mpr ⟨wd_192, List.forall_mem_cons.mpr ⟨wd_194, List.forall_mem_cons.mpr ⟨wd_196, List.forall_mem_cons.mpr ⟨wd_198, fun _ h => absurd h List.not_mem_nil⟩⟩⟩⟩⟩⟩⟩⟩⟩
set_option maxRecDepth 100000 in
theorem us_X6 : ∀ w ∈ u_ws RX6 TX6 38, w ∈ WALL := List.forall_mem_cons.mpr ⟨wd_1343, List.forall_mem_cons.mpr ⟨wd_1345, List.forall_mem_cons.mpr ⟨wd_1347, List.forall_mem_cons.mpr ⟨wd_1349, List.forall_mem_cons.mpr ⟨wd_1351, List.forall_mem_cons.mpr ⟨wd_1353, List.forall_mem_cons.mpr ⟨wd_1355, List.forall_mem_cons.mpr ⟨wd_1357, List.forall_mem_cons.mpr ⟨wd_1359, List.forall_mem_cons.mpr ⟨wd_1361, List.forall_mem_cons.mpr ⟨wd_1363, List.forall_mem_cons.mpr ⟨wd_1365, List.forall_mem_cons.mpr ⟨wd_1367, List.forall_mem_cons.mpr ⟨wd_1369, List.forall_mem_cons.mpr ⟨wd_1371, List.forall_mem_cons.mpr ⟨wd_1373, List.forall_mem_cons.mpr ⟨wd_1375, List.forall_mem_cons.mpr ⟨wd_1377, List.forall_mem_cons.mpr ⟨wd_1379, List.forall_mem_cons.mpr ⟨wd_1381, List.forall_mem_cons.mpr ⟨wd_1383, List.forall_mem_cons.mpr ⟨wd_1385, List.forall_mem_cons.mpr ⟨wd_1387, List.forall_mem_cons.mpr ⟨wd_1389, List.forall_mem_cons.mpr ⟨wd_1391, List.forall_mem_cons.mpr ⟨wd_1393, List.forall_mem_cons.mpr ⟨wd_1395, List.forall_mem_cons.mpr ⟨wd_1397, List.forall_mem_cons.mpr ⟨wd_1399, List.forall_mem_cons.mpr ⟨wd_1401, List.forall_mem_cons.mpr ⟨wd_1403, List.forall_mem_cons.mpr ⟨wd_1405, List.forall_mem_cons.mpr ⟨wd_1407, List.forall_mem_cons.mpr ⟨wd_1409, List.forall_mem_cons.mpr ⟨wd_1411, List.forall_mem_cons.mpr ⟨wd_1413, List.forall_mem_cons.mpr ⟨wd_1415, List.forall_mem_cons.mpr ⟨wd_1417, fun _ h => absurd h List.not_mem_nil⟩⟩⟩⟩⟩⟩⟩⟩⟩⟩⟩⟩⟩⟩⟩⟩⟩⟩⟩⟩⟩⟩⟩⟩⟩⟩⟩⟩⟩⟩⟩⟩⟩⟩⟩⟩⟩⟩
theorem fd_X0_15 : FdZ RX0 15 5 1 .int true := ⟨RX0, TX0, 8, tyX0, "StormBasin$Basin", rfl, by decide, us_X0, wd_503, .inl rfl, tyX0_ok, nmX0, rfl, rfl⟩
theorem fd_X0_18 : FdZ RX0 18 5 2 .int true := ⟨RX0, TX0, 8, tyX0, "StormBasin$Basin", rfl, by decide, us_X0, wd_504, .inl rfl, tyX0_ok, nmX0, rfl, rfl⟩
theorem fd_X0_21 : FdZ RX0 21 5 3 .int true := ⟨RX0, TX0, 8, tyX0, "StormBasin$Basin", rfl, by decide, us_X0, wd_506, .inl rfl, tyX0_ok, nmX0, rfl, rfl⟩
theorem fd_X0_29 : FdZ RX0 29 5 4 (.object "StormBasin$Street") true := ⟨RX0, TX0, 8, tyX0, "StormBasin$Basin", rfl, by decide, us_X0, wd_508, .inl rfl, tyX0_ok, nmX0, rfl, rfl⟩
theorem fd_X0_33 : FdZ RX0 33 5 5 (.array .int) true := ⟨RX0, TX0, 8, tyX0, "StormBasin$Basin", rfl, by decide, us_X0, wd_510, .inl rfl, tyX0_ok, nmX0, rfl, rfl⟩
theorem fd_X0_9 : FdZ RX0 9 5 0 .int true := ⟨RX0, TX0, 8, tyX0, "StormBasin$Basin", rfl, by decide, us_X0, wd_501, .inl rfl, tyX0_ok, nmX0, rfl, rfl⟩
theorem fd_X1_15 : FdZ RX1 15 6 1 .int true := ⟨RX1, TX1, 7, tyX1, "StormBasin$House", rfl, by decide, us_X1, wd_844, .inl rfl, tyX1_ok, nmX1, rfl, rfl⟩
theorem fd_X1_19 : FdZ RX1 19 6 2 .int true := ⟨RX1, TX1, 7, tyX1, "StormBasin$House", rfl, by decide, us_X1, wd_845, .inl rfl, tyX1_ok, nmX1, rfl, rfl⟩
theorem fd_X1_22 : FdZ RX1 22 6 3 .int true := ⟨RX1, TX1, 7, tyX1, "StormBasin$House", rfl, by decide, us_X1, wd_846, .inl rfl, tyX1_ok, nmX1, rfl, rfl⟩
theorem fd_X1_25 : FdZ RX1 25 6 4 (.array .boolean) true := ⟨RX1, TX1, 7, tyX1, "StormBasin$House", rfl, by decide, us_X1, wd_847, .inl rfl, tyX1_ok, nmX1, rfl, rfl⟩
theorem fd_X1_29 : FdZ RX1 29 8 3 (.array .int) true := ⟨RX3, TX3, 5, tyX3, "StormBasin$Street", rfl, by decide, us_X3, wd_486, .inl rfl, tyX3_ok, nmX3, rfl, rfl⟩
theorem fd_X1_47 : FdZ RX1 47 6 6 .int false := ⟨RX1, TX1, 7, tyX1, "StormBasin$House", rfl, by decide, us_X1, wd_851, .inl rfl, tyX1_ok, nmX1, rfl, rfl⟩
theorem fd_X1_55 : FdZ RX1 55 6 5 .int false := ⟨RX1, TX1, 7, tyX1, "StormBasin$House", rfl, by decide, us_X1, wd_849, .inl rfl, tyX1_ok, nmX1, rfl, rfl⟩
theorem fd_X1_9 : FdZ RX1 9 6 0 (.object "StormBasin$Street") true := ⟨RX1, TX1, 7, tyX1, "StormBasin$House", rfl, by decide, us_X1, wd_843, .inl rfl, tyX1_ok, nmX1, rfl, rfl⟩
theorem fd_X2_13 : FdZ RX2 13 7 1 .int true := ⟨RX2, TX2, 5, tyX2, "StormBasin$Rule", rfl, by decide, us_X2, wd_665, .inl rfl, tyX2_ok, nmX2, rfl, rfl⟩
theorem fd_X2_16 : FdZ RX2 16 7 2 .boolean true := ⟨RX2, TX2, 5, tyX2, "StormBasin$Rule", rfl, by decide, us_X2, wd_667, .inl rfl, tyX2_ok, nmX2, rfl, rfl⟩
theorem fd_X2_20 : FdZ RX2 20 7 3 .int true := ⟨RX2, TX2, 5, tyX2, "StormBasin$Rule", rfl, by decide, us_X2, wd_669, .inl rfl, tyX2_ok, nmX2, rfl, rfl⟩
theorem fd_X2_23 : FdZ RX2 23 7 4 .int true := ⟨RX2, TX2, 5, tyX2, "StormBasin$Rule", rfl, by decide, us_X2, wd_671, .inl rfl, tyX2_ok, nmX2, rfl, rfl⟩
theorem fd_X2_7 : FdZ RX2 7 7 0 .int true := ⟨RX2, TX2, 5, tyX2, "StormBasin$Rule", rfl, by decide, us_X2, wd_663, .inl rfl, tyX2_ok, nmX2, rfl, rfl⟩
theorem fd_X3_15 : FdZ RX3 15 8 4 .int false := ⟨RX3, TX3, 5, tyX3, "StormBasin$Street", rfl, by decide, us_X3, wd_488, .inl rfl, tyX3_ok, nmX3, rfl, rfl⟩
theorem fd_X3_19 : FdZ RX3 19 8 1 (.array .int) true := ⟨RX3, TX3, 5, tyX3, "StormBasin$Street", rfl, by decide, us_X3, wd_483, .inl rfl, tyX3_ok, nmX3, rfl, rfl⟩
theorem fd_X3_22 : FdZ RX3 22 8 2 (.array .int) true := ⟨RX3, TX3, 5, tyX3, "StormBasin$Street", rfl, by decide, us_X3, wd_484, .inl rfl, tyX3_ok, nmX3, rfl, rfl⟩
theorem fd_X3_25 : FdZ RX3 25 8 3 (.array .int) true := ⟨RX3, TX3, 5, tyX3, "StormBasin$Street", rfl, by decide, us_X3, wd_485, .inl rfl, tyX3_ok, nmX3, rfl, rfl⟩
theorem fd_X3_9 : FdZ RX3 9 8 0 (.array .int) true := ⟨RX3, TX3, 5, tyX3, "StormBasin$Street", rfl, by decide, us_X3, wd_482, .inl rfl, tyX3_ok, nmX3, rfl, rfl⟩
theorem fd_X4_15 : FdZ RX4 15 9 1 (.array .int) true := ⟨RX4, TX4, 4, tyX4, "StormBasin$Water", rfl, by decide, us_X4, wd_124, .inl rfl, tyX4_ok, nmX4, rfl, rfl⟩
theorem fd_X4_18 : FdZ RX4 18 9 2 (.array .int) true := ⟨RX4, TX4, 4, tyX4, "StormBasin$Water", rfl, by decide, us_X4, wd_126, .inl rfl, tyX4_ok, nmX4, rfl, rfl⟩
theorem fd_X4_27 : FdZ RX4 27 9 3 .int false := ⟨RX4, TX4, 4, tyX4, "StormBasin$Water", rfl, by decide, us_X4, wd_128, .inl rfl, tyX4_ok, nmX4, rfl, rfl⟩
theorem fd_X4_9 : FdZ RX4 9 9 0 (.array .int) true := ⟨RX4, TX4, 4, tyX4, "StormBasin$Water", rfl, by decide, us_X4, wd_122, .inl rfl, tyX4_ok, nmX4, rfl, rfl⟩
theorem fd_X5_10 : FdZ RX5 10 10 0 (.object "java/util/ArrayList") true := ⟨RX5, TX5, 9, tyX5, "StormBasin", rfl, by decide, us_X5, wd_173, .inl rfl, tyX5_ok, nmX5, rfl, rfl⟩
theorem fd_X5_105 : FdZ RX5 105 5 6 .int false := ⟨RX0, TX0, 8, tyX0, "StormBasin$Basin", rfl, by decide, us_X0, wd_512, .inl rfl, tyX0_ok, nmX0, rfl, rfl⟩
theorem fd_X5_140 : FdZ RX5 140 5 7 .int false := ⟨RX0, TX0, 8, tyX0, "StormBasin$Basin", rfl, by decide, us_X0, wd_513, .inl rfl, tyX0_ok, nmX0, rfl, rfl⟩
theorem fd_X5_151 : FdZ RX5 151 10 6 .int false := ⟨RX5, TX5, 9, tyX5, "StormBasin", rfl, by decide, us_X5, wd_179, .inl rfl, tyX5_ok, nmX5, rfl, rfl⟩
theorem fd_X5_159 : FdZ RX5 159 9 0 (.array .int) true := ⟨RX4, TX4, 4, tyX4, "StormBasin$Water", rfl, by decide, us_X4, wd_123, .inl rfl, tyX4_ok, nmX4, rfl, rfl⟩
theorem fd_X5_16 : FdZ RX5 16 10 1 (.object "java/util/ArrayList") true := ⟨RX5, TX5, 9, tyX5, "StormBasin", rfl, by decide, us_X5, wd_174, .inl rfl, tyX5_ok, nmX5, rfl, rfl⟩
theorem fd_X5_166 : FdZ RX5 166 9 1 (.array .int) true := ⟨RX4, TX4, 4, tyX4, "StormBasin$Water", rfl, by decide, us_X4, wd_125, .inl rfl, tyX4_ok, nmX4, rfl, rfl⟩
theorem fd_X5_169 : FdZ RX5 169 10 7 .int false := ⟨RX5, TX5, 9, tyX5, "StormBasin", rfl, by decide, us_X5, wd_180, .inl rfl, tyX5_ok, nmX5, rfl, rfl⟩
theorem fd_X5_172 : FdZ RX5 172 9 3 .int false := ⟨RX4, TX4, 4, tyX4, "StormBasin$Water", rfl, by decide, us_X4, wd_129, .inl rfl, tyX4_ok, nmX4, rfl, rfl⟩
theorem fd_X5_19 : FdZ RX5 19 10 2 (.object "java/util/ArrayList") true := ⟨RX5, TX5, 9, tyX5, "StormBasin", rfl, by decide, us_X5, wd_175, .inl rfl, tyX5_ok, nmX5, rfl, rfl⟩
theorem fd_X5_192 : FdZ RX5 192 8 3 (.array .int) true := ⟨RX3, TX3, 5, tyX3, "StormBasin$Street", rfl, by decide, us_X3, wd_487, .inl rfl, tyX3_ok, nmX3, rfl, rfl⟩
theorem fd_X5_203 : FdZ RX5 203 10 8 .int false := ⟨RX5, TX5, 9, tyX5, "StormBasin", rfl, by decide, us_X5, wd_181, .inl rfl, tyX5_ok, nmX5, rfl, rfl⟩
theorem fd_X5_231 : FdZ RX5 231 6 4 (.array .boolean) true := ⟨RX1, TX1, 7, tyX1, "StormBasin$House", rfl, by decide, us_X1, wd_848, .inl rfl, tyX1_ok, nmX1, rfl, rfl⟩
theorem fd_X5_248 : FdZ RX5 248 6 5 .int false := ⟨RX1, TX1, 7, tyX1, "StormBasin$House", rfl, by decide, us_X1, wd_850, .inl rfl, tyX1_ok, nmX1, rfl, rfl⟩
theorem fd_X5_25 : FdZ RX5 25 10 3 (.object "StormBasin$Water") true := ⟨RX5, TX5, 9, tyX5, "StormBasin", rfl, by decide, us_X5, wd_176, .inl rfl, tyX5_ok, nmX5, rfl, rfl⟩
theorem fd_X5_251 : FdZ RX5 251 6 6 .int false := ⟨RX1, TX1, 7, tyX1, "StormBasin$House", rfl, by decide, us_X1, wd_852, .inl rfl, tyX1_ok, nmX1, rfl, rfl⟩
theorem fd_X5_269 : FdZ RX5 269 7 0 .int true := ⟨RX2, TX2, 5, tyX2, "StormBasin$Rule", rfl, by decide, us_X2, wd_664, .inl rfl, tyX2_ok, nmX2, rfl, rfl⟩
theorem fd_X5_278 : FdZ RX5 278 7 1 .int true := ⟨RX2, TX2, 5, tyX2, "StormBasin$Rule", rfl, by decide, us_X2, wd_666, .inl rfl, tyX2_ok, nmX2, rfl, rfl⟩
theorem fd_X5_281 : FdZ RX5 281 7 2 .boolean true := ⟨RX2, TX2, 5, tyX2, "StormBasin$Rule", rfl, by decide, us_X2, wd_668, .inl rfl, tyX2_ok, nmX2, rfl, rfl⟩
theorem fd_X5_285 : FdZ RX5 285 7 3 .int true := ⟨RX2, TX2, 5, tyX2, "StormBasin$Rule", rfl, by decide, us_X2, wd_670, .inl rfl, tyX2_ok, nmX2, rfl, rfl⟩
theorem fd_X5_288 : FdZ RX5 288 7 4 .int true := ⟨RX2, TX2, 5, tyX2, "StormBasin$Rule", rfl, by decide, us_X2, wd_672, .inl rfl, tyX2_ok, nmX2, rfl, rfl⟩
theorem fd_X5_29 : FdZ RX5 29 10 4 (.object "StormBasin$Water") true := ⟨RX5, TX5, 9, tyX5, "StormBasin", rfl, by decide, us_X5, wd_177, .inl rfl, tyX5_ok, nmX5, rfl, rfl⟩
theorem fd_X5_316 : FdZ RX5 316 5 5 (.array .int) true := ⟨RX0, TX0, 8, tyX0, "StormBasin$Basin", rfl, by decide, us_X0, wd_511, .inl rfl, tyX0_ok, nmX0, rfl, rfl⟩
theorem fd_X5_330 : FdZ RX5 330 9 2 (.array .int) true := ⟨RX4, TX4, 4, tyX4, "StormBasin$Water", rfl, by decide, us_X4, wd_127, .inl rfl, tyX4_ok, nmX4, rfl, rfl⟩
theorem fd_X5_333 : FdZ RX5 333 5 2 .int true := ⟨RX0, TX0, 8, tyX0, "StormBasin$Basin", rfl, by decide, us_X0, wd_505, .inl rfl, tyX0_ok, nmX0, rfl, rfl⟩
theorem fd_X5_341 : FdZ RX5 341 5 3 .int true := ⟨RX0, TX0, 8, tyX0, "StormBasin$Basin", rfl, by decide, us_X0, wd_507, .inl rfl, tyX0_ok, nmX0, rfl, rfl⟩
theorem fd_X5_35 : FdZ RX5 35 10 5 (.object "java/lang/StringBuilder") true := ⟨RX5, TX5, 9, tyX5, "StormBasin", rfl, by decide, us_X5, wd_178, .inl rfl, tyX5_ok, nmX5, rfl, rfl⟩
theorem fd_X5_351 : FdZ RX5 351 5 0 .int true := ⟨RX0, TX0, 8, tyX0, "StormBasin$Basin", rfl, by decide, us_X0, wd_502, .inl rfl, tyX0_ok, nmX0, rfl, rfl⟩
theorem fd_X5_84 : FdZ RX5 84 5 4 (.object "StormBasin$Street") true := ⟨RX0, TX0, 8, tyX0, "StormBasin$Basin", rfl, by decide, us_X0, wd_509, .inl rfl, tyX0_ok, nmX0, rfl, rfl⟩
theorem fd_X5_88 : FdZ RX5 88 8 4 .int false := ⟨RX3, TX3, 5, tyX3, "StormBasin$Street", rfl, by decide, us_X3, wd_489, .inl rfl, tyX3_ok, nmX3, rfl, rfl⟩
theorem fd_X6_100 : FdZ RX6 100 11 0 .int false := ⟨RX6, TX6, 38, tyX6, "StormBasinModel", rfl, by decide, us_X6, wd_1305, .inl rfl, tyX6_ok, nmX6, rfl, rfl⟩
theorem fd_X6_111 : FdZ RX6 111 11 14 .int false := ⟨RX6, TX6, 38, tyX6, "StormBasinModel", rfl, by decide, us_X6, wd_1319, .inl rfl, tyX6_ok, nmX6, rfl, rfl⟩
theorem fd_X6_117 : FdZ RX6 117 11 25 .int false := ⟨RX6, TX6, 38, tyX6, "StormBasinModel", rfl, by decide, us_X6, wd_1330, .inl rfl, tyX6_ok, nmX6, rfl, rfl⟩
theorem fd_X6_120 : FdZ RX6 120 11 20 .int false := ⟨RX6, TX6, 38, tyX6, "StormBasinModel", rfl, by decide, us_X6, wd_1325, .inl rfl, tyX6_ok, nmX6, rfl, rfl⟩
theorem fd_X6_13 : FdZ RX6 13 11 2 (.array .int) true := ⟨RX6, TX6, 38, tyX6, "StormBasinModel", rfl, by decide, us_X6, wd_1307, .inl rfl, tyX6_ok, nmX6, rfl, rfl⟩
theorem fd_X6_137 : FdZ RX6 137 11 34 .int false := ⟨RX6, TX6, 38, tyX6, "StormBasinModel", rfl, by decide, us_X6, wd_1339, .inl rfl, tyX6_ok, nmX6, rfl, rfl⟩
theorem fd_X6_148 : FdZ RX6 148 11 21 .int false := ⟨RX6, TX6, 38, tyX6, "StormBasinModel", rfl, by decide, us_X6, wd_1326, .inl rfl, tyX6_ok, nmX6, rfl, rfl⟩
theorem fd_X6_151 : FdZ RX6 151 11 22 .int false := ⟨RX6, TX6, 38, tyX6, "StormBasinModel", rfl, by decide, us_X6, wd_1327, .inl rfl, tyX6_ok, nmX6, rfl, rfl⟩
theorem fd_X6_16 : FdZ RX6 16 11 3 (.array .int) true := ⟨RX6, TX6, 38, tyX6, "StormBasinModel", rfl, by decide, us_X6, wd_1308, .inl rfl, tyX6_ok, nmX6, rfl, rfl⟩
theorem fd_X6_19 : FdZ RX6 19 11 4 (.array .int) true := ⟨RX6, TX6, 38, tyX6, "StormBasinModel", rfl, by decide, us_X6, wd_1309, .inl rfl, tyX6_ok, nmX6, rfl, rfl⟩
theorem fd_X6_194 : FdZ RX6 194 11 32 .int false := ⟨RX6, TX6, 38, tyX6, "StormBasinModel", rfl, by decide, us_X6, wd_1337, .inl rfl, tyX6_ok, nmX6, rfl, rfl⟩
theorem fd_X6_207 : FdZ RX6 207 11 36 .int false := ⟨RX6, TX6, 38, tyX6, "StormBasinModel", rfl, by decide, us_X6, wd_1341, .inl rfl, tyX6_ok, nmX6, rfl, rfl⟩
theorem fd_X6_22 : FdZ RX6 22 11 5 (.array .int) true := ⟨RX6, TX6, 38, tyX6, "StormBasinModel", rfl, by decide, us_X6, wd_1310, .inl rfl, tyX6_ok, nmX6, rfl, rfl⟩
theorem fd_X6_25 : FdZ RX6 25 11 6 (.array .int) true := ⟨RX6, TX6, 38, tyX6, "StormBasinModel", rfl, by decide, us_X6, wd_1311, .inl rfl, tyX6_ok, nmX6, rfl, rfl⟩
theorem fd_X6_28 : FdZ RX6 28 11 7 (.array .int) true := ⟨RX6, TX6, 38, tyX6, "StormBasinModel", rfl, by decide, us_X6, wd_1312, .inl rfl, tyX6_ok, nmX6, rfl, rfl⟩
theorem fd_X6_31 : FdZ RX6 31 11 8 (.array .int) true := ⟨RX6, TX6, 38, tyX6, "StormBasinModel", rfl, by decide, us_X6, wd_1313, .inl rfl, tyX6_ok, nmX6, rfl, rfl⟩
theorem fd_X6_34 : FdZ RX6 34 11 9 (.array .int) true := ⟨RX6, TX6, 38, tyX6, "StormBasinModel", rfl, by decide, us_X6, wd_1314, .inl rfl, tyX6_ok, nmX6, rfl, rfl⟩
theorem fd_X6_37 : FdZ RX6 37 11 10 (.array .int) true := ⟨RX6, TX6, 38, tyX6, "StormBasinModel", rfl, by decide, us_X6, wd_1315, .inl rfl, tyX6_ok, nmX6, rfl, rfl⟩
theorem fd_X6_40 : FdZ RX6 40 11 11 (.array .int) true := ⟨RX6, TX6, 38, tyX6, "StormBasinModel", rfl, by decide, us_X6, wd_1316, .inl rfl, tyX6_ok, nmX6, rfl, rfl⟩
theorem fd_X6_43 : FdZ RX6 43 11 12 (.array .int) true := ⟨RX6, TX6, 38, tyX6, "StormBasinModel", rfl, by decide, us_X6, wd_1317, .inl rfl, tyX6_ok, nmX6, rfl, rfl⟩
theorem fd_X6_46 : FdZ RX6 46 11 13 (.array .int) true := ⟨RX6, TX6, 38, tyX6, "StormBasinModel", rfl, by decide, us_X6, wd_1318, .inl rfl, tyX6_ok, nmX6, rfl, rfl⟩
theorem fd_X6_49 : FdZ RX6 49 11 15 (.array .int) true := ⟨RX6, TX6, 38, tyX6, "StormBasinModel", rfl, by decide, us_X6, wd_1320, .inl rfl, tyX6_ok, nmX6, rfl, rfl⟩
theorem fd_X6_52 : FdZ RX6 52 11 16 (.array .int) true := ⟨RX6, TX6, 38, tyX6, "StormBasinModel", rfl, by decide, us_X6, wd_1321, .inl rfl, tyX6_ok, nmX6, rfl, rfl⟩
theorem fd_X6_55 : FdZ RX6 55 11 17 (.array .boolean) true := ⟨RX6, TX6, 38, tyX6, "StormBasinModel", rfl, by decide, us_X6, wd_1322, .inl rfl, tyX6_ok, nmX6, rfl, rfl⟩
theorem fd_X6_59 : FdZ RX6 59 11 18 (.array .int) true := ⟨RX6, TX6, 38, tyX6, "StormBasinModel", rfl, by decide, us_X6, wd_1323, .inl rfl, tyX6_ok, nmX6, rfl, rfl⟩
theorem fd_X6_62 : FdZ RX6 62 11 19 (.array .int) true := ⟨RX6, TX6, 38, tyX6, "StormBasinModel", rfl, by decide, us_X6, wd_1324, .inl rfl, tyX6_ok, nmX6, rfl, rfl⟩
theorem fd_X6_65 : FdZ RX6 65 11 23 (.array .int) true := ⟨RX6, TX6, 38, tyX6, "StormBasinModel", rfl, by decide, us_X6, wd_1328, .inl rfl, tyX6_ok, nmX6, rfl, rfl⟩
theorem fd_X6_68 : FdZ RX6 68 11 24 (.array .int) true := ⟨RX6, TX6, 38, tyX6, "StormBasinModel", rfl, by decide, us_X6, wd_1329, .inl rfl, tyX6_ok, nmX6, rfl, rfl⟩
theorem fd_X6_7 : FdZ RX6 7 11 1 (.array .int) true := ⟨RX6, TX6, 38, tyX6, "StormBasinModel", rfl, by decide, us_X6, wd_1306, .inl rfl, tyX6_ok, nmX6, rfl, rfl⟩
theorem fd_X6_71 : FdZ RX6 71 11 26 (.array .int) true := ⟨RX6, TX6, 38, tyX6, "StormBasinModel", rfl, by decide, us_X6, wd_1331, .inl rfl, tyX6_ok, nmX6, rfl, rfl⟩
theorem fd_X6_74 : FdZ RX6 74 11 27 (.array .int) true := ⟨RX6, TX6, 38, tyX6, "StormBasinModel", rfl, by decide, us_X6, wd_1332, .inl rfl, tyX6_ok, nmX6, rfl, rfl⟩
theorem fd_X6_77 : FdZ RX6 77 11 28 (.array .int) true := ⟨RX6, TX6, 38, tyX6, "StormBasinModel", rfl, by decide, us_X6, wd_1333, .inl rfl, tyX6_ok, nmX6, rfl, rfl⟩
theorem fd_X6_80 : FdZ RX6 80 11 29 (.array .int) true := ⟨RX6, TX6, 38, tyX6, "StormBasinModel", rfl, by decide, us_X6, wd_1334, .inl rfl, tyX6_ok, nmX6, rfl, rfl⟩
theorem fd_X6_83 : FdZ RX6 83 11 30 (.array .int) true := ⟨RX6, TX6, 38, tyX6, "StormBasinModel", rfl, by decide, us_X6, wd_1335, .inl rfl, tyX6_ok, nmX6, rfl, rfl⟩
theorem fd_X6_86 : FdZ RX6 86 11 31 (.array .boolean) true := ⟨RX6, TX6, 38, tyX6, "StormBasinModel", rfl, by decide, us_X6, wd_1336, .inl rfl, tyX6_ok, nmX6, rfl, rfl⟩
theorem fd_X6_89 : FdZ RX6 89 11 33 .int false := ⟨RX6, TX6, 38, tyX6, "StormBasinModel", rfl, by decide, us_X6, wd_1338, .inl rfl, tyX6_ok, nmX6, rfl, rfl⟩
theorem fd_X6_93 : FdZ RX6 93 11 35 (.array .char) true := ⟨RX6, TX6, 38, tyX6, "StormBasinModel", rfl, by decide, us_X6, wd_1340, .inl rfl, tyX6_ok, nmX6, rfl, rfl⟩
theorem fd_X6_97 : FdZ RX6 97 11 37 .int false := ⟨RX6, TX6, 38, tyX6, "StormBasinModel", rfl, by decide, us_X6, wd_1342, .inl rfl, tyX6_ok, nmX6, rfl, rfl⟩
theorem fd_J5_15 : FdZ RJ5 15 1 0 (.array .byte) false := ⟨RJ4, TJ4, 4, tyJ4, "java/lang/AbstractStringBuilder", rfl, by decide, us_J4, wd_158, .inl rfl, tyJ4_ok, nmJ4, rfl, rfl⟩
theorem fd_J5_22 : FdZ RJ5 22 1 1 .byte false := ⟨RJ4, TJ4, 4, tyJ4, "java/lang/AbstractStringBuilder", rfl, by decide, us_J4, wd_159, .inl rfl, tyJ4_ok, nmJ4, rfl, rfl⟩
theorem fd_J5_73 : FdZ RJ5 73 1 2 .boolean false := ⟨RJ4, TJ4, 4, tyJ4, "java/lang/AbstractStringBuilder", rfl, by decide, us_J4, wd_160, .inl rfl, tyJ4_ok, nmJ4, rfl, rfl⟩
theorem fd_J5_79 : FdZ RJ5 79 1 3 .int false := ⟨RJ4, TJ4, 4, tyJ4, "java/lang/AbstractStringBuilder", rfl, by decide, us_J4, wd_162, .inl rfl, tyJ4_ok, nmJ4, rfl, rfl⟩
theorem fd_J0_1048 : FdZ RJ0 1048 1 2 .boolean false := ⟨RJ4, TJ4, 4, tyJ4, "java/lang/AbstractStringBuilder", rfl, by decide, us_J4, wd_161, .inl rfl, tyJ4_ok, nmJ4, rfl, rfl⟩
theorem fd_J0_15 : FdZ RJ0 15 0 1 .byte true := ⟨RJ0, TJ0, 4, tyJ0, "java/lang/String", rfl, by decide, us_J0, wd_1219, .inl rfl, tyJ0_ok, nmJ0, rfl, rfl⟩
theorem fd_J0_9 : FdZ RJ0 9 0 0 (.array .byte) true := ⟨RJ0, TJ0, 4, tyJ0, "java/lang/String", rfl, by decide, us_J0, wd_1218, .inl rfl, tyJ0_ok, nmJ0, rfl, rfl⟩
theorem fd_Jxc12de_7_Jx4a65c : FdZ RJxc12de 7 4 0 .int false := ⟨RJx4a65c, TJx4a65c, 3, tyJx4a65c, "java/util/AbstractList", rfl, by decide, us_Jx4a65c, wd_106, .inl rfl, tyJx4a65c_ok, nmJx4a65c, rfl, rfl⟩
theorem fd_Jx4a65c_48 : FdZ RJx4a65c 48 4 2 .int false := ⟨RJx4a65c, TJx4a65c, 3, tyJx4a65c, "java/util/ArrayList", rfl, by decide, us_Jx4a65c, wd_105, .inl rfl, tyJx4a65c_ok, nmJx4a65c, rfl, rfl⟩
theorem fd_Jx4a65c_63 : FdZ RJx4a65c 63 4 0 .int false := ⟨RJx4a65c, TJx4a65c, 3, tyJx4a65c, "java/util/ArrayList", rfl, by decide, us_Jx4a65c, wd_107, .inr wd_108, tyJx4a65c_ok, nmJx4a65c, rfl, rfl⟩
theorem fd_Jx4a65c_9 : FdZ RJx4a65c 9 4 1 (.array (.object "java/lang/Object")) false := ⟨RJx4a65c, TJx4a65c, 3, tyJx4a65c, "java/util/ArrayList", rfl, by decide, us_Jx4a65c, wd_104, .inl rfl, tyJx4a65c_ok, nmJx4a65c, rfl, rfl⟩
theorem cw_X0_26 : CwZ RX0 26 yX3_init cX3_init 2 none 1 := ⟨wd_478, wd_66, wd_480, ⟨by decide, by decide, by decide +kernel⟩⟩
theorem cw_X1_35 : CwZ RX1 35 yX3_isWet cX3_isWet 3 (some Jvm.ClassFile.FieldType.boolean) 2 := ⟨wd_885, wd_66, wd_324, ⟨by decide, by decide, by decide +kernel⟩⟩
theorem cw_X1_39 : CwZ RX1 39 yX3_depthOf cX3_depthOf 7 (some .int) 2 := ⟨wd_897, wd_66, wd_781, ⟨by decide, by decide, by decide +kernel⟩⟩
theorem cw_X1_43 : CwZ RX1 43 yX1_worthAt cX1_worthAt 2 (some .int) 1 := ⟨wd_927, wd_74, wd_896, ⟨by decide, by decide, by decide +kernel⟩⟩
theorem cw_X1_50 : CwZ RX1 50 yJ9_min_7cf53 cJ9_min_7cf53 2 (some .int) 2 := ⟨wd_928, wd_68, wd_299, ⟨by decide, by decide, by decide +kernel⟩⟩
theorem cw_X3_28 : CwZ RX3 28 yX3_volumeBefore cX3_volumeBefore 4 (some .int) 1 := ⟨wd_615, wd_66, wd_618, ⟨by decide, by decide, by decide +kernel⟩⟩
theorem cw_X3_32 : CwZ RX3 32 yX3_cellsAhead cX3_cellsAhead 5 (some .int) 2 := ⟨wd_619, wd_66, wd_622, ⟨by decide, by decide, by decide +kernel⟩⟩
theorem cw_X3_36 : CwZ RX3 36 yJ9_max_7cf53 cJ9_max_7cf53 2 (some .int) 2 := ⟨wd_623, wd_68, wd_552, ⟨by decide, by decide, by decide +kernel⟩⟩
theorem cw_X3_41 : CwZ RX3 41 yX3_isWet cX3_isWet 3 (some Jvm.ClassFile.FieldType.boolean) 2 := ⟨wd_321, wd_66, wd_324, ⟨by decide, by decide, by decide +kernel⟩⟩
theorem cw_X3_45 : CwZ RX3 45 yX3_cellsUpTo cX3_cellsUpTo 2 (some .int) 1 := ⟨wd_782, wd_66, wd_785, ⟨by decide, by decide, by decide +kernel⟩⟩
theorem cw_X3_48 : CwZ RX3 48 yJ7_fill_53178 cJ7_fill_53178 4 none 2 := ⟨wd_797, wd_69, wd_278, ⟨by decide, by decide, by decide +kernel⟩⟩
theorem cw_X3_54 : CwZ RX3 54 yX3_lowestCell cX3_lowestCell 3 (some .int) 0 := ⟨wd_798, wd_66, wd_801, ⟨by decide, by decide, by decide +kernel⟩⟩
theorem cw_X4_21 : CwZ RX4 21 yJ7_fill_53178 cJ7_fill_53178 4 none 2 := ⟨wd_276, wd_69, wd_278, ⟨by decide, by decide, by decide +kernel⟩⟩
theorem cw_X4_31 : CwZ RX4 31 yJ9_min_7cf53 cJ9_min_7cf53 2 (some .int) 2 := ⟨wd_312, wd_68, wd_299, ⟨by decide, by decide, by decide +kernel⟩⟩
theorem cw_X5_102 : CwZ RX5 102 yX5_requireOpening cX5_requireOpening 1 none 1 := ⟨wd_645, wd_48, wd_647, ⟨by decide, by decide, by decide +kernel⟩⟩
theorem cw_X5_108 : CwZ RX5 108 yX5_requireBasin cX5_requireBasin 2 none 1 := ⟨wd_605, wd_48, wd_608, ⟨by decide, by decide, by decide +kernel⟩⟩
theorem cw_X5_117 : CwZ RX5 117 yX2_init cX2_init 6 none 5 := ⟨wd_659, wd_73, wd_661, ⟨by decide, by decide, by decide +kernel⟩⟩
theorem cw_X5_120 : CwZ RX5 120 yX5_requireRule cX5_requireRule 2 none 1 := ⟨wd_691, wd_48, wd_694, ⟨by decide, by decide, by decide +kernel⟩⟩
theorem cw_X5_123 : CwZ RX5 123 yJx4a65c_remove_915e3 cJx4a65c_remove_915e3 4 (some (Jvm.ClassFile.FieldType.object "java/lang/Object")) 1 := ⟨wd_696, wd_51, wd_699, ⟨by decide, by decide, by decide +kernel⟩⟩
theorem cw_X5_127 : CwZ RX5 127 yJx4a65c_get_915e3 cJx4a65c_get_915e3 2 (some (Jvm.ClassFile.FieldType.object "java/lang/Object")) 1 := ⟨wd_249, wd_51, wd_252, ⟨by decide, by decide, by decide +kernel⟩⟩
theorem cw_X5_130 : CwZ RX5 130 yX5_holdsBy cX5_holdsBy 3 (some Jvm.ClassFile.FieldType.boolean) 2 := ⟨wd_289, wd_48, wd_292, ⟨by decide, by decide, by decide +kernel⟩⟩
theorem cw_X5_134 : CwZ RX5 134 yX5_openingBy cX5_openingBy 5 (some .int) 2 := ⟨wd_284, wd_48, wd_287, ⟨by decide, by decide, by decide +kernel⟩⟩
theorem cw_X5_145 : CwZ RX5 145 yJx4a65c_isEmpty_aae02 cJx4a65c_isEmpty_aae02 1 (some Jvm.ClassFile.FieldType.boolean) 0 := ⟨wd_735, wd_51, wd_738, ⟨by decide, by decide, by decide +kernel⟩⟩
theorem cw_X5_156 : CwZ RX5 156 yX5_passOneHour cX5_passOneHour 4 none 0 := ⟨wd_741, wd_48, wd_744, ⟨by decide, by decide, by decide +kernel⟩⟩
theorem cw_X5_163 : CwZ RX5 163 yX5_levelBy cX5_levelBy 4 (some .int) 2 := ⟨wd_293, wd_48, wd_296, ⟨by decide, by decide, by decide +kernel⟩⟩
theorem cw_X5_175 : CwZ RX5 175 yX4_held cX4_held 3 (some .int) 0 := ⟨wd_229, wd_52, wd_232, ⟨by decide, by decide, by decide +kernel⟩⟩
theorem cw_X5_178 : CwZ RX5 178 yX5_streetWith cX5_streetWith 4 (some (Jvm.ClassFile.FieldType.object "StormBasin$Street")) 2 := ⟨wd_773, wd_48, wd_776, ⟨by decide, by decide, by decide +kernel⟩⟩
theorem cw_X5_182 : CwZ RX5 182 yX3_depthOf cX3_depthOf 7 (some .int) 2 := ⟨wd_778, wd_66, wd_781, ⟨by decide, by decide, by decide +kernel⟩⟩
theorem cw_X5_186 : CwZ RX5 186 yX3_depthPoured cX3_depthPoured 4 (some .int) 2 := ⟨wd_793, wd_66, wd_796, ⟨by decide, by decide, by decide +kernel⟩⟩
theorem cw_X5_189 : CwZ RX5 189 yX5_requireHour cX5_requireHour 2 none 1 := ⟨wd_809, wd_48, wd_812, ⟨by decide, by decide, by decide +kernel⟩⟩
theorem cw_X5_195 : CwZ RX5 195 yX3_countWet cX3_countWet 4 (some .int) 1 := ⟨wd_317, wd_66, wd_320, ⟨by decide, by decide, by decide +kernel⟩⟩
theorem cw_X5_199 : CwZ RX5 199 yX3_isWet cX3_isWet 3 (some Jvm.ClassFile.FieldType.boolean) 2 := ⟨wd_828, wd_66, wd_324, ⟨by decide, by decide, by decide +kernel⟩⟩
theorem cw_X5_212 : CwZ RX5 212 yX1_init cX1_init 5 none 4 := ⟨wd_839, wd_74, wd_841, ⟨by decide, by decide, by decide +kernel⟩⟩
theorem cw_X5_215 : CwZ RX5 215 yX5_houseOf cX5_houseOf 2 (some (Jvm.ClassFile.FieldType.object "StormBasin$House")) 1 := ⟨wd_876, wd_48, wd_879, ⟨by decide, by decide, by decide +kernel⟩⟩
theorem cw_X5_219 : CwZ RX5 219 yX1_isWetAt cX1_isWetAt 2 (some Jvm.ClassFile.FieldType.boolean) 1 := ⟨wd_881, wd_74, wd_884, ⟨by decide, by decide, by decide +kernel⟩⟩
theorem cw_X5_223 : CwZ RX5 223 yX1_worthAt cX1_worthAt 2 (some .int) 1 := ⟨wd_893, wd_74, wd_896, ⟨by decide, by decide, by decide +kernel⟩⟩
theorem cw_X5_237 : CwZ RX5 237 yX1_pay cX1_pay 3 (some .int) 1 := ⟨wd_923, wd_74, wd_926, ⟨by decide, by decide, by decide +kernel⟩⟩
theorem cw_X5_24 : CwZ RX5 24 yX4_init cX4_init 1 none 0 := ⟨wd_118, wd_52, wd_120, ⟨by decide, by decide, by decide +kernel⟩⟩
theorem cw_X5_240 : CwZ RX5 240 yX1_worstHour cX1_worstHour 6 (some .int) 1 := ⟨wd_937, wd_74, wd_940, ⟨by decide, by decide, by decide +kernel⟩⟩
theorem cw_X5_259 : CwZ RX5 259 yX5_paidTotal cX5_paidTotal 4 (some Jvm.ClassFile.FieldType.long) 0 := ⟨wd_995, wd_48, wd_248, ⟨by decide, by decide, by decide +kernel⟩⟩
theorem cw_X5_263 : CwZ RX5 263 yX5_tryPastRain cX5_tryPastRain 5 (some .int) 2 := ⟨wd_268, wd_48, wd_271, ⟨by decide, by decide, by decide +kernel⟩⟩
theorem cw_X5_266 : CwZ RX5 266 yJ4_setLength_d00df cJ4_setLength_d00df 2 none 1 := ⟨wd_1017, wd_54, wd_1020, ⟨by decide, by decide, by decide +kernel⟩⟩
theorem cw_X5_272 : CwZ RX5 272 yJ4_append_bf812 cJ4_append_bf812 2 (some (Jvm.ClassFile.FieldType.object "java/lang/StringBuilder")) 1 := ⟨wd_1259, wd_54, wd_1140, ⟨by decide, by decide, by decide +kernel⟩⟩
theorem cw_X5_275 : CwZ RX5 275 yJ4_append_cf468 cJ4_append_cf468 2 (some (Jvm.ClassFile.FieldType.object "java/lang/StringBuilder")) 1 := ⟨wd_1260, wd_54, wd_1263, ⟨by decide, by decide, by decide +kernel⟩⟩
theorem cw_X5_291 : CwZ RX5 291 yJ4_length_8abf5 cJ4_length_8abf5 1 (some .int) 0 := ⟨wd_1280, wd_54, wd_1184, ⟨by decide, by decide, by decide +kernel⟩⟩
theorem cw_X5_296 : CwZ RX5 296 yJ4_charAt_5068e cJ4_charAt_5068e 2 (some Jvm.ClassFile.FieldType.char) 1 := ⟨wd_1289, wd_54, wd_1292, ⟨by decide, by decide, by decide +kernel⟩⟩
theorem cw_X5_319 : CwZ RX5 319 yX5_moveWater cX5_moveWater 7 none 4 := ⟨wd_279, wd_48, wd_282, ⟨by decide, by decide, by decide +kernel⟩⟩
theorem cw_X5_323 : CwZ RX5 323 yX5_wetCellsBy cX5_wetCellsBy 4 (some .int) 1 := ⟨wd_313, wd_48, wd_316, ⟨by decide, by decide, by decide +kernel⟩⟩
theorem cw_X5_327 : CwZ RX5 327 yX4_clear cX4_clear 1 none 0 := ⟨wd_272, wd_52, wd_275, ⟨by decide, by decide, by decide +kernel⟩⟩
theorem cw_X5_336 : CwZ RX5 336 yJ9_min_7cf53 cJ9_min_7cf53 2 (some .int) 2 := ⟨wd_297, wd_68, wd_299, ⟨by decide, by decide, by decide +kernel⟩⟩
theorem cw_X5_34 : CwZ RX5 34 yJ4_init_da8c8 cJ4_init_da8c8 1 none 0 := ⟨wd_142, wd_54, wd_144, ⟨by decide, by decide, by decide +kernel⟩⟩
theorem cw_X5_344 : CwZ RX5 344 yX4_runThroughGate cX4_runThroughGate 3 none 2 := ⟨wd_300, wd_52, wd_303, ⟨by decide, by decide, by decide +kernel⟩⟩
theorem cw_X5_348 : CwZ RX5 348 yX4_settle cX4_settle 5 none 2 := ⟨wd_308, wd_52, wd_311, ⟨by decide, by decide, by decide +kernel⟩⟩
theorem cw_X5_39 : CwZ RX5 39 yJx4a65c_size_8abf5 cJx4a65c_size_8abf5 1 (some .int) 0 := ⟨wd_205, wd_51, wd_208, ⟨by decide, by decide, by decide +kernel⟩⟩
theorem cw_X5_43 : CwZ RX5 43 yX5_isWithin cX5_isWithin 3 (some Jvm.ClassFile.FieldType.boolean) 3 := ⟨wd_414, wd_48, wd_416, ⟨by decide, by decide, by decide +kernel⟩⟩
theorem cw_X5_59 : CwZ RX5 59 yX5_requireHeight cX5_requireHeight 1 none 1 := ⟨wd_446, wd_48, wd_448, ⟨by decide, by decide, by decide +kernel⟩⟩
theorem cw_X5_68 : CwZ RX5 68 yX5_requireBeforeFirstHour cX5_requireBeforeFirstHour 1 none 0 := ⟨wd_466, wd_48, wd_469, ⟨by decide, by decide, by decide +kernel⟩⟩
theorem cw_X5_73 : CwZ RX5 73 yX0_init cX0_init 6 none 5 := ⟨wd_472, wd_65, wd_474, ⟨by decide, by decide, by decide +kernel⟩⟩
theorem cw_X5_76 : CwZ RX5 76 yJx4a65c_add_9ea2d cJx4a65c_add_9ea2d 2 (some Jvm.ClassFile.FieldType.boolean) 1 := ⟨wd_531, wd_51, wd_534, ⟨by decide, by decide, by decide +kernel⟩⟩
theorem cw_X5_80 : CwZ RX5 80 yX5_basinOf cX5_basinOf 2 (some (Jvm.ClassFile.FieldType.object "StormBasin$Basin")) 1 := ⟨wd_601, wd_48, wd_604, ⟨by decide, by decide, by decide +kernel⟩⟩
theorem cw_X5_9 : CwZ RX5 9 yJx4a65c_init_da8c8 cJx4a65c_init_da8c8 1 none 0 := ⟨wd_92, wd_51, wd_94, ⟨by decide, by decide, by decide +kernel⟩⟩
theorem cw_X5_96 : CwZ RX5 96 yX3_append cX3_append 3 none 1 := ⟨wd_611, wd_66, wd_614, ⟨by decide, by decide, by decide +kernel⟩⟩
theorem cw_X5_99 : CwZ RX5 99 yX0_capacity cX0_capacity 1 (some .int) 0 := ⟨wd_304, wd_65, wd_307, ⟨by decide, by decide, by decide +kernel⟩⟩
theorem cw_L_102 : CwZ RL 102 yX5_paidTo cX5_paidTo 2 (some .int) 1 := ⟨wd_967, wd_48, wd_970, ⟨by decide, by decide, by decide +kernel⟩⟩
theorem cw_L_105 : CwZ RL 105 yX5_meanPayment cX5_meanPayment 3 (some Jvm.ClassFile.FieldType.double) 0 := ⟨wd_988, wd_48, wd_991, ⟨by decide, by decide, by decide +kernel⟩⟩
theorem cw_L_111 : CwZ RL 111 yX5_floodedWithOpening cX5_floodedWithOpening 3 (some .int) 2 := ⟨wd_999, wd_48, wd_1002, ⟨by decide, by decide, by decide +kernel⟩⟩
theorem cw_L_114 : CwZ RL 114 yX5_bestOpening cX5_bestOpening 6 (some .int) 1 := ⟨wd_1006, wd_48, wd_1009, ⟨by decide, by decide, by decide +kernel⟩⟩
theorem cw_L_117 : CwZ RL 117 yX5_writeRule cX5_writeRule 3 (some .int) 1 := ⟨wd_1013, wd_48, wd_1016, ⟨by decide, by decide, by decide +kernel⟩⟩
theorem cw_L_120 : CwZ RL 120 yX5_lineAt cX5_lineAt 2 (some Jvm.ClassFile.FieldType.char) 1 := ⟨wd_1284, wd_48, wd_1287, ⟨by decide, by decide, by decide +kernel⟩⟩
theorem cw_L_124 : CwZ RL 124 yX5_init cX5_init 1 none 0 := ⟨wd_84, wd_48, wd_86, ⟨by decide, by decide, by decide +kernel⟩⟩
theorem cw_L_127 : CwZ RL 127 yX6_init cX6_init 1 none 0 := ⟨wd_1301, wd_57, wd_1303, ⟨by decide, by decide, by decide +kernel⟩⟩
theorem cw_L_133 : CwZ RL 133 yX6_addBasin cX6_addBasin 8 (some .int) 5 := ⟨wd_1425, wd_57, wd_1428, ⟨by decide, by decide, by decide +kernel⟩⟩
theorem cw_L_134 : CwZ RL 134 yX6_thrown cX6_thrown 1 (some .int) 0 := ⟨wd_1421, wd_57, wd_1424, ⟨by decide, by decide, by decide +kernel⟩⟩
theorem cw_L_141 : CwZ RL 141 yX6_addCell cX6_addCell 3 (some .int) 2 := ⟨wd_1440, wd_57, wd_1443, ⟨by decide, by decide, by decide +kernel⟩⟩
theorem cw_L_142 : CwZ RL 142 yX5_basinCount cX5_basinCount 1 (some .int) 0 := ⟨wd_201, wd_48, wd_204, ⟨by decide, by decide, by decide +kernel⟩⟩
theorem cw_L_145 : CwZ RL 145 yX6_basinCount cX6_basinCount 1 (some .int) 0 := ⟨wd_1444, wd_57, wd_1447, ⟨by decide, by decide, by decide +kernel⟩⟩
theorem cw_L_149 : CwZ RL 149 yX6_cellCount cX6_cellCount 2 (some .int) 1 := ⟨wd_1452, wd_57, wd_1455, ⟨by decide, by decide, by decide +kernel⟩⟩
theorem cw_L_152 : CwZ RL 152 yX6_capacityOf cX6_capacityOf 2 (some .int) 1 := ⟨wd_1456, wd_57, wd_1459, ⟨by decide, by decide, by decide +kernel⟩⟩
theorem cw_L_155 : CwZ RL 155 yX6_setHand cX6_setHand 4 (some .int) 2 := ⟨wd_1464, wd_57, wd_1467, ⟨by decide, by decide, by decide +kernel⟩⟩
theorem cw_L_159 : CwZ RL 159 yX6_addRule cX6_addRule 6 (some .int) 5 := ⟨wd_1468, wd_57, wd_1471, ⟨by decide, by decide, by decide +kernel⟩⟩
theorem cw_L_162 : CwZ RL 162 yX6_removeRule cX6_removeRule 3 (some .int) 1 := ⟨wd_1472, wd_57, wd_1475, ⟨by decide, by decide, by decide +kernel⟩⟩
theorem cw_L_163 : CwZ RL 163 yX5_ruleCount cX5_ruleCount 1 (some .int) 0 := ⟨wd_209, wd_48, wd_212, ⟨by decide, by decide, by decide +kernel⟩⟩
theorem cw_L_166 : CwZ RL 166 yX6_ruleCount cX6_ruleCount 1 (some .int) 0 := ⟨wd_1480, wd_57, wd_1483, ⟨by decide, by decide, by decide +kernel⟩⟩
theorem cw_L_169 : CwZ RL 169 yX6_doesHold cX6_doesHold 2 (some Jvm.ClassFile.FieldType.boolean) 1 := ⟨wd_1484, wd_57, wd_1487, ⟨by decide, by decide, by decide +kernel⟩⟩
theorem cw_L_172 : CwZ RL 172 yX6_openingNow cX6_openingNow 2 (some .int) 1 := ⟨wd_1492, wd_57, wd_1495, ⟨by decide, by decide, by decide +kernel⟩⟩
theorem cw_L_175 : CwZ RL 175 yX6_setRain cX6_setRain 4 (some .int) 2 := ⟨wd_1500, wd_57, wd_1503, ⟨by decide, by decide, by decide +kernel⟩⟩
theorem cw_L_178 : CwZ RL 178 yX6_pass cX6_pass 4 (some .int) 1 := ⟨wd_1504, wd_57, wd_1507, ⟨by decide, by decide, by decide +kernel⟩⟩
theorem cw_L_179 : CwZ RL 179 yX5_clock cX5_clock 1 (some .int) 0 := ⟨wd_213, wd_48, wd_216, ⟨by decide, by decide, by decide +kernel⟩⟩
theorem cw_L_182 : CwZ RL 182 yX6_clock cX6_clock 1 (some .int) 0 := ⟨wd_1515, wd_57, wd_1518, ⟨by decide, by decide, by decide +kernel⟩⟩
theorem cw_L_185 : CwZ RL 185 yX6_volumeOf cX6_volumeOf 2 (some .int) 1 := ⟨wd_1519, wd_57, wd_1522, ⟨by decide, by decide, by decide +kernel⟩⟩
theorem cw_L_188 : CwZ RL 188 yX6_levelOf cX6_levelOf 2 (some .int) 1 := ⟨wd_1523, wd_57, wd_1526, ⟨by decide, by decide, by decide +kernel⟩⟩
theorem cw_L_19 : CwZ RL 19 yX5_addCell cX5_addCell 4 (some .int) 2 := ⟨wd_597, wd_48, wd_600, ⟨by decide, by decide, by decide +kernel⟩⟩
theorem cw_L_191 : CwZ RL 191 yX6_streetVolume cX6_streetVolume 2 (some .int) 1 := ⟨wd_1527, wd_57, wd_1530, ⟨by decide, by decide, by decide +kernel⟩⟩
theorem cw_L_192 : CwZ RL 192 yX5_rainTotal cX5_rainTotal 1 (some .int) 0 := ⟨wd_217, wd_48, wd_220, ⟨by decide, by decide, by decide +kernel⟩⟩
theorem cw_L_195 : CwZ RL 195 yX6_rainTotal cX6_rainTotal 1 (some .int) 0 := ⟨wd_1531, wd_57, wd_1534, ⟨by decide, by decide, by decide +kernel⟩⟩
theorem cw_L_196 : CwZ RL 196 yX5_riverTotal cX5_riverTotal 1 (some .int) 0 := ⟨wd_221, wd_48, wd_224, ⟨by decide, by decide, by decide +kernel⟩⟩
theorem cw_L_199 : CwZ RL 199 yX6_riverTotal cX6_riverTotal 1 (some .int) 0 := ⟨wd_1535, wd_57, wd_1538, ⟨by decide, by decide, by decide +kernel⟩⟩
theorem cw_L_200 : CwZ RL 200 yX5_heldTotal cX5_heldTotal 1 (some .int) 0 := ⟨wd_225, wd_48, wd_228, ⟨by decide, by decide, by decide +kernel⟩⟩
theorem cw_L_203 : CwZ RL 203 yX6_heldTotal cX6_heldTotal 1 (some .int) 0 := ⟨wd_1539, wd_57, wd_1542, ⟨by decide, by decide, by decide +kernel⟩⟩
theorem cw_L_204 : CwZ RL 204 yX5_isBalanced cX5_isBalanced 1 (some Jvm.ClassFile.FieldType.boolean) 0 := ⟨wd_233, wd_48, wd_236, ⟨by decide, by decide, by decide +kernel⟩⟩
theorem cw_L_208 : CwZ RL 208 yX6_isBalanced cX6_isBalanced 1 (some Jvm.ClassFile.FieldType.boolean) 0 := ⟨wd_1547, wd_57, wd_1550, ⟨by decide, by decide, by decide +kernel⟩⟩
theorem cw_L_211 : CwZ RL 211 yX6_depthAt cX6_depthAt 3 (some .int) 2 := ⟨wd_1551, wd_57, wd_1554, ⟨by decide, by decide, by decide +kernel⟩⟩
theorem cw_L_214 : CwZ RL 214 yX6_depthByPouring cX6_depthByPouring 3 (some .int) 2 := ⟨wd_1575, wd_57, wd_1578, ⟨by decide, by decide, by decide +kernel⟩⟩
theorem cw_L_218 : CwZ RL 218 yX6_depthThen cX6_depthThen 4 (some .int) 3 := ⟨wd_1579, wd_57, wd_1582, ⟨by decide, by decide, by decide +kernel⟩⟩
theorem cw_L_221 : CwZ RL 221 yX6_wetCells cX6_wetCells 2 (some .int) 1 := ⟨wd_1587, wd_57, wd_1590, ⟨by decide, by decide, by decide +kernel⟩⟩
theorem cw_L_224 : CwZ RL 224 yX6_wetHours cX6_wetHours 5 (some .int) 2 := ⟨wd_1595, wd_57, wd_1598, ⟨by decide, by decide, by decide +kernel⟩⟩
theorem cw_L_225 : CwZ RL 225 yX5_floodedSoFar cX5_floodedSoFar 1 (some .int) 0 := ⟨wd_237, wd_48, wd_240, ⟨by decide, by decide, by decide +kernel⟩⟩
theorem cw_L_228 : CwZ RL 228 yX6_floodedSoFar cX6_floodedSoFar 4 (some .int) 0 := ⟨wd_1599, wd_57, wd_1602, ⟨by decide, by decide, by decide +kernel⟩⟩
theorem cw_L_23 : CwZ RL 23 yX5_cellCount cX5_cellCount 2 (some .int) 1 := ⟨wd_627, wd_48, wd_630, ⟨by decide, by decide, by decide +kernel⟩⟩
theorem cw_L_232 : CwZ RL 232 yX6_addHouse cX6_addHouse 5 (some .int) 4 := ⟨wd_1603, wd_57, wd_1606, ⟨by decide, by decide, by decide +kernel⟩⟩
theorem cw_L_233 : CwZ RL 233 yX5_houseCount cX5_houseCount 1 (some .int) 0 := ⟨wd_241, wd_48, wd_244, ⟨by decide, by decide, by decide +kernel⟩⟩
theorem cw_L_236 : CwZ RL 236 yX6_houseCount cX6_houseCount 1 (some .int) 0 := ⟨wd_1607, wd_57, wd_1610, ⟨by decide, by decide, by decide +kernel⟩⟩
theorem cw_L_239 : CwZ RL 239 yX6_wasWet cX6_wasWet 3 (some Jvm.ClassFile.FieldType.boolean) 2 := ⟨wd_1611, wd_57, wd_1614, ⟨by decide, by decide, by decide +kernel⟩⟩
theorem cw_L_242 : CwZ RL 242 yX6_worthOf cX6_worthOf 3 (some .int) 2 := ⟨wd_1627, wd_57, wd_1630, ⟨by decide, by decide, by decide +kernel⟩⟩
theorem cw_L_245 : CwZ RL 245 yX6_claim cX6_claim 3 (some .int) 2 := ⟨wd_1631, wd_57, wd_1634, ⟨by decide, by decide, by decide +kernel⟩⟩
theorem cw_L_248 : CwZ RL 248 yX6_claimWorst cX6_claimWorst 6 (some .int) 1 := ⟨wd_1639, wd_57, wd_1642, ⟨by decide, by decide, by decide +kernel⟩⟩
theorem cw_L_251 : CwZ RL 251 yX6_claimCount cX6_claimCount 4 (some .int) 1 := ⟨wd_1643, wd_57, wd_1646, ⟨by decide, by decide, by decide +kernel⟩⟩
theorem cw_L_254 : CwZ RL 254 yX6_paidTo cX6_paidTo 2 (some .int) 1 := ⟨wd_1647, wd_57, wd_1650, ⟨by decide, by decide, by decide +kernel⟩⟩
theorem cw_L_255 : CwZ RL 255 yX5_paidTotal cX5_paidTotal 4 (some Jvm.ClassFile.FieldType.long) 0 := ⟨wd_245, wd_48, wd_248, ⟨by decide, by decide, by decide +kernel⟩⟩
theorem cw_L_259 : CwZ RL 259 yX6_paidTotal cX6_paidTotal 1 (some Jvm.ClassFile.FieldType.long) 0 := ⟨wd_1651, wd_57, wd_1654, ⟨by decide, by decide, by decide +kernel⟩⟩
theorem cw_L_263 : CwZ RL 263 yX6_meanPayment cX6_meanPayment 1 (some Jvm.ClassFile.FieldType.double) 0 := ⟨wd_1659, wd_57, wd_1662, ⟨by decide, by decide, by decide +kernel⟩⟩
theorem cw_L_264 : CwZ RL 264 yX5_floodedWith cX5_floodedWith 1 (some .int) 0 := ⟨wd_264, wd_48, wd_267, ⟨by decide, by decide, by decide +kernel⟩⟩
theorem cw_L_267 : CwZ RL 267 yX6_floodedWith cX6_floodedWith 1 (some .int) 0 := ⟨wd_1663, wd_57, wd_1666, ⟨by decide, by decide, by decide +kernel⟩⟩
theorem cw_L_27 : CwZ RL 27 yX5_capacityOf cX5_capacityOf 2 (some .int) 1 := ⟨wd_634, wd_48, wd_637, ⟨by decide, by decide, by decide +kernel⟩⟩
theorem cw_L_270 : CwZ RL 270 yX6_floodedWithOpening cX6_floodedWithOpening 3 (some .int) 2 := ⟨wd_1671, wd_57, wd_1674, ⟨by decide, by decide, by decide +kernel⟩⟩
theorem cw_L_273 : CwZ RL 273 yX6_bestOpening cX6_bestOpening 6 (some .int) 1 := ⟨wd_1675, wd_57, wd_1678, ⟨by decide, by decide, by decide +kernel⟩⟩
theorem cw_L_276 : CwZ RL 276 yX6_writeRule cX6_writeRule 2 (some .int) 1 := ⟨wd_1679, wd_57, wd_1682, ⟨by decide, by decide, by decide +kernel⟩⟩
theorem cw_L_279 : CwZ RL 279 yX6_lineAt cX6_lineAt 2 (some Jvm.ClassFile.FieldType.char) 1 := ⟨wd_1691, wd_57, wd_1694, ⟨by decide, by decide, by decide +kernel⟩⟩
theorem cw_L_30 : CwZ RL 30 yX5_setHand cX5_setHand 5 (some .int) 2 := ⟨wd_641, wd_48, wd_644, ⟨by decide, by decide, by decide +kernel⟩⟩
theorem cw_L_33 : CwZ RL 33 yX5_addRule cX5_addRule 6 (some .int) 5 := ⟨wd_652, wd_48, wd_655, ⟨by decide, by decide, by decide +kernel⟩⟩
theorem cw_L_37 : CwZ RL 37 yX5_removeRule cX5_removeRule 2 (some .int) 1 := ⟨wd_687, wd_48, wd_690, ⟨by decide, by decide, by decide +kernel⟩⟩
theorem cw_L_40 : CwZ RL 40 yX5_doesHold cX5_doesHold 2 (some Jvm.ClassFile.FieldType.boolean) 1 := ⟨wd_708, wd_48, wd_711, ⟨by decide, by decide, by decide +kernel⟩⟩
theorem cw_L_44 : CwZ RL 44 yX5_openingNow cX5_openingNow 2 (some .int) 1 := ⟨wd_715, wd_48, wd_718, ⟨by decide, by decide, by decide +kernel⟩⟩
theorem cw_L_47 : CwZ RL 47 yX5_setRain cX5_setRain 5 (some .int) 2 := ⟨wd_722, wd_48, wd_725, ⟨by decide, by decide, by decide +kernel⟩⟩
theorem cw_L_50 : CwZ RL 50 yX5_pass cX5_pass 3 (some .int) 1 := ⟨wd_730, wd_48, wd_733, ⟨by decide, by decide, by decide +kernel⟩⟩
theorem cw_L_53 : CwZ RL 53 yX5_volumeOf cX5_volumeOf 2 (some .int) 1 := ⟨wd_748, wd_48, wd_751, ⟨by decide, by decide, by decide +kernel⟩⟩
theorem cw_L_56 : CwZ RL 56 yX5_levelOf cX5_levelOf 2 (some .int) 1 := ⟨wd_755, wd_48, wd_758, ⟨by decide, by decide, by decide +kernel⟩⟩
theorem cw_L_59 : CwZ RL 59 yX5_streetVolume cX5_streetVolume 2 (some .int) 1 := ⟨wd_762, wd_48, wd_765, ⟨by decide, by decide, by decide +kernel⟩⟩
theorem cw_L_62 : CwZ RL 62 yX5_depthAt cX5_depthAt 4 (some .int) 2 := ⟨wd_769, wd_48, wd_772, ⟨by decide, by decide, by decide +kernel⟩⟩
theorem cw_L_65 : CwZ RL 65 yX5_depthByPouring cX5_depthByPouring 4 (some .int) 2 := ⟨wd_789, wd_48, wd_792, ⟨by decide, by decide, by decide +kernel⟩⟩
theorem cw_L_68 : CwZ RL 68 yX5_depthThen cX5_depthThen 5 (some .int) 3 := ⟨wd_805, wd_48, wd_808, ⟨by decide, by decide, by decide +kernel⟩⟩
theorem cw_L_7 : CwZ RL 7 yX5_addBasin cX5_addBasin 8 (some .int) 5 := ⟨wd_410, wd_48, wd_413, ⟨by decide, by decide, by decide +kernel⟩⟩
theorem cw_L_72 : CwZ RL 72 yX5_wetCells cX5_wetCells 2 (some .int) 1 := ⟨wd_817, wd_48, wd_820, ⟨by decide, by decide, by decide +kernel⟩⟩
theorem cw_L_75 : CwZ RL 75 yX5_wetHours cX5_wetHours 6 (some .int) 2 := ⟨wd_824, wd_48, wd_827, ⟨by decide, by decide, by decide +kernel⟩⟩
theorem cw_L_78 : CwZ RL 78 yX5_addHouse cX5_addHouse 7 (some .int) 4 := ⟨wd_832, wd_48, wd_835, ⟨by decide, by decide, by decide +kernel⟩⟩
theorem cw_L_82 : CwZ RL 82 yX5_wasWet cX5_wasWet 4 (some Jvm.ClassFile.FieldType.boolean) 2 := ⟨wd_872, wd_48, wd_875, ⟨by decide, by decide, by decide +kernel⟩⟩
theorem cw_L_86 : CwZ RL 86 yX5_worthOf cX5_worthOf 4 (some .int) 2 := ⟨wd_889, wd_48, wd_892, ⟨by decide, by decide, by decide +kernel⟩⟩
theorem cw_L_89 : CwZ RL 89 yX5_claim cX5_claim 4 (some .int) 2 := ⟨wd_902, wd_48, wd_905, ⟨by decide, by decide, by decide +kernel⟩⟩
theorem cw_L_94 : CwZ RL 94 yX5_claimWorst cX5_claimWorst 4 (some .int) 1 := ⟨wd_933, wd_48, wd_936, ⟨by decide, by decide, by decide +kernel⟩⟩
theorem cw_L_99 : CwZ RL 99 yX5_claimCount cX5_claimCount 2 (some .int) 1 := ⟨wd_960, wd_48, wd_963, ⟨by decide, by decide, by decide +kernel⟩⟩
theorem cw_X6_103 : CwZ RX6 103 yX6_in cX6_in 3 (some Jvm.ClassFile.FieldType.boolean) 3 := ⟨wd_1433, wd_57, wd_1435, ⟨by decide, by decide, by decide +kernel⟩⟩
theorem cw_X6_107 : CwZ RX6 107 yX6_isNone cX6_isNone 2 (some Jvm.ClassFile.FieldType.boolean) 1 := ⟨wd_1429, wd_57, wd_1432, ⟨by decide, by decide, by decide +kernel⟩⟩
theorem cw_X6_114 : CwZ RX6 114 yX6_fails cX6_fails 2 (some Jvm.ClassFile.FieldType.boolean) 1 := ⟨wd_1436, wd_57, wd_1439, ⟨by decide, by decide, by decide +kernel⟩⟩
theorem cw_X6_123 : CwZ RX6 123 yX6_tells cX6_tells 2 (some .int) 1 := ⟨wd_1448, wd_57, wd_1451, ⟨by decide, by decide, by decide +kernel⟩⟩
theorem cw_X6_127 : CwZ RX6 127 yX6_holds cX6_holds 2 (some .int) 1 := ⟨wd_1460, wd_57, wd_1463, ⟨by decide, by decide, by decide +kernel⟩⟩
theorem cw_X6_130 : CwZ RX6 130 yX6_isNoRule cX6_isNoRule 2 (some Jvm.ClassFile.FieldType.boolean) 1 := ⟨wd_1476, wd_57, wd_1479, ⟨by decide, by decide, by decide +kernel⟩⟩
theorem cw_X6_133 : CwZ RX6 133 yX6_isTrue cX6_isTrue 3 (some Jvm.ClassFile.FieldType.boolean) 2 := ⟨wd_1488, wd_57, wd_1491, ⟨by decide, by decide, by decide +kernel⟩⟩
theorem cw_X6_140 : CwZ RX6 140 yX6_opening cX6_opening 5 (some .int) 2 := ⟨wd_1496, wd_57, wd_1499, ⟨by decide, by decide, by decide +kernel⟩⟩
theorem cw_X6_144 : CwZ RX6 144 yX6_lesser cX6_lesser 2 (some .int) 2 := ⟨wd_1512, wd_57, wd_1514, ⟨by decide, by decide, by decide +kernel⟩⟩
theorem cw_X6_154 : CwZ RX6 154 yX6_flows cX6_flows 5 (some .int) 2 := ⟨wd_1508, wd_57, wd_1511, ⟨by decide, by decide, by decide +kernel⟩⟩
theorem cw_X6_158 : CwZ RX6 158 yX6_held cX6_held 3 (some .int) 0 := ⟨wd_1543, wd_57, wd_1546, ⟨by decide, by decide, by decide +kernel⟩⟩
theorem cw_X6_162 : CwZ RX6 162 yX6_upTo cX6_upTo 5 (some .int) 2 := ⟨wd_1571, wd_57, wd_1574, ⟨by decide, by decide, by decide +kernel⟩⟩
theorem cw_X6_165 : CwZ RX6 165 yX6_heightOf cX6_heightOf 6 (some .int) 2 := ⟨wd_1567, wd_57, wd_1570, ⟨by decide, by decide, by decide +kernel⟩⟩
theorem cw_X6_168 : CwZ RX6 168 yX6_isNoCell cX6_isNoCell 3 (some Jvm.ClassFile.FieldType.boolean) 2 := ⟨wd_1559, wd_57, wd_1562, ⟨by decide, by decide, by decide +kernel⟩⟩
theorem cw_X6_172 : CwZ RX6 172 yX6_depth cX6_depth 8 (some .int) 3 := ⟨wd_1563, wd_57, wd_1566, ⟨by decide, by decide, by decide +kernel⟩⟩
theorem cw_X6_176 : CwZ RX6 176 yX6_deep cX6_deep 3 (some .int) 2 := ⟨wd_1555, wd_57, wd_1558, ⟨by decide, by decide, by decide +kernel⟩⟩
theorem cw_X6_179 : CwZ RX6 179 yX6_then cX6_then 4 (some .int) 3 := ⟨wd_1583, wd_57, wd_1586, ⟨by decide, by decide, by decide +kernel⟩⟩
theorem cw_X6_182 : CwZ RX6 182 yX6_wet cX6_wet 5 (some .int) 2 := ⟨wd_1591, wd_57, wd_1594, ⟨by decide, by decide, by decide +kernel⟩⟩
theorem cw_X6_185 : CwZ RX6 185 yX6_isNoHouse cX6_isNoHouse 2 (some Jvm.ClassFile.FieldType.boolean) 1 := ⟨wd_1619, wd_57, wd_1622, ⟨by decide, by decide, by decide +kernel⟩⟩
theorem cw_X6_188 : CwZ RX6 188 yX6_isNoHour cX6_isNoHour 3 (some Jvm.ClassFile.FieldType.boolean) 2 := ⟨wd_1615, wd_57, wd_1618, ⟨by decide, by decide, by decide +kernel⟩⟩
theorem cw_X6_191 : CwZ RX6 191 yX6_worth cX6_worth 3 (some .int) 2 := ⟨wd_1623, wd_57, wd_1626, ⟨by decide, by decide, by decide +kernel⟩⟩
theorem cw_X6_197 : CwZ RX6 197 yX6_pays cX6_pays 4 (some .int) 2 := ⟨wd_1635, wd_57, wd_1638, ⟨by decide, by decide, by decide +kernel⟩⟩
theorem cw_X6_200 : CwZ RX6 200 yX6_allPaid cX6_allPaid 4 (some Jvm.ClassFile.FieldType.long) 0 := ⟨wd_1655, wd_57, wd_1658, ⟨by decide, by decide, by decide +kernel⟩⟩
theorem cw_X6_204 : CwZ RX6 204 yX6_trial cX6_trial 6 (some .int) 2 := ⟨wd_1667, wd_57, wd_1670, ⟨by decide, by decide, by decide +kernel⟩⟩
theorem cw_X6_210 : CwZ RX6 210 yX6_puts cX6_puts 2 none 1 := ⟨wd_1687, wd_57, wd_1690, ⟨by decide, by decide, by decide +kernel⟩⟩
theorem cw_X6_214 : CwZ RX6 214 yX6_putsNumber cX6_putsNumber 2 none 1 := ⟨wd_1683, wd_57, wd_1686, ⟨by decide, by decide, by decide +kernel⟩⟩
theorem cw_J5_100 : CwZ RJ5 100 yJ5_ensureCapacityInternal_d00df cJ5_ensureCapacityInternal_d00df 3 none 1 := ⟨wd_1043, wd_53, wd_1046, ⟨by decide, by decide, by decide +kernel⟩⟩
theorem cw_J5_104 : CwZ RJ5 104 yJ5_newCapacity_0f7a4 cJ5_newCapacity_0f7a4 6 (some .int) 1 := ⟨wd_1047, wd_53, wd_1050, ⟨by decide, by decide, by decide +kernel⟩⟩
theorem cw_J5_108 : CwZ RJ5 108 yJ7_copyOf_9075b cJ7_copyOf_9075b 3 (some (Jvm.ClassFile.FieldType.array Jvm.ClassFile.FieldType.byte)) 2 := ⟨wd_1053, wd_69, wd_1055, ⟨by decide, by decide, by decide +kernel⟩⟩
theorem cw_J5_114 : CwZ RJ5 114 yJ8_newLength_cabcc cJ8_newLength_cabcc 4 (some .int) 3 := ⟨wd_1051, wd_67, wd_549, ⟨by decide, by decide, by decide +kernel⟩⟩
theorem cw_J5_125 : CwZ RJ5 125 yJ1_inflate_0e8fd cJ1_inflate_0e8fd 5 none 5 := ⟨wd_1116, wd_79, wd_1118, ⟨by decide, by decide, by decide +kernel⟩⟩
theorem cw_J5_131 : CwZ RJ5 131 yJx7c733_init_d00df cJx7c733_init_d00df 2 none 1 := ⟨wd_1026, wd_78, wd_1028, ⟨by decide, by decide, by decide +kernel⟩⟩
theorem cw_J5_133 : CwZ RJ5 133 yJ1_fillNull_b72d1 cJ1_fillNull_b72d1 3 none 3 := ⟨wd_1233, wd_79, wd_1235, ⟨by decide, by decide, by decide +kernel⟩⟩
theorem cw_J5_137 : CwZ RJ5 137 yJ2_fillNull_b72d1 cJ2_fillNull_b72d1 3 none 3 := ⟨wd_1255, wd_56, wd_1257, ⟨by decide, by decide, by decide +kernel⟩⟩
theorem cw_J5_138 : CwZ RJ5 138 yJ9_min_7cf53 cJ9_min_7cf53 2 (some .int) 2 := ⟨wd_1296, wd_68, wd_299, ⟨by decide, by decide, by decide +kernel⟩⟩
theorem cw_J5_144 : CwZ RJ5 144 yJ0_checkIndex_df160 cJ0_checkIndex_df160 2 none 2 := ⟨wd_1297, wd_55, wd_1278, ⟨by decide, by decide, by decide +kernel⟩⟩
theorem cw_J5_148 : CwZ RJ5 148 yJ2_getChar_3b067 cJ2_getChar_3b067 2 (some Jvm.ClassFile.FieldType.char) 2 := ⟨wd_1298, wd_56, wd_1213, ⟨by decide, by decide, by decide +kernel⟩⟩
theorem cw_J5_191 : CwZ RJ5 191 yJ1_canEncode_fc78d cJ1_canEncode_fc78d 1 (some Jvm.ClassFile.FieldType.boolean) 1 := ⟨wd_1267, wd_79, wd_1269, ⟨by decide, by decide, by decide +kernel⟩⟩
theorem cw_J5_195 : CwZ RJ5 195 yJ5_inflate_da8c8 cJ5_inflate_da8c8 2 none 0 := ⟨wd_1112, wd_53, wd_1115, ⟨by decide, by decide, by decide +kernel⟩⟩
theorem cw_J5_197 : CwZ RJ5 197 yJ2_putCharSB_b72d1 cJ2_putCharSB_b72d1 3 none 3 := ⟨wd_1270, wd_56, wd_1272, ⟨by decide, by decide, by decide +kernel⟩⟩
theorem cw_J5_204 : CwZ RJ5 204 yJ5_appendNull_278bc cJ5_appendNull_278bc 3 (some (Jvm.ClassFile.FieldType.object "java/lang/AbstractStringBuilder")) 0 := ⟨wd_1039, wd_53, wd_1042, ⟨by decide, by decide, by decide +kernel⟩⟩
theorem cw_J5_208 : CwZ RJ5 208 yJ5_putStringAt_47b60 cJ5_putStringAt_47b60 3 none 2 := ⟨wd_1103, wd_53, wd_1106, ⟨by decide, by decide, by decide +kernel⟩⟩
theorem cw_J5_226 : CwZ RJ5 226 yJ2_putCharsAt_cd4e5 cJ2_putCharsAt_cd4e5 7 (some .int) 6 := ⟨wd_1068, wd_56, wd_1070, ⟨by decide, by decide, by decide +kernel⟩⟩
theorem cw_J5_245 : CwZ RJ5 245 yJ6_stringSize_0f7a4 cJ6_stringSize_0f7a4 4 (some .int) 1 := ⟨wd_1144, wd_81, wd_1146, ⟨by decide, by decide, by decide +kernel⟩⟩
theorem cw_J5_248 : CwZ RJ5 248 yJ6_getChars_ba4f3 cJ6_getChars_ba4f3 7 (some .int) 3 := ⟨wd_1147, wd_81, wd_1149, ⟨by decide, by decide, by decide +kernel⟩⟩
theorem cw_J5_251 : CwZ RJ5 251 yJ2_getChars_46870 cJ2_getChars_46870 5 (some .int) 4 := ⟨wd_1154, wd_56, wd_1156, ⟨by decide, by decide, by decide +kernel⟩⟩
theorem cw_J5_26 : CwZ RJ5 26 yJ2_newBytesFor_77867 cJ2_newBytesFor_77867 1 (some (Jvm.ClassFile.FieldType.array Jvm.ClassFile.FieldType.byte)) 1 := ⟨wd_151, wd_56, wd_153, ⟨by decide, by decide, by decide +kernel⟩⟩
theorem cw_J5_32 : CwZ RJ5 32 yJ0_length_8abf5 cJ0_length_8abf5 1 (some .int) 0 := ⟨wd_1094, wd_55, wd_1097, ⟨by decide, by decide, by decide +kernel⟩⟩
theorem cw_J5_397 : CwZ RJ5 397 yJ5_inflateIfNeededFor_a7421 cJ5_inflateIfNeededFor_a7421 2 none 1 := ⟨wd_1107, wd_53, wd_1110, ⟨by decide, by decide, by decide +kernel⟩⟩
theorem cw_J5_399 : CwZ RJ5 399 yJ0_getBytes_840e7 cJ0_getBytes_840e7 4 none 3 := ⟨wd_1131, wd_55, wd_1134, ⟨by decide, by decide, by decide +kernel⟩⟩
theorem cw_J5_40 : CwZ RJ5 40 yJ0_coder_7d493 cJ0_coder_7d493 1 (some Jvm.ClassFile.FieldType.byte) 0 := ⟨wd_1111, wd_55, wd_1101, ⟨by decide, by decide, by decide +kernel⟩⟩
theorem cw_J5_83 : CwZ RJ5 83 yJ5_isLatin1_aae02 cJ5_isLatin1_aae02 1 (some Jvm.ClassFile.FieldType.boolean) 0 := ⟨wd_1063, wd_53, wd_1067, ⟨by decide, by decide, by decide +kernel⟩⟩
theorem cw_Jx00060_12 : CwZ RJx00060 12 yJ4_init_da8c8 cJ4_init_da8c8 1 none 0 := ⟨wd_1250, wd_54, wd_144, ⟨by decide, by decide, by decide +kernel⟩⟩
theorem cw_Jx00060_15 : CwZ RJx00060 15 yJ4_append_15ec4 cJ4_append_15ec4 2 (some (Jvm.ClassFile.FieldType.object "java/lang/StringBuilder")) 1 := ⟨wd_1252, wd_54, wd_1035, ⟨by decide, by decide, by decide +kernel⟩⟩
theorem cw_Jx00060_19 : CwZ RJx00060 19 yJ4_append_bf812 cJ4_append_bf812 2 (some (Jvm.ClassFile.FieldType.object "java/lang/StringBuilder")) 1 := ⟨wd_1253, wd_54, wd_1140, ⟨by decide, by decide, by decide +kernel⟩⟩
theorem cw_Jx00060_22 : CwZ RJx00060 22 yJ4_toString_0e30d cJ4_toString_0e30d 1 (some (Jvm.ClassFile.FieldType.object "java/lang/String")) 0 := ⟨wd_1254, wd_54, wd_1165, ⟨by decide, by decide, by decide +kernel⟩⟩
theorem cw_J0_1047 : CwZ RJ0 1047 yJ5_isLatin1_aae02 cJ5_isLatin1_aae02 1 (some Jvm.ClassFile.FieldType.boolean) 0 := ⟨wd_1187, wd_53, wd_1067, ⟨by decide, by decide, by decide +kernel⟩⟩
theorem cw_J0_1051 : CwZ RJ0 1051 yJ2_compress_39247 cJ2_compress_39247 6 (some (Jvm.ClassFile.FieldType.array Jvm.ClassFile.FieldType.byte)) 3 := ⟨wd_1205, wd_56, wd_1207, ⟨by decide, by decide, by decide +kernel⟩⟩
theorem cw_J0_1059 : CwZ RJ0 1059 yJ3_checkIndex_8e157 cJ3_checkIndex_8e157 3 (some .int) 3 := ⟨wd_1279, wd_72, wd_258, ⟨by decide, by decide, by decide +kernel⟩⟩
theorem cw_J0_106 : CwZ RJ0 106 yJ1_inflate_0e8fd cJ1_inflate_0e8fd 5 none 5 := ⟨wd_1136, wd_79, wd_1118, ⟨by decide, by decide, by decide +kernel⟩⟩
theorem cw_J0_1062 : CwZ RJ0 1062 yJ3_checkFromToIndex_8c36e cJ3_checkFromToIndex_8c36e 4 (some .int) 4 := ⟨wd_1082, wd_72, wd_1084, ⟨by decide, by decide, by decide +kernel⟩⟩
theorem cw_J0_1065 : CwZ RJ0 1065 yJ3_checkFromIndexSize_8c36e cJ3_checkFromIndexSize_8c36e 4 (some .int) 4 := ⟨wd_1128, wd_72, wd_1130, ⟨by decide, by decide, by decide +kernel⟩⟩
theorem cw_J0_335 : CwZ RJ0 335 yJ0_coder_7d493 cJ0_coder_7d493 1 (some Jvm.ClassFile.FieldType.byte) 0 := ⟨wd_1098, wd_55, wd_1101, ⟨by decide, by decide, by decide +kernel⟩⟩
theorem cw_J0_47 : CwZ RJ0 47 yJ2_coderFromArrayLen_85cad cJ2_coderFromArrayLen_85cad 2 (some Jvm.ClassFile.FieldType.byte) 2 := ⟨wd_1215, wd_56, wd_1217, ⟨by decide, by decide, by decide +kernel⟩⟩
theorem cw_J0_489 : CwZ RJ0 489 yJ0_init_db425 cJ0_init_db425 5 none 2 := ⟨wd_1170, wd_55, wd_1172, ⟨by decide, by decide, by decide +kernel⟩⟩
theorem cw_J0_54 : CwZ RJ0 54 yJ7_copyOfRange_39247 cJ7_copyOfRange_39247 3 (some (Jvm.ClassFile.FieldType.array Jvm.ClassFile.FieldType.byte)) 3 := ⟨wd_1188, wd_69, wd_1190, ⟨by decide, by decide, by decide +kernel⟩⟩
theorem cw_J0_549 : CwZ RJ0 549 yJ5_length_8abf5 cJ5_length_8abf5 1 (some .int) 0 := ⟨wd_1179, wd_53, wd_1186, ⟨by decide, by decide, by decide +kernel⟩⟩
theorem cw_J0_552 : CwZ RJ0 552 yJ5_getValue_6d5f1 cJ5_getValue_6d5f1 1 (some (Jvm.ClassFile.FieldType.array Jvm.ClassFile.FieldType.byte)) 0 := ⟨wd_1174, wd_53, wd_1178, ⟨by decide, by decide, by decide +kernel⟩⟩
theorem cw_J4_1 : CwZ RJ4 1 yJ5_init_d00df cJ5_init_d00df 2 none 1 := ⟨wd_145, wd_53, wd_147, ⟨by decide, by decide, by decide +kernel⟩⟩
theorem cw_J4_137 : CwZ RJ4 137 yJ0_init_81219 cJ0_init_81219 2 none 1 := ⟨wd_1167, wd_55, wd_1169, ⟨by decide, by decide, by decide +kernel⟩⟩
theorem cw_J4_29 : CwZ RJ4 29 yJ5_append_cf1ce cJ5_append_cf1ce 3 (some (Jvm.ClassFile.FieldType.object "java/lang/AbstractStringBuilder")) 1 := ⟨wd_1036, wd_53, wd_1038, ⟨by decide, by decide, by decide +kernel⟩⟩
theorem cw_J4_329 : CwZ RJ4 329 yJ5_charAt_5068e cJ5_charAt_5068e 5 (some Jvm.ClassFile.FieldType.char) 1 := ⟨wd_1293, wd_53, wd_1295, ⟨by decide, by decide, by decide +kernel⟩⟩
theorem cw_J4_333 : CwZ RJ4 333 yJ5_setLength_d00df cJ5_setLength_d00df 2 none 1 := ⟨wd_1021, wd_53, wd_1023, ⟨by decide, by decide, by decide +kernel⟩⟩
theorem cw_J4_343 : CwZ RJ4 343 yJ5_length_8abf5 cJ5_length_8abf5 1 (some .int) 0 := ⟨wd_1185, wd_53, wd_1186, ⟨by decide, by decide, by decide +kernel⟩⟩
theorem cw_J4_50 : CwZ RJ4 50 yJ5_append_3fe6f cJ5_append_3fe6f 2 (some (Jvm.ClassFile.FieldType.object "java/lang/AbstractStringBuilder")) 1 := ⟨wd_1264, wd_53, wd_1266, ⟨by decide, by decide, by decide +kernel⟩⟩
theorem cw_J4_53 : CwZ RJ4 53 yJ5_append_c97b9 cJ5_append_c97b9 4 (some (Jvm.ClassFile.FieldType.object "java/lang/AbstractStringBuilder")) 1 := ⟨wd_1141, wd_53, wd_1143, ⟨by decide, by decide, by decide +kernel⟩⟩
theorem cw_Jx7c733_12 : CwZ RJx7c733 12 yJ4_init_da8c8 cJ4_init_da8c8 1 none 0 := ⟨wd_1030, wd_54, wd_144, ⟨by decide, by decide, by decide +kernel⟩⟩
theorem cw_Jx7c733_15 : CwZ RJx7c733 15 yJ4_append_15ec4 cJ4_append_15ec4 2 (some (Jvm.ClassFile.FieldType.object "java/lang/StringBuilder")) 1 := ⟨wd_1032, wd_54, wd_1035, ⟨by decide, by decide, by decide +kernel⟩⟩
theorem cw_Jx7c733_19 : CwZ RJx7c733 19 yJ4_append_bf812 cJ4_append_bf812 2 (some (Jvm.ClassFile.FieldType.object "java/lang/StringBuilder")) 1 := ⟨wd_1137, wd_54, wd_1140, ⟨by decide, by decide, by decide +kernel⟩⟩
theorem cw_Jx7c733_22 : CwZ RJx7c733 22 yJ4_toString_0e30d cJ4_toString_0e30d 1 (some (Jvm.ClassFile.FieldType.object "java/lang/String")) 0 := ⟨wd_1162, wd_54, wd_1165, ⟨by decide, by decide, by decide +kernel⟩⟩
theorem cw_J1_236 : CwZ RJ1 236 yJ7_fill_eb02e cJ7_fill_eb02e 5 none 4 := ⟨wd_1236, wd_69, wd_1238, ⟨by decide, by decide, by decide +kernel⟩⟩
theorem cw_J1_240 : CwZ RJ1 240 yJ2_inflate_0e8fd cJ2_inflate_0e8fd 6 none 5 := ⟨wd_1119, wd_56, wd_1121, ⟨by decide, by decide, by decide +kernel⟩⟩
theorem cw_J2_11 : CwZ RJ2 11 yJ2_newBytesLength_0f7a4 cJ2_newBytesLength_0f7a4 1 (some .int) 1 := ⟨wd_154, wd_56, wd_156, ⟨by decide, by decide, by decide +kernel⟩⟩
theorem cw_J2_111 : CwZ RJ2 111 yJ2_putChar_b72d1 cJ2_putChar_b72d1 3 none 3 := ⟨wd_1085, wd_56, wd_1087, ⟨by decide, by decide, by decide +kernel⟩⟩
theorem cw_J2_123 : CwZ RJ2 123 yJ2_compress_5af95 cJ2_compress_5af95 7 (some .int) 5 := ⟨wd_1208, wd_56, wd_1210, ⟨by decide, by decide, by decide +kernel⟩⟩
theorem cw_J2_126 : CwZ RJ2 126 yJ7_copyOfRange_39247 cJ7_copyOfRange_39247 3 (some (Jvm.ClassFile.FieldType.array Jvm.ClassFile.FieldType.byte)) 3 := ⟨wd_1214, wd_69, wd_1190, ⟨by decide, by decide, by decide +kernel⟩⟩
theorem cw_J2_173 : CwZ RJ2 173 yJ2_checkBoundsOffCount_d044e cJ2_checkBoundsOffCount_d044e 3 none 3 := ⟨wd_1122, wd_56, wd_1124, ⟨by decide, by decide, by decide +kernel⟩⟩
theorem cw_J2_241 : CwZ RJ2 241 yJ0_checkBoundsBeginEnd_23922 cJ0_checkBoundsBeginEnd_23922 3 none 3 := ⟨wd_1077, wd_55, wd_1079, ⟨by decide, by decide, by decide +kernel⟩⟩
theorem cw_J2_380 : CwZ RJ2 380 yJ7_fill_eb02e cJ7_fill_eb02e 5 none 4 := ⟨wd_1258, wd_69, wd_1238, ⟨by decide, by decide, by decide +kernel⟩⟩
theorem cw_J2_393 : CwZ RJ2 393 yJ2_getChars_ba4f3 cJ2_getChars_ba4f3 7 (some .int) 3 := ⟨wd_1157, wd_56, wd_1159, ⟨by decide, by decide, by decide +kernel⟩⟩
theorem cw_J2_414 : CwZ RJ2 414 yJ0_checkIndex_df160 cJ0_checkIndex_df160 2 none 2 := ⟨wd_1276, wd_55, wd_1278, ⟨by decide, by decide, by decide +kernel⟩⟩
theorem cw_J2_419 : CwZ RJ2 419 yJ0_checkBoundsOffCount_cabcc cJ0_checkBoundsOffCount_cabcc 3 (some .int) 3 := ⟨wd_1125, wd_55, wd_1127, ⟨by decide, by decide, by decide +kernel⟩⟩
theorem cw_J2_48 : CwZ RJ2 48 yJ2_length_9d52b cJ2_length_9d52b 1 (some .int) 1 := ⟨wd_1074, wd_56, wd_1076, ⟨by decide, by decide, by decide +kernel⟩⟩
theorem cw_J2_67 : CwZ RJ2 67 yJ2_checkIndex_2214a cJ2_checkIndex_2214a 2 none 2 := ⟨wd_1273, wd_56, wd_1275, ⟨by decide, by decide, by decide +kernel⟩⟩
theorem cw_J2_71 : CwZ RJ2 71 yJ2_getChar_3b067 cJ2_getChar_3b067 2 (some Jvm.ClassFile.FieldType.char) 2 := ⟨wd_1211, wd_56, wd_1213, ⟨by decide, by decide, by decide +kernel⟩⟩
theorem cw_J2_96 : CwZ RJ2 96 yJ2_checkBoundsBeginEnd_d044e cJ2_checkBoundsBeginEnd_d044e 3 none 3 := ⟨wd_1071, wd_56, wd_1073, ⟨by decide, by decide, by decide +kernel⟩⟩
theorem cw_Jxc12de_1 : CwZ RJxc12de 1 yJxa1e45_init_da8c8 cJxa1e45_init_da8c8 1 none 0 := ⟨wd_98, wd_49, wd_100, ⟨by decide, by decide, by decide +kernel⟩⟩
theorem cw_Jx4a65c_1 : CwZ RJx4a65c 1 yJxc12de_init_da8c8 cJxc12de_init_da8c8 1 none 0 := ⟨wd_95, wd_50, wd_97, ⟨by decide, by decide, by decide +kernel⟩⟩
theorem cw_Jx4a65c_118 : CwZ RJx4a65c 118 yJ15_checkIndex_7cf53 cJ15_checkIndex_7cf53 2 (some .int) 2 := ⟨wd_253, wd_71, wd_255, ⟨by decide, by decide, by decide +kernel⟩⟩
theorem cw_Jx4a65c_123 : CwZ RJx4a65c 123 yJx4a65c_elementData_915e3 cJx4a65c_elementData_915e3 2 (some (Jvm.ClassFile.FieldType.object "java/lang/Object")) 1 := ⟨wd_259, wd_51, wd_262, ⟨by decide, by decide, by decide +kernel⟩⟩
theorem cw_Jx4a65c_129 : CwZ RJx4a65c 129 yJx4a65c_grow_d5877 cJx4a65c_grow_d5877 1 (some (Jvm.ClassFile.FieldType.array (Jvm.ClassFile.FieldType.object "java/lang/Object"))) 0 := ⟨wd_539, wd_51, wd_542, ⟨by decide, by decide, by decide +kernel⟩⟩
theorem cw_Jx4a65c_131 : CwZ RJx4a65c 131 yJx4a65c_add_72be8 cJx4a65c_add_72be8 4 none 3 := ⟨wd_535, wd_51, wd_538, ⟨by decide, by decide, by decide +kernel⟩⟩
theorem cw_Jx4a65c_144 : CwZ RJx4a65c 144 yJx4a65c_fastRemove_b59b0 cJx4a65c_fastRemove_b59b0 4 none 2 := ⟨wd_700, wd_51, wd_703, ⟨by decide, by decide, by decide +kernel⟩⟩
theorem cw_Jx4a65c_66 : CwZ RJx4a65c 66 yJ7_copyOf_1904c cJ7_copyOf_1904c 2 (some (Jvm.ClassFile.FieldType.array (Jvm.ClassFile.FieldType.object "java/lang/Object"))) 2 := ⟨wd_557, wd_69, wd_559, ⟨by decide, by decide, by decide +kernel⟩⟩
theorem cw_Jx4a65c_69 : CwZ RJx4a65c 69 yJx4a65c_grow_92f84 cJx4a65c_grow_92f84 4 (some (Jvm.ClassFile.FieldType.array (Jvm.ClassFile.FieldType.object "java/lang/Object"))) 1 := ⟨wd_543, wd_51, wd_546, ⟨by decide, by decide, by decide +kernel⟩⟩
theorem cw_Jx4a65c_73 : CwZ RJx4a65c 73 yJ8_newLength_cabcc cJ8_newLength_cabcc 4 (some .int) 3 := ⟨wd_547, wd_67, wd_549, ⟨by decide, by decide, by decide +kernel⟩⟩
theorem cw_Jx4a65c_79 : CwZ RJx4a65c 79 yJ9_max_7cf53 cJ9_max_7cf53 2 (some .int) 2 := ⟨wd_592, wd_68, wd_552, ⟨by decide, by decide, by decide +kernel⟩⟩
theorem cw_J7_13 : CwZ RJ7 13 yJ7_rangeCheck_23922 cJ7_rangeCheck_23922 3 none 3 := ⟨wd_1239, wd_69, wd_1241, ⟨by decide, by decide, by decide +kernel⟩⟩
theorem cw_J7_300 : CwZ RJ7 300 yJ7_copyOf_6403c cJ7_copyOf_6403c 4 (some (Jvm.ClassFile.FieldType.array (Jvm.ClassFile.FieldType.object "java/lang/Object"))) 3 := ⟨wd_582, wd_69, wd_584, ⟨by decide, by decide, by decide +kernel⟩⟩
theorem cw_J7_304 : CwZ RJ7 304 yJ9_min_7cf53 cJ9_min_7cf53 2 (some .int) 2 := ⟨wd_588, wd_68, wd_299, ⟨by decide, by decide, by decide +kernel⟩⟩
theorem cw_J7_339 : CwZ RJ7 339 yJ7_copyOfRangeByte_39247 cJ7_copyOfRangeByte_39247 5 (some (Jvm.ClassFile.FieldType.array Jvm.ClassFile.FieldType.byte)) 3 := ⟨wd_1191, wd_69, wd_1193, ⟨by decide, by decide, by decide +kernel⟩⟩
theorem cw_J7_343 : CwZ RJ7 343 yJ7_checkLength_df160 cJ7_checkLength_df160 2 none 2 := ⟨wd_1194, wd_69, wd_1196, ⟨by decide, by decide, by decide +kernel⟩⟩
theorem cw_J7_47 : CwZ RJ7 47 yJ4_init_da8c8 cJ4_init_da8c8 1 none 0 := ⟨wd_1199, wd_54, wd_144, ⟨by decide, by decide, by decide +kernel⟩⟩
theorem cw_J7_50 : CwZ RJ7 50 yJ4_append_15ec4 cJ4_append_15ec4 2 (some (Jvm.ClassFile.FieldType.object "java/lang/StringBuilder")) 1 := ⟨wd_1202, wd_54, wd_1035, ⟨by decide, by decide, by decide +kernel⟩⟩
theorem cw_J7_54 : CwZ RJ7 54 yJ4_append_bf812 cJ4_append_bf812 2 (some (Jvm.ClassFile.FieldType.object "java/lang/StringBuilder")) 1 := ⟨wd_1200, wd_54, wd_1140, ⟨by decide, by decide, by decide +kernel⟩⟩
theorem cw_J7_61 : CwZ RJ7 61 yJ4_toString_0e30d cJ4_toString_0e30d 1 (some (Jvm.ClassFile.FieldType.object "java/lang/String")) 0 := ⟨wd_1203, wd_54, wd_1165, ⟨by decide, by decide, by decide +kernel⟩⟩
theorem cw_J7_70 : CwZ RJ7 70 yJx00060_init_d00df cJx00060_init_d00df 2 none 1 := ⟨wd_1246, wd_62, wd_1248, ⟨by decide, by decide, by decide +kernel⟩⟩
theorem cw_J15_105 : CwZ RJ15 105 yJ3_checkIndex_8e157 cJ3_checkIndex_8e157 3 (some .int) 3 := ⟨wd_256, wd_72, wd_258, ⟨by decide, by decide, by decide +kernel⟩⟩
theorem cw_J8_194 : CwZ RJ8 194 yJ9_max_7cf53 cJ9_max_7cf53 2 (some .int) 2 := ⟨wd_550, wd_68, wd_552, ⟨by decide, by decide, by decide +kernel⟩⟩
theorem cw_J8_201 : CwZ RJ8 201 yJ8_hugeLength_7cf53 cJ8_hugeLength_7cf53 3 (some .int) 2 := ⟨wd_554, wd_67, wd_556, ⟨by decide, by decide, by decide +kernel⟩⟩
theorem nw_X0_24 : NwZ RX0 24 8 5 [.null, .null, .null, .null, .int 0] := ⟨RX3, TX3, tyX3, rfl, us_X3, tyX3_ok, by decide +kernel, wd_476, wd_477, wd_66⟩
theorem nw_X5_115 : NwZ RX5 115 7 5 [.int 0, .int 0, .int 0, .int 0, .int 0] := ⟨RX2, TX2, tyX2, rfl, us_X2, tyX2_ok, by decide +kernel, wd_288, wd_658, wd_73⟩
theorem nw_X5_210 : NwZ RX5 210 6 7 [.null, .int 0, .int 0, .int 0, .null, .int 0, .int 0] := ⟨RX1, TX1, tyX1, rfl, us_X1, tyX1_ok, by decide +kernel, wd_263, wd_838, wd_74⟩
theorem nw_X5_22 : NwZ RX5 22 9 4 [.null, .null, .null, .int 0] := ⟨RX4, TX4, tyX4, rfl, us_X4, tyX4_ok, by decide +kernel, wd_116, wd_117, wd_52⟩
theorem nw_X5_32 : NwZ RX5 32 1 4 [.null, .int 0, .int 0, .int 0] := ⟨RJ4, TJ4, tyJ4, rfl, us_J4, tyJ4_ok, by decide +kernel, wd_140, wd_141, wd_54⟩
theorem nw_X5_7 : NwZ RX5 7 4 3 [.int 0, .null, .int 0] := ⟨RJx4a65c, TJx4a65c, tyJx4a65c, rfl, us_Jx4a65c, tyJx4a65c_ok, by decide +kernel, wd_90, wd_91, wd_51⟩
theorem nw_X5_71 : NwZ RX5 71 5 8 [.int 0, .int 0, .int 0, .int 0, .null, .null, .int 0, .int 0] := ⟨RX0, TX0, tyX0, rfl, us_X0, tyX0_ok, by decide +kernel, wd_283, wd_471, wd_65⟩
theorem nw_L_125 : NwZ RL 125 11 38 [.int 0, .null, .null, .null, .null, .null, .null, .null, .null, .null, .null, .null, .null, .null, .int 0, .null, .null, .null, .null, .null, .int 0, .int 0, .int 0, .null, .null, .int 0, .null, .null, .null, .null, .null, .null, .int 0, .int 0, .int 0, .null, .int 0, .int 0] := ⟨RX6, TX6, tyX6, rfl, us_X6, tyX6_ok, by decide +kernel, wd_1299, wd_1300, wd_57⟩
theorem nw_L_8 : NwZ RL 8 10 9 [.null, .null, .null, .null, .null, .null, .int 0, .int 0, .int 0] := ⟨RX5, TX5, tyX5, rfl, us_X5, tyX5_ok, by decide +kernel, wd_82, wd_83, wd_48⟩
theorem nw_J5_129 : NwZ RJ5 129 3 6 [.null, .null, .null, .null, .int 0, .null] := ⟨RJx7c733, TJx7c733, tyJx7c733, rfl, us_Jx7c733, tyJx7c733_ok, by decide +kernel, wd_1024, wd_1025, wd_78⟩
theorem nw_Jx00060_10 : NwZ RJx00060 10 1 4 [.null, .int 0, .int 0, .int 0] := ⟨RJ4, TJ4, tyJ4, rfl, us_J4, tyJ4_ok, by decide +kernel, wd_1249, wd_141, wd_54⟩
theorem nw_J4_18 : NwZ RJ4 18 0 4 [.null, .int 0, .int 0, .int 0] := ⟨RJ0, TJ0, tyJ0, rfl, us_J0, tyJ0_ok, by decide +kernel, wd_1166, wd_403, wd_55⟩
theorem nw_Jx7c733_10 : NwZ RJx7c733 10 1 4 [.null, .int 0, .int 0, .int 0] := ⟨RJ4, TJ4, tyJ4, rfl, us_J4, tyJ4_ok, by decide +kernel, wd_1029, wd_141, wd_54⟩
theorem nw_J7_45 : NwZ RJ7 45 1 4 [.null, .int 0, .int 0, .int 0] := ⟨RJ4, TJ4, tyJ4, rfl, us_J4, tyJ4_ok, by decide +kernel, wd_1198, wd_141, wd_54⟩
theorem nw_J7_68 : NwZ RJ7 68 2 6 [.null, .null, .null, .null, .int 0, .null] := ⟨RJx00060, TJx00060, tyJx00060, rfl, us_Jx00060, tyJx00060_ok, by decide +kernel, wd_1245, wd_329, wd_62⟩
theorem at_IndexOutOfBoundsException : ∀ w ∈ vx_atS RX5 51 "java/lang/IndexOutOfBoundsException" ["java/lang/RuntimeException", "java/lang/Exception"], w ∈ WALL ++ xtZ := by decide +kernel
theorem at_IllegalArgumentException : ∀ w ∈ vx_atS RX5 58 "java/lang/IllegalArgumentException" ["java/lang/RuntimeException", "java/lang/Exception"], w ∈ WALL ++ xtZ := by decide +kernel
theorem at_IllegalStateException : ∀ w ∈ vx_atS RX5 67 "java/lang/IllegalStateException" ["java/lang/RuntimeException", "java/lang/Exception"], w ∈ WALL ++ xtZ := by decide +kernel
theorem at_UnsupportedOperationException : ∀ w ∈ vx_atS RX5 230 "java/lang/UnsupportedOperationException" ["java/lang/RuntimeException", "java/lang/Exception"], w ∈ WALL ++ xtZ := by decide +kernel
theorem at_ArithmeticException : ∀ w ∈ vx_atS RX5 258 "java/lang/ArithmeticException" ["java/lang/RuntimeException", "java/lang/Exception"], w ∈ WALL ++ xtZ := by decide +kernel
