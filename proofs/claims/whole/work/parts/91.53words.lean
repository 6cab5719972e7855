/-- the good words of the tables: every method's list is its own code and these -/
def GW : List Cond := lw_tbl.filter goodWord
def Wm (y : MethodName) (b : ByteArray) (n : Nat) (r : Option FieldType) : List Cond := .code y b n r :: GW
theorem mGW {w : Cond} (h : w ∈ lw_tbl) (g : goodWord w = true) : w ∈ GW := List.mem_filter.mpr ⟨h, g⟩
theorem GW_good {w : Cond} (h : w ∈ GW) : goodWord w = true := (List.mem_filter.mp h).2
theorem GW_tbl {w : Cond} (h : w ∈ GW) : w ∈ lw_tbl := (List.mem_filter.mp h).1
theorem tb0 {w : Cond} (h : w ∈ k2_sels lw_privs) : w ∈ lw_tbl := List.mem_append_left _ h
theorem tb1 {w : Cond} (h : w ∈ tables_1_1) : w ∈ lw_tbl := List.mem_append_right _ (List.mem_append_left _ h)
theorem tb2 {w : Cond} (h : w ∈ tables_1_2) : w ∈ lw_tbl := List.mem_append_right _ (List.mem_append_right _ (List.mem_append_left _ h))
theorem tb3 {w : Cond} (h : w ∈ tables_1_3) : w ∈ lw_tbl := List.mem_append_right _ (List.mem_append_right _ (List.mem_append_right _ (List.mem_append_left _ h)))
theorem tb4 {w : Cond} (h : w ∈ tables_1_4) : w ∈ lw_tbl := List.mem_append_right _ (List.mem_append_right _ (List.mem_append_right _ (List.mem_append_right _ (List.mem_append_left _ h))))
theorem tb5 {w : Cond} (h : w ∈ tables_1_5) : w ∈ lw_tbl := List.mem_append_right _ (List.mem_append_right _ (List.mem_append_right _ (List.mem_append_right _ (List.mem_append_right _ (List.mem_append_left _ h)))))
theorem tb6 {w : Cond} (h : w ∈ tables_1_6) : w ∈ lw_tbl := List.mem_append_right _ (List.mem_append_right _ (List.mem_append_right _ (List.mem_append_right _ (List.mem_append_right _ (List.mem_append_right _ (List.mem_append_left _ h))))))
theorem tb7 {w : Cond} (h : w ∈ tables_1_7) : w ∈ lw_tbl := List.mem_append_right _ (List.mem_append_right _ (List.mem_append_right _ (List.mem_append_right _ (List.mem_append_right _ (List.mem_append_right _ (List.mem_append_right _ (h)))))))
theorem tw_1_0 : (Cond.initialized "TrenchboardLaw") ∈ GW := mGW (tb1 (List.mem_of_getElem? (i := 0) rfl)) rfl
theorem tw_1_1 : (Cond.initialized "Trenchboard") ∈ GW := mGW (tb1 (List.mem_of_getElem? (i := 1) rfl)) rfl
theorem tw_1_2 : (Cond.initialized "Trenchboard$Ledger") ∈ GW := mGW (tb1 (List.mem_of_getElem? (i := 2) rfl)) rfl
theorem tw_1_3 : (Cond.initialized "java/util/AbstractCollection") ∈ GW := mGW (tb1 (List.mem_of_getElem? (i := 3) rfl)) rfl
theorem tw_1_4 : (Cond.initialized "java/util/AbstractList") ∈ GW := mGW (tb1 (List.mem_of_getElem? (i := 4) rfl)) rfl
theorem tw_1_5 : (Cond.initialized "java/util/ArrayList") ∈ GW := mGW (tb1 (List.mem_of_getElem? (i := 5) rfl)) rfl
theorem tw_1_6 : (Cond.initialized "Trenchboard$Party") ∈ GW := mGW (tb1 (List.mem_of_getElem? (i := 6) rfl)) rfl
theorem tw_1_7 : (Cond.initialized "TrenchboardModel") ∈ GW := mGW (tb1 (List.mem_of_getElem? (i := 7) rfl)) rfl
theorem tw_1_8 : (Cond.initialized "java/lang/Throwable") ∈ GW := mGW (tb1 (List.mem_of_getElem? (i := 8) rfl)) rfl
theorem tw_1_9 : (Cond.initialized "java/lang/Exception") ∈ GW := mGW (tb1 (List.mem_of_getElem? (i := 9) rfl)) rfl
theorem tw_1_10 : (Cond.initialized "java/lang/RuntimeException") ∈ GW := mGW (tb1 (List.mem_of_getElem? (i := 10) rfl)) rfl
theorem tw_1_11 : (Cond.initialized "java/lang/IndexOutOfBoundsException") ∈ GW := mGW (tb1 (List.mem_of_getElem? (i := 11) rfl)) rfl
theorem tw_1_12 : (Cond.initialized "java/lang/IllegalArgumentException") ∈ GW := mGW (tb1 (List.mem_of_getElem? (i := 12) rfl)) rfl
theorem tw_1_13 : (Cond.initialized "java/lang/IllegalStateException") ∈ GW := mGW (tb1 (List.mem_of_getElem? (i := 13) rfl)) rfl
theorem tw_1_14 : (Cond.initialized "Trenchboard$Street") ∈ GW := mGW (tb1 (List.mem_of_getElem? (i := 14) rfl)) rfl
theorem tw_1_15 : (Cond.initialized "java/lang/Math") ∈ GW := mGW (tb1 (List.mem_of_getElem? (i := 15) rfl)) rfl
theorem tw_1_16 : (Cond.initialized "Trenchboard$Metre") ∈ GW := mGW (tb1 (List.mem_of_getElem? (i := 16) rfl)) rfl
theorem tw_1_17 : (Cond.initialized "Trenchboard$Telling") ∈ GW := mGW (tb1 (List.mem_of_getElem? (i := 17) rfl)) rfl
theorem tw_1_18 : (Cond.initialized "jdk/internal/util/ArraysSupport") ∈ GW := mGW (tb1 (List.mem_of_getElem? (i := 18) rfl)) rfl
theorem tw_1_19 : (Cond.initialized "java/util/Arrays") ∈ GW := mGW (tb1 (List.mem_of_getElem? (i := 19) rfl)) rfl
theorem tw_1_20 : (Cond.initialized "java/lang/System") ∈ GW := mGW (tb1 (List.mem_of_getElem? (i := 20) rfl)) rfl
theorem tw_1_21 : (Cond.initialized "Trenchboard$Thing") ∈ GW := mGW (tb1 (List.mem_of_getElem? (i := 21) rfl)) rfl
theorem tw_1_22 : (Cond.initialized "Trenchboard$Works") ∈ GW := mGW (tb1 (List.mem_of_getElem? (i := 22) rfl)) rfl
theorem tw_1_23 : (Cond.initialized "Trenchboard$Fill") ∈ GW := mGW (tb1 (List.mem_of_getElem? (i := 23) rfl)) rfl
theorem tw_1_24 : (Cond.initialized "java/util/Objects") ∈ GW := mGW (tb1 (List.mem_of_getElem? (i := 24) rfl)) rfl
theorem tw_1_25 : (Cond.initialized "jdk/internal/util/Preconditions") ∈ GW := mGW (tb1 (List.mem_of_getElem? (i := 25) rfl)) rfl
theorem tw_1_26 : (Cond.classLink "TrenchboardLaw" 8 "Trenchboard") ∈ GW := mGW (tb1 (List.mem_of_getElem? (i := 26) rfl)) rfl
theorem tw_1_27 : (Cond.instantiable "Trenchboard" 10) ∈ GW := mGW (tb1 (List.mem_of_getElem? (i := 27) rfl)) rfl
theorem tw_1_28 : (Cond.methodLink "TrenchboardLaw" 126 yX8_init) ∈ GW := mGW (tb1 (List.mem_of_getElem? (i := 28) rfl)) rfl
theorem tw_1_29 : (Cond.instanceMethod yX8_init) ∈ GW := mGW (tb1 (List.mem_of_getElem? (i := 29) rfl)) rfl
theorem tw_1_30 : (Cond.code yX8_init prog_1_method_1_code 2 (Option.none : Option Jvm.ClassFile.FieldType)) ∈ GW := mGW (tb1 (List.mem_of_getElem? (i := 30) rfl)) rfl
theorem tw_1_31 : (Cond.methodLink "Trenchboard" 1 ⟨"java/lang/Object", "<init>", "()V"⟩) ∈ GW := mGW (tb1 (List.mem_of_getElem? (i := 31) rfl)) rfl
theorem tw_1_32 : (Cond.instanceMethod ⟨"java/lang/Object", "<init>", "()V"⟩) ∈ GW := mGW (tb1 (List.mem_of_getElem? (i := 32) rfl)) rfl
theorem tw_1_34 : (Cond.classLink "Trenchboard" 9 "Trenchboard$Street") ∈ GW := mGW (tb1 (List.mem_of_getElem? (i := 34) rfl)) rfl
theorem tw_1_35 : (Cond.arrayOver (Jvm.ClassFile.FieldType.object "Trenchboard$Street")) ∈ lw_tbl := tb1 (List.mem_of_getElem? (i := 35) rfl)
theorem tw_1_36 : (Cond.classLink "Trenchboard" 15 "Trenchboard$Thing") ∈ GW := mGW (tb1 (List.mem_of_getElem? (i := 36) rfl)) rfl
theorem tw_1_37 : (Cond.arrayOver (Jvm.ClassFile.FieldType.object "Trenchboard$Thing")) ∈ lw_tbl := tb1 (List.mem_of_getElem? (i := 37) rfl)
theorem tw_1_38 : (Cond.classLink "Trenchboard" 21 "Trenchboard$Works") ∈ GW := mGW (tb1 (List.mem_of_getElem? (i := 38) rfl)) rfl
theorem tw_1_39 : (Cond.arrayOver (Jvm.ClassFile.FieldType.object "Trenchboard$Works")) ∈ lw_tbl := tb1 (List.mem_of_getElem? (i := 39) rfl)
theorem tw_1_40 : (Cond.classLink "Trenchboard" 27 "Trenchboard$Party") ∈ GW := mGW (tb1 (List.mem_of_getElem? (i := 40) rfl)) rfl
theorem tw_1_41 : (Cond.arrayOver (Jvm.ClassFile.FieldType.object "Trenchboard$Party")) ∈ lw_tbl := tb1 (List.mem_of_getElem? (i := 41) rfl)
theorem tw_1_42 : (Cond.classLink "Trenchboard" 33 "Trenchboard$Ledger") ∈ GW := mGW (tb1 (List.mem_of_getElem? (i := 42) rfl)) rfl
theorem tw_1_43 : (Cond.instantiable "Trenchboard$Ledger" 2) ∈ GW := mGW (tb1 (List.mem_of_getElem? (i := 43) rfl)) rfl
theorem tw_1_44 : (Cond.methodLinkNest "Trenchboard" 35 yX1_init "Trenchboard") ∈ lw_tbl := tb1 (List.mem_of_getElem? (i := 44) rfl)
theorem tw_1_45 : (Cond.instanceMethod yX1_init) ∈ GW := mGW (tb1 (List.mem_of_getElem? (i := 45) rfl)) rfl
theorem tw_1_46 : (Cond.code yX1_init prog_3_method_1_code 1 (Option.none : Option Jvm.ClassFile.FieldType)) ∈ GW := mGW (tb1 (List.mem_of_getElem? (i := 46) rfl)) rfl
theorem tw_1_47 : (Cond.methodLink "Trenchboard$Ledger" 1 ⟨"java/lang/Object", "<init>", "()V"⟩) ∈ GW := mGW (tb1 (List.mem_of_getElem? (i := 47) rfl)) rfl
theorem tw_1_48 : (Cond.fieldLink "Trenchboard$Ledger" 7 "Trenchboard$Ledger" "rows" "[I") ∈ GW := mGW (tb1 (List.mem_of_getElem? (i := 48) rfl)) rfl
theorem tw_1_49 : (Cond.fieldLink "Trenchboard$Ledger" 13 "Trenchboard$Ledger" "size" "I") ∈ GW := mGW (tb1 (List.mem_of_getElem? (i := 49) rfl)) rfl
theorem tw_1_50 : (Cond.lays "Trenchboard$Ledger" "Trenchboard$Ledger" "rows" "[I") ∈ GW := mGW (tb1 (List.mem_of_getElem? (i := 50) rfl)) rfl
theorem tw_1_52 : (Cond.lays "Trenchboard$Ledger" "Trenchboard$Ledger" "size" "I") ∈ GW := mGW (tb1 (List.mem_of_getElem? (i := 52) rfl)) rfl
theorem tw_1_54 : (Cond.superclass "Trenchboard$Ledger" "java/lang/Object") ∈ lw_tbl := tb1 (List.mem_of_getElem? (i := 54) rfl)
theorem tw_1_55 : (Cond.arrayClass Jvm.ClassFile.FieldType.int) ∈ GW := mGW (tb1 (List.mem_of_getElem? (i := 55) rfl)) rfl
theorem tw_1_56 : (Cond.classLink "Trenchboard" 40 "java/util/ArrayList") ∈ GW := mGW (tb1 (List.mem_of_getElem? (i := 56) rfl)) rfl
theorem tw_1_57 : (Cond.instantiable "java/util/ArrayList" 3) ∈ GW := mGW (tb1 (List.mem_of_getElem? (i := 57) rfl)) rfl
theorem tw_1_58 : (Cond.methodLink "Trenchboard" 42 yJx4a65c_init_da8c8) ∈ GW := mGW (tb1 (List.mem_of_getElem? (i := 58) rfl)) rfl
theorem tw_1_59 : (Cond.instanceMethod yJx4a65c_init_da8c8) ∈ GW := mGW (tb1 (List.mem_of_getElem? (i := 59) rfl)) rfl
theorem tw_1_60 : (Cond.code yJx4a65c_init_da8c8 prog_26_method_2_code 1 (Option.none : Option Jvm.ClassFile.FieldType)) ∈ GW := mGW (tb1 (List.mem_of_getElem? (i := 60) rfl)) rfl
theorem tw_1_61 : (Cond.methodLink "java/util/ArrayList" 1 yJxc12de_init_da8c8) ∈ GW := mGW (tb1 (List.mem_of_getElem? (i := 61) rfl)) rfl
theorem tw_1_62 : (Cond.instanceMethod yJxc12de_init_da8c8) ∈ GW := mGW (tb1 (List.mem_of_getElem? (i := 62) rfl)) rfl
theorem tw_1_63 : (Cond.code yJxc12de_init_da8c8 prog_25_method_1_code 1 (Option.none : Option Jvm.ClassFile.FieldType)) ∈ GW := mGW (tb1 (List.mem_of_getElem? (i := 63) rfl)) rfl
theorem tw_1_64 : (Cond.methodLink "java/util/AbstractList" 1 yJxa1e45_init_da8c8) ∈ GW := mGW (tb1 (List.mem_of_getElem? (i := 64) rfl)) rfl
theorem tw_1_65 : (Cond.instanceMethod yJxa1e45_init_da8c8) ∈ GW := mGW (tb1 (List.mem_of_getElem? (i := 65) rfl)) rfl
theorem tw_1_66 : (Cond.code yJxa1e45_init_da8c8 prog_24_method_1_code 1 (Option.none : Option Jvm.ClassFile.FieldType)) ∈ GW := mGW (tb1 (List.mem_of_getElem? (i := 66) rfl)) rfl
theorem tw_1_67 : (Cond.methodLink "java/util/AbstractCollection" 1 ⟨"java/lang/Object", "<init>", "()V"⟩) ∈ GW := mGW (tb1 (List.mem_of_getElem? (i := 67) rfl)) rfl
theorem tw_1_68 : (Cond.fieldLink "java/util/ArrayList" 39 "java/util/ArrayList" "DEFAULTCAPACITY_EMPTY_ELEMENTDATA" "[Ljava/lang/Object;") ∈ GW := mGW (tb1 (List.mem_of_getElem? (i := 68) rfl)) rfl
theorem tw_1_69 : (Cond.laysStatic "java/util/ArrayList" "DEFAULTCAPACITY_EMPTY_ELEMENTDATA" "[Ljava/lang/Object;") ∈ lw_tbl := tb1 (List.mem_of_getElem? (i := 69) rfl)
theorem tw_1_70 : (Cond.fieldLink "java/util/ArrayList" 9 "java/util/ArrayList" "elementData" "[Ljava/lang/Object;") ∈ GW := mGW (tb1 (List.mem_of_getElem? (i := 70) rfl)) rfl
theorem tw_1_71 : (Cond.fieldLink "java/util/ArrayList" 48 "java/util/ArrayList" "size" "I") ∈ GW := mGW (tb1 (List.mem_of_getElem? (i := 71) rfl)) rfl
theorem tw_1_72 : (Cond.fieldLink "java/util/AbstractList" 7 "java/util/AbstractList" "modCount" "I") ∈ GW := mGW (tb1 (List.mem_of_getElem? (i := 72) rfl)) rfl
theorem tw_1_73 : (Cond.fieldLink "java/util/ArrayList" 63 "java/util/ArrayList" "modCount" "I") ∈ GW := mGW (tb1 (List.mem_of_getElem? (i := 73) rfl)) rfl
theorem tw_1_74 : (Cond.sameField "java/util/ArrayList" "java/util/AbstractList" "modCount" "I") ∈ GW := mGW (tb1 (List.mem_of_getElem? (i := 74) rfl)) rfl
theorem tw_1_75 : (Cond.lays "java/util/ArrayList" "java/util/ArrayList" "elementData" "[Ljava/lang/Object;") ∈ GW := mGW (tb1 (List.mem_of_getElem? (i := 75) rfl)) rfl
theorem tw_1_77 : (Cond.lays "java/util/ArrayList" "java/util/ArrayList" "size" "I") ∈ GW := mGW (tb1 (List.mem_of_getElem? (i := 77) rfl)) rfl
theorem tw_1_79 : (Cond.lays "java/util/ArrayList" "java/util/AbstractList" "modCount" "I") ∈ GW := mGW (tb1 (List.mem_of_getElem? (i := 79) rfl)) rfl
theorem tw_1_81 : (Cond.superclass "java/util/ArrayList" "java/util/AbstractList") ∈ lw_tbl := tb1 (List.mem_of_getElem? (i := 81) rfl)
theorem tw_1_82 : (Cond.instantiable "Trenchboard$Party" 4) ∈ GW := mGW (tb1 (List.mem_of_getElem? (i := 82) rfl)) rfl
theorem tw_1_83 : (Cond.methodLinkNest "Trenchboard" 47 yX3_init "Trenchboard") ∈ lw_tbl := tb1 (List.mem_of_getElem? (i := 83) rfl)
theorem tw_1_84 : (Cond.instanceMethod yX3_init) ∈ GW := mGW (tb1 (List.mem_of_getElem? (i := 84) rfl)) rfl
theorem tw_1_85 : (Cond.code yX3_init prog_5_method_1_code 1 (Option.none : Option Jvm.ClassFile.FieldType)) ∈ GW := mGW (tb1 (List.mem_of_getElem? (i := 85) rfl)) rfl
theorem tw_1_86 : (Cond.methodLink "Trenchboard$Party" 1 ⟨"java/lang/Object", "<init>", "()V"⟩) ∈ GW := mGW (tb1 (List.mem_of_getElem? (i := 86) rfl)) rfl
theorem tw_1_87 : (Cond.fieldLink "Trenchboard" 442 "Trenchboard$Party" "balance" "J") ∈ GW := mGW (tb1 (List.mem_of_getElem? (i := 87) rfl)) rfl
theorem tw_1_88 : (Cond.fieldLink "Trenchboard" 436 "Trenchboard$Party" "fills" "I") ∈ GW := mGW (tb1 (List.mem_of_getElem? (i := 88) rfl)) rfl
theorem tw_1_89 : (Cond.fieldLink "Trenchboard" 430 "Trenchboard$Party" "faults" "I") ∈ GW := mGW (tb1 (List.mem_of_getElem? (i := 89) rfl)) rfl
theorem tw_1_90 : (Cond.fieldLink "Trenchboard" 437 "Trenchboard$Party" "cores" "I") ∈ GW := mGW (tb1 (List.mem_of_getElem? (i := 90) rfl)) rfl
theorem tw_1_91 : (Cond.lays "Trenchboard$Party" "Trenchboard$Party" "balance" "J") ∈ GW := mGW (tb1 (List.mem_of_getElem? (i := 91) rfl)) rfl
theorem tw_1_93 : (Cond.lays "Trenchboard$Party" "Trenchboard$Party" "fills" "I") ∈ GW := mGW (tb1 (List.mem_of_getElem? (i := 93) rfl)) rfl
theorem tw_1_95 : (Cond.lays "Trenchboard$Party" "Trenchboard$Party" "faults" "I") ∈ GW := mGW (tb1 (List.mem_of_getElem? (i := 95) rfl)) rfl
theorem tw_1_97 : (Cond.lays "Trenchboard$Party" "Trenchboard$Party" "cores" "I") ∈ GW := mGW (tb1 (List.mem_of_getElem? (i := 97) rfl)) rfl
theorem tw_1_99 : (Cond.superclass "Trenchboard$Party" "java/lang/Object") ∈ lw_tbl := tb1 (List.mem_of_getElem? (i := 99) rfl)
theorem tw_1_100 : (Cond.fieldLink "Trenchboard" 11 "Trenchboard" "streets" "[LTrenchboard$Street;") ∈ GW := mGW (tb1 (List.mem_of_getElem? (i := 100) rfl)) rfl
theorem tw_1_101 : (Cond.fieldLink "Trenchboard" 64 "Trenchboard" "streetCount" "I") ∈ GW := mGW (tb1 (List.mem_of_getElem? (i := 101) rfl)) rfl
theorem tw_1_102 : (Cond.fieldLink "Trenchboard" 17 "Trenchboard" "things" "[LTrenchboard$Thing;") ∈ GW := mGW (tb1 (List.mem_of_getElem? (i := 102) rfl)) rfl
theorem tw_1_103 : (Cond.fieldLink "Trenchboard" 143 "Trenchboard" "thingCount" "I") ∈ GW := mGW (tb1 (List.mem_of_getElem? (i := 103) rfl)) rfl
theorem tw_1_104 : (Cond.fieldLink "Trenchboard" 23 "Trenchboard" "allWorks" "[LTrenchboard$Works;") ∈ GW := mGW (tb1 (List.mem_of_getElem? (i := 104) rfl)) rfl
theorem tw_1_105 : (Cond.fieldLink "Trenchboard" 203 "Trenchboard" "worksCount" "I") ∈ GW := mGW (tb1 (List.mem_of_getElem? (i := 105) rfl)) rfl
theorem tw_1_106 : (Cond.fieldLink "Trenchboard" 29 "Trenchboard" "parties" "[LTrenchboard$Party;") ∈ GW := mGW (tb1 (List.mem_of_getElem? (i := 106) rfl)) rfl
theorem tw_1_107 : (Cond.fieldLink "Trenchboard" 36 "Trenchboard" "ledger" "LTrenchboard$Ledger;") ∈ GW := mGW (tb1 (List.mem_of_getElem? (i := 107) rfl)) rfl
theorem tw_1_108 : (Cond.fieldLink "Trenchboard" 43 "Trenchboard" "tellings" "Ljava/util/ArrayList;") ∈ GW := mGW (tb1 (List.mem_of_getElem? (i := 108) rfl)) rfl
theorem tw_1_109 : (Cond.fieldLink "Trenchboard" 352 "Trenchboard" "hour" "I") ∈ GW := mGW (tb1 (List.mem_of_getElem? (i := 109) rfl)) rfl
theorem tw_1_110 : (Cond.laysFinal "Trenchboard" "Trenchboard" "streets" "[LTrenchboard$Street;") ∈ GW := mGW (tb1 (List.mem_of_getElem? (i := 110) rfl)) rfl
theorem tw_1_112 : (Cond.lays "Trenchboard" "Trenchboard" "streetCount" "I") ∈ GW := mGW (tb1 (List.mem_of_getElem? (i := 112) rfl)) rfl
theorem tw_1_114 : (Cond.laysFinal "Trenchboard" "Trenchboard" "things" "[LTrenchboard$Thing;") ∈ GW := mGW (tb1 (List.mem_of_getElem? (i := 114) rfl)) rfl
theorem tw_1_116 : (Cond.lays "Trenchboard" "Trenchboard" "thingCount" "I") ∈ GW := mGW (tb1 (List.mem_of_getElem? (i := 116) rfl)) rfl
theorem tw_1_118 : (Cond.laysFinal "Trenchboard" "Trenchboard" "allWorks" "[LTrenchboard$Works;") ∈ GW := mGW (tb1 (List.mem_of_getElem? (i := 118) rfl)) rfl
theorem tw_1_120 : (Cond.lays "Trenchboard" "Trenchboard" "worksCount" "I") ∈ GW := mGW (tb1 (List.mem_of_getElem? (i := 120) rfl)) rfl
theorem tw_1_122 : (Cond.laysFinal "Trenchboard" "Trenchboard" "parties" "[LTrenchboard$Party;") ∈ GW := mGW (tb1 (List.mem_of_getElem? (i := 122) rfl)) rfl
theorem tw_1_124 : (Cond.laysFinal "Trenchboard" "Trenchboard" "ledger" "LTrenchboard$Ledger;") ∈ GW := mGW (tb1 (List.mem_of_getElem? (i := 124) rfl)) rfl
theorem tw_1_126 : (Cond.laysFinal "Trenchboard" "Trenchboard" "tellings" "Ljava/util/ArrayList;") ∈ GW := mGW (tb1 (List.mem_of_getElem? (i := 126) rfl)) rfl
theorem tw_1_128 : (Cond.lays "Trenchboard" "Trenchboard" "hour" "I") ∈ GW := mGW (tb1 (List.mem_of_getElem? (i := 128) rfl)) rfl
theorem tw_1_130 : (Cond.superclass "Trenchboard" "java/lang/Object") ∈ lw_tbl := tb1 (List.mem_of_getElem? (i := 130) rfl)
theorem tw_1_131 : (Cond.methodLink "TrenchboardLaw" 130 yL_street) ∈ GW := mGW (tb1 (List.mem_of_getElem? (i := 131) rfl)) rfl
theorem tw_1_132 : (Cond.static yL_street) ∈ GW := mGW (tb1 (List.mem_of_getElem? (i := 132) rfl)) rfl
theorem tw_1_133 : (Cond.codeWith yL_street method_3_code 7 (Option.some Jvm.ClassFile.FieldType.int) [((0 : Nat), (14 : Nat), (17 : Nat), (13 : Nat)), ((0 : Nat), (14 : Nat), (21 : Nat), (15 : Nat)), ((0 : Nat), (14 : Nat), (25 : Nat), (17 : Nat))]) ∈ GW := mGW (tb1 (List.mem_of_getElem? (i := 133) rfl)) rfl
theorem tw_1_134 : (Cond.classLink "TrenchboardLaw" 13 "java/lang/IndexOutOfBoundsException") ∈ GW := mGW (tb1 (List.mem_of_getElem? (i := 134) rfl)) rfl
theorem tw_1_135 : (Cond.classLink "TrenchboardLaw" 15 "java/lang/IllegalArgumentException") ∈ GW := mGW (tb1 (List.mem_of_getElem? (i := 135) rfl)) rfl
theorem tw_1_136 : (Cond.classLink "TrenchboardLaw" 17 "java/lang/IllegalStateException") ∈ GW := mGW (tb1 (List.mem_of_getElem? (i := 136) rfl)) rfl
theorem tw_1_137 : (Cond.methodLink "TrenchboardLaw" 7 yX8_street) ∈ GW := mGW (tb1 (List.mem_of_getElem? (i := 137) rfl)) rfl
theorem tw_1_138 : (Cond.instanceMethod yX8_street) ∈ GW := mGW (tb1 (List.mem_of_getElem? (i := 138) rfl)) rfl
theorem tw_1_139 : (Cond.selects "Trenchboard" yX8_street yX8_street) ∈ GW := mGW (tb1 (List.mem_of_getElem? (i := 139) rfl)) rfl
theorem tw_1_140 : (Cond.code yX8_street prog_1_method_2_code 6 (Option.some Jvm.ClassFile.FieldType.int)) ∈ GW := mGW (tb1 (List.mem_of_getElem? (i := 140) rfl)) rfl
theorem tw_1_141 : (Cond.methodLink "Trenchboard" 48 yX8_streetAt) ∈ GW := mGW (tb1 (List.mem_of_getElem? (i := 141) rfl)) rfl
theorem tw_1_143 : (Cond.instanceMethod yX8_streetAt) ∈ GW := mGW (tb1 (List.mem_of_getElem? (i := 143) rfl)) rfl
theorem tw_1_144 : (Cond.code yX8_streetAt prog_1_method_36_code 2 (Option.some (Jvm.ClassFile.FieldType.object "Trenchboard$Street"))) ∈ GW := mGW (tb1 (List.mem_of_getElem? (i := 144) rfl)) rfl
theorem tw_1_145 : (Cond.classLink "Trenchboard" 52 "java/lang/IndexOutOfBoundsException") ∈ GW := mGW (tb1 (List.mem_of_getElem? (i := 145) rfl)) rfl
theorem tw_1_146 : (Cond.instantiable "java/lang/IndexOutOfBoundsException" 6) ∈ GW := mGW (tb1 (List.mem_of_getElem? (i := 146) rfl)) rfl
theorem tw_1_147 : (Cond.castable "java/lang/IndexOutOfBoundsException" "java/lang/IndexOutOfBoundsException") ∈ lw_tbl := tb1 (List.mem_of_getElem? (i := 147) rfl)
theorem tw_1_148 : (Cond.declares ⟨"java/lang/RuntimeException", "<init>", "()V"⟩) ∈ lw_tbl := tb1 (List.mem_of_getElem? (i := 148) rfl)
theorem tw_1_149 : (Cond.declares ⟨"java/lang/RuntimeException", "<init>", "(Ljava/lang/String;)V"⟩) ∈ lw_tbl := tb1 (List.mem_of_getElem? (i := 149) rfl)
theorem tw_1_150 : (Cond.declares ⟨"java/lang/Exception", "<init>", "()V"⟩) ∈ lw_tbl := tb1 (List.mem_of_getElem? (i := 150) rfl)
theorem tw_1_151 : (Cond.declares ⟨"java/lang/Exception", "<init>", "(Ljava/lang/String;)V"⟩) ∈ lw_tbl := tb1 (List.mem_of_getElem? (i := 151) rfl)
theorem tw_1_152 : (Cond.declares ⟨"java/lang/Throwable", "<init>", "()V"⟩) ∈ lw_tbl := tb1 (List.mem_of_getElem? (i := 152) rfl)
theorem tw_1_153 : (Cond.declares ⟨"java/lang/Throwable", "<init>", "(Ljava/lang/String;)V"⟩) ∈ lw_tbl := tb1 (List.mem_of_getElem? (i := 153) rfl)
theorem tw_1_154 : (Cond.selects "java/lang/IndexOutOfBoundsException" ⟨"java/lang/Throwable", "fillInStackTrace", "(I)Ljava/lang/Throwable;"⟩ ⟨"java/lang/Throwable", "fillInStackTrace", "(I)Ljava/lang/Throwable;"⟩) ∈ GW := mGW (tb1 (List.mem_of_getElem? (i := 154) rfl)) rfl
theorem tw_1_155 : (Cond.selects "java/lang/IndexOutOfBoundsException" ⟨"java/lang/Throwable", "fillInStackTrace", "()Ljava/lang/Throwable;"⟩ ⟨"java/lang/Throwable", "fillInStackTrace", "()Ljava/lang/Throwable;"⟩) ∈ GW := mGW (tb1 (List.mem_of_getElem? (i := 155) rfl)) rfl
theorem tw_1_156 : (Cond.lays "java/lang/IndexOutOfBoundsException" "java/lang/Throwable" "cause" "Ljava/lang/Throwable;") ∈ GW := mGW (tb1 (List.mem_of_getElem? (i := 156) rfl)) rfl
theorem tw_1_157 : (Cond.lays "java/lang/Throwable" "java/lang/Throwable" "cause" "Ljava/lang/Throwable;") ∈ GW := mGW (tb1 (List.mem_of_getElem? (i := 157) rfl)) rfl
theorem tw_1_158 : (Cond.lays "java/lang/IndexOutOfBoundsException" "java/lang/Throwable" "stackTrace" "[Ljava/lang/StackTraceElement;") ∈ GW := mGW (tb1 (List.mem_of_getElem? (i := 158) rfl)) rfl
theorem tw_1_159 : (Cond.lays "java/lang/Throwable" "java/lang/Throwable" "stackTrace" "[Ljava/lang/StackTraceElement;") ∈ GW := mGW (tb1 (List.mem_of_getElem? (i := 159) rfl)) rfl
theorem tw_1_160 : (Cond.lays "java/lang/IndexOutOfBoundsException" "java/lang/Throwable" "suppressedExceptions" "Ljava/util/List;") ∈ GW := mGW (tb1 (List.mem_of_getElem? (i := 160) rfl)) rfl
theorem tw_1_161 : (Cond.lays "java/lang/Throwable" "java/lang/Throwable" "suppressedExceptions" "Ljava/util/List;") ∈ GW := mGW (tb1 (List.mem_of_getElem? (i := 161) rfl)) rfl
theorem tw_1_162 : (Cond.lays "java/lang/IndexOutOfBoundsException" "java/lang/Throwable" "detailMessage" "Ljava/lang/String;") ∈ GW := mGW (tb1 (List.mem_of_getElem? (i := 162) rfl)) rfl
theorem tw_1_163 : (Cond.lays "java/lang/Throwable" "java/lang/Throwable" "detailMessage" "Ljava/lang/String;") ∈ GW := mGW (tb1 (List.mem_of_getElem? (i := 163) rfl)) rfl
theorem tw_1_164 : (Cond.lays "java/lang/IndexOutOfBoundsException" "java/lang/Throwable" "backtrace" "Ljava/lang/Object;") ∈ GW := mGW (tb1 (List.mem_of_getElem? (i := 164) rfl)) rfl
theorem tw_1_165 : (Cond.lays "java/lang/Throwable" "java/lang/Throwable" "backtrace" "Ljava/lang/Object;") ∈ GW := mGW (tb1 (List.mem_of_getElem? (i := 165) rfl)) rfl
theorem tw_1_166 : (Cond.fieldLink "java/lang/Throwable" 198 "java/lang/Throwable" "backtrace" "Ljava/lang/Object;") ∈ GW := mGW (tb1 (List.mem_of_getElem? (i := 166) rfl)) rfl
theorem tw_1_167 : (Cond.superclass "java/lang/Throwable" "java/lang/Object") ∈ lw_tbl := tb1 (List.mem_of_getElem? (i := 167) rfl)
theorem tw_1_168 : (Cond.instanceMethod ⟨"java/lang/Throwable", "<init>", "()V"⟩) ∈ GW := mGW (tb1 (List.mem_of_getElem? (i := 168) rfl)) rfl
theorem tw_1_170 : (Cond.methodLink "java/lang/Throwable" 1 ⟨"java/lang/Object", "<init>", "()V"⟩) ∈ GW := mGW (tb1 (List.mem_of_getElem? (i := 170) rfl)) rfl
theorem tw_1_171 : (Cond.fieldLink "java/lang/Throwable" 13 "java/lang/Throwable" "UNASSIGNED_STACK" "[Ljava/lang/StackTraceElement;") ∈ GW := mGW (tb1 (List.mem_of_getElem? (i := 171) rfl)) rfl
theorem tw_1_172 : (Cond.laysStatic "java/lang/Throwable" "UNASSIGNED_STACK" "[Ljava/lang/StackTraceElement;") ∈ lw_tbl := tb1 (List.mem_of_getElem? (i := 172) rfl)
theorem tw_1_173 : (Cond.fieldLink "java/lang/Throwable" 20 "java/lang/Throwable" "SUPPRESSED_SENTINEL" "Ljava/util/List;") ∈ GW := mGW (tb1 (List.mem_of_getElem? (i := 173) rfl)) rfl
theorem tw_1_174 : (Cond.laysStatic "java/lang/Throwable" "SUPPRESSED_SENTINEL" "Ljava/util/List;") ∈ lw_tbl := tb1 (List.mem_of_getElem? (i := 174) rfl)
theorem tw_1_175 : (Cond.methodLink "java/lang/Throwable" 27 ⟨"java/lang/Throwable", "fillInStackTrace", "()Ljava/lang/Throwable;"⟩) ∈ GW := mGW (tb1 (List.mem_of_getElem? (i := 175) rfl)) rfl
theorem tw_1_176 : (Cond.instanceMethod ⟨"java/lang/Throwable", "fillInStackTrace", "()Ljava/lang/Throwable;"⟩) ∈ GW := mGW (tb1 (List.mem_of_getElem? (i := 176) rfl)) rfl
theorem tw_1_177 : (Cond.sameMethod "java/lang/Throwable" "java/lang/Throwable" "fillInStackTrace" "()Ljava/lang/Throwable;") ∈ lw_tbl := tb1 (List.mem_of_getElem? (i := 177) rfl)
theorem tw_1_178 : (Cond.selects "java/lang/IllegalArgumentException" ⟨"java/lang/Throwable", "fillInStackTrace", "()Ljava/lang/Throwable;"⟩ ⟨"java/lang/Throwable", "fillInStackTrace", "()Ljava/lang/Throwable;"⟩) ∈ GW := mGW (tb1 (List.mem_of_getElem? (i := 178) rfl)) rfl
theorem tw_1_179 : (Cond.selects "java/lang/IllegalStateException" ⟨"java/lang/Throwable", "fillInStackTrace", "()Ljava/lang/Throwable;"⟩ ⟨"java/lang/Throwable", "fillInStackTrace", "()Ljava/lang/Throwable;"⟩) ∈ GW := mGW (tb1 (List.mem_of_getElem? (i := 179) rfl)) rfl
theorem tw_1_181 : (Cond.methodLink "java/lang/Throwable" 202 ⟨"java/lang/Throwable", "fillInStackTrace", "(I)Ljava/lang/Throwable;"⟩) ∈ GW := mGW (tb1 (List.mem_of_getElem? (i := 181) rfl)) rfl
theorem tw_1_183 : (Cond.instanceMethod ⟨"java/lang/Throwable", "fillInStackTrace", "(I)Ljava/lang/Throwable;"⟩) ∈ GW := mGW (tb1 (List.mem_of_getElem? (i := 183) rfl)) rfl
theorem tw_1_184 : (Cond.instantiable "java/lang/Throwable" 6) ∈ GW := mGW (tb1 (List.mem_of_getElem? (i := 184) rfl)) rfl
theorem tw_1_185 : (Cond.native ⟨"java/lang/Throwable", "fillInStackTrace", "(I)Ljava/lang/Throwable;"⟩) ∈ GW := mGW (tb1 (List.mem_of_getElem? (i := 185) rfl)) rfl
theorem tw_1_186 : (Cond.stringRef "Trenchboard" 54 "no such way around") ∈ lw_tbl := tb1 (List.mem_of_getElem? (i := 186) rfl)
theorem tw_1_187 : (Cond.methodLink "Trenchboard" 56 ⟨"java/lang/IndexOutOfBoundsException", "<init>", "(Ljava/lang/String;)V"⟩) ∈ GW := mGW (tb1 (List.mem_of_getElem? (i := 187) rfl)) rfl
theorem tw_1_188 : (Cond.instanceMethod ⟨"java/lang/IndexOutOfBoundsException", "<init>", "(Ljava/lang/String;)V"⟩) ∈ GW := mGW (tb1 (List.mem_of_getElem? (i := 188) rfl)) rfl
theorem tw_1_190 : (Cond.methodLink "java/lang/IndexOutOfBoundsException" 7 ⟨"java/lang/RuntimeException", "<init>", "(Ljava/lang/String;)V"⟩) ∈ GW := mGW (tb1 (List.mem_of_getElem? (i := 190) rfl)) rfl
theorem tw_1_191 : (Cond.instanceMethod ⟨"java/lang/RuntimeException", "<init>", "(Ljava/lang/String;)V"⟩) ∈ GW := mGW (tb1 (List.mem_of_getElem? (i := 191) rfl)) rfl
theorem tw_1_193 : (Cond.methodLink "java/lang/RuntimeException" 7 ⟨"java/lang/Exception", "<init>", "(Ljava/lang/String;)V"⟩) ∈ GW := mGW (tb1 (List.mem_of_getElem? (i := 193) rfl)) rfl
theorem tw_1_194 : (Cond.instanceMethod ⟨"java/lang/Exception", "<init>", "(Ljava/lang/String;)V"⟩) ∈ GW := mGW (tb1 (List.mem_of_getElem? (i := 194) rfl)) rfl
theorem tw_1_196 : (Cond.methodLink "java/lang/Exception" 7 ⟨"java/lang/Throwable", "<init>", "(Ljava/lang/String;)V"⟩) ∈ GW := mGW (tb1 (List.mem_of_getElem? (i := 196) rfl)) rfl
theorem tw_1_197 : (Cond.instanceMethod ⟨"java/lang/Throwable", "<init>", "(Ljava/lang/String;)V"⟩) ∈ GW := mGW (tb1 (List.mem_of_getElem? (i := 197) rfl)) rfl
theorem tw_1_199 : (Cond.fieldLink "java/lang/Throwable" 198 "java/lang/Throwable" "backtrace" "Ljava/lang/Object;") ∈ GW := mGW (tb1 (List.mem_of_getElem? (i := 199) rfl)) rfl
theorem tw_1_200 : (Cond.fieldLink "java/lang/Throwable" 31 "java/lang/Throwable" "detailMessage" "Ljava/lang/String;") ∈ GW := mGW (tb1 (List.mem_of_getElem? (i := 200) rfl)) rfl
theorem tw_1_201 : (Cond.fieldLink "java/lang/Throwable" 7 "java/lang/Throwable" "cause" "Ljava/lang/Throwable;") ∈ GW := mGW (tb1 (List.mem_of_getElem? (i := 201) rfl)) rfl
theorem tw_1_202 : (Cond.fieldLink "java/lang/Throwable" 17 "java/lang/Throwable" "stackTrace" "[Ljava/lang/StackTraceElement;") ∈ GW := mGW (tb1 (List.mem_of_getElem? (i := 202) rfl)) rfl
theorem tw_1_203 : (Cond.fieldLink "java/lang/Throwable" 24 "java/lang/Throwable" "suppressedExceptions" "Ljava/util/List;") ∈ GW := mGW (tb1 (List.mem_of_getElem? (i := 203) rfl)) rfl
theorem tw_1_208 : (Cond.lays "java/lang/IndexOutOfBoundsException" "java/lang/Throwable" "depth" "I") ∈ GW := mGW (tb1 (List.mem_of_getElem? (i := 208) rfl)) rfl
theorem tw_1_211 : (Cond.superclass "java/lang/IndexOutOfBoundsException" "java/lang/RuntimeException") ∈ lw_tbl := tb1 (List.mem_of_getElem? (i := 211) rfl)
theorem tw_1_212 : (Cond.arrayClass Jvm.ClassFile.FieldType.byte) ∈ GW := mGW (tb1 (List.mem_of_getElem? (i := 212) rfl)) rfl
theorem tw_1_213 : (Cond.classLink "Trenchboard" 59 "java/lang/IllegalArgumentException") ∈ GW := mGW (tb1 (List.mem_of_getElem? (i := 213) rfl)) rfl
theorem tw_1_214 : (Cond.instantiable "java/lang/IllegalArgumentException" 6) ∈ GW := mGW (tb1 (List.mem_of_getElem? (i := 214) rfl)) rfl
theorem tw_1_215 : (Cond.castable "java/lang/IllegalArgumentException" "java/lang/IllegalArgumentException") ∈ lw_tbl := tb1 (List.mem_of_getElem? (i := 215) rfl)
theorem tw_1_216 : (Cond.selects "java/lang/IllegalArgumentException" ⟨"java/lang/Throwable", "fillInStackTrace", "(I)Ljava/lang/Throwable;"⟩ ⟨"java/lang/Throwable", "fillInStackTrace", "(I)Ljava/lang/Throwable;"⟩) ∈ GW := mGW (tb1 (List.mem_of_getElem? (i := 216) rfl)) rfl
theorem tw_1_217 : (Cond.lays "java/lang/IllegalArgumentException" "java/lang/Throwable" "cause" "Ljava/lang/Throwable;") ∈ GW := mGW (tb1 (List.mem_of_getElem? (i := 217) rfl)) rfl
theorem tw_1_218 : (Cond.lays "java/lang/IllegalArgumentException" "java/lang/Throwable" "stackTrace" "[Ljava/lang/StackTraceElement;") ∈ GW := mGW (tb1 (List.mem_of_getElem? (i := 218) rfl)) rfl
theorem tw_1_219 : (Cond.lays "java/lang/IllegalArgumentException" "java/lang/Throwable" "suppressedExceptions" "Ljava/util/List;") ∈ GW := mGW (tb1 (List.mem_of_getElem? (i := 219) rfl)) rfl
theorem tw_1_220 : (Cond.lays "java/lang/IllegalArgumentException" "java/lang/Throwable" "detailMessage" "Ljava/lang/String;") ∈ GW := mGW (tb1 (List.mem_of_getElem? (i := 220) rfl)) rfl
theorem tw_1_221 : (Cond.lays "java/lang/IllegalArgumentException" "java/lang/Throwable" "backtrace" "Ljava/lang/Object;") ∈ GW := mGW (tb1 (List.mem_of_getElem? (i := 221) rfl)) rfl
theorem tw_1_222 : (Cond.stringRef "Trenchboard" 61 "metres, class or flow out of range") ∈ lw_tbl := tb1 (List.mem_of_getElem? (i := 222) rfl)
theorem tw_1_223 : (Cond.methodLink "Trenchboard" 63 ⟨"java/lang/IllegalArgumentException", "<init>", "(Ljava/lang/String;)V"⟩) ∈ GW := mGW (tb1 (List.mem_of_getElem? (i := 223) rfl)) rfl
theorem tw_1_224 : (Cond.instanceMethod ⟨"java/lang/IllegalArgumentException", "<init>", "(Ljava/lang/String;)V"⟩) ∈ GW := mGW (tb1 (List.mem_of_getElem? (i := 224) rfl)) rfl
theorem tw_1_226 : (Cond.methodLink "java/lang/IllegalArgumentException" 7 ⟨"java/lang/RuntimeException", "<init>", "(Ljava/lang/String;)V"⟩) ∈ GW := mGW (tb1 (List.mem_of_getElem? (i := 226) rfl)) rfl
theorem tw_1_227 : (Cond.lays "java/lang/IllegalArgumentException" "java/lang/Throwable" "depth" "I") ∈ GW := mGW (tb1 (List.mem_of_getElem? (i := 227) rfl)) rfl
theorem tw_1_228 : (Cond.superclass "java/lang/IllegalArgumentException" "java/lang/RuntimeException") ∈ lw_tbl := tb1 (List.mem_of_getElem? (i := 228) rfl)
theorem tw_1_229 : (Cond.classLink "Trenchboard" 68 "java/lang/IllegalStateException") ∈ GW := mGW (tb1 (List.mem_of_getElem? (i := 229) rfl)) rfl
theorem tw_1_230 : (Cond.instantiable "java/lang/IllegalStateException" 6) ∈ GW := mGW (tb1 (List.mem_of_getElem? (i := 230) rfl)) rfl
theorem tw_1_231 : (Cond.castable "java/lang/IllegalStateException" "java/lang/IllegalStateException") ∈ lw_tbl := tb1 (List.mem_of_getElem? (i := 231) rfl)
theorem tw_1_232 : (Cond.selects "java/lang/IllegalStateException" ⟨"java/lang/Throwable", "fillInStackTrace", "(I)Ljava/lang/Throwable;"⟩ ⟨"java/lang/Throwable", "fillInStackTrace", "(I)Ljava/lang/Throwable;"⟩) ∈ GW := mGW (tb1 (List.mem_of_getElem? (i := 232) rfl)) rfl
theorem tw_1_233 : (Cond.lays "java/lang/IllegalStateException" "java/lang/Throwable" "cause" "Ljava/lang/Throwable;") ∈ GW := mGW (tb1 (List.mem_of_getElem? (i := 233) rfl)) rfl
theorem tw_1_234 : (Cond.lays "java/lang/IllegalStateException" "java/lang/Throwable" "stackTrace" "[Ljava/lang/StackTraceElement;") ∈ GW := mGW (tb1 (List.mem_of_getElem? (i := 234) rfl)) rfl
theorem tw_1_235 : (Cond.lays "java/lang/IllegalStateException" "java/lang/Throwable" "suppressedExceptions" "Ljava/util/List;") ∈ GW := mGW (tb1 (List.mem_of_getElem? (i := 235) rfl)) rfl
theorem tw_1_236 : (Cond.lays "java/lang/IllegalStateException" "java/lang/Throwable" "detailMessage" "Ljava/lang/String;") ∈ GW := mGW (tb1 (List.mem_of_getElem? (i := 236) rfl)) rfl
theorem tw_1_237 : (Cond.lays "java/lang/IllegalStateException" "java/lang/Throwable" "backtrace" "Ljava/lang/Object;") ∈ GW := mGW (tb1 (List.mem_of_getElem? (i := 237) rfl)) rfl
theorem tw_1_238 : (Cond.stringRef "Trenchboard" 70 "no more streets") ∈ lw_tbl := tb1 (List.mem_of_getElem? (i := 238) rfl)
theorem tw_1_239 : (Cond.methodLink "Trenchboard" 72 ⟨"java/lang/IllegalStateException", "<init>", "(Ljava/lang/String;)V"⟩) ∈ GW := mGW (tb1 (List.mem_of_getElem? (i := 239) rfl)) rfl
theorem tw_2_0 : (Cond.instanceMethod ⟨"java/lang/IllegalStateException", "<init>", "(Ljava/lang/String;)V"⟩) ∈ GW := mGW (tb2 (List.mem_of_getElem? (i := 0) rfl)) rfl
theorem tw_2_2 : (Cond.methodLink "java/lang/IllegalStateException" 7 ⟨"java/lang/RuntimeException", "<init>", "(Ljava/lang/String;)V"⟩) ∈ GW := mGW (tb2 (List.mem_of_getElem? (i := 2) rfl)) rfl
theorem tw_2_3 : (Cond.lays "java/lang/IllegalStateException" "java/lang/Throwable" "depth" "I") ∈ GW := mGW (tb2 (List.mem_of_getElem? (i := 3) rfl)) rfl
theorem tw_2_4 : (Cond.superclass "java/lang/IllegalStateException" "java/lang/RuntimeException") ∈ lw_tbl := tb2 (List.mem_of_getElem? (i := 4) rfl)
theorem tw_2_5 : (Cond.instantiable "Trenchboard$Street" 12) ∈ GW := mGW (tb2 (List.mem_of_getElem? (i := 5) rfl)) rfl
theorem tw_2_6 : (Cond.methodLink "Trenchboard" 73 yX4_init) ∈ GW := mGW (tb2 (List.mem_of_getElem? (i := 6) rfl)) rfl
theorem tw_2_7 : (Cond.instanceMethod yX4_init) ∈ GW := mGW (tb2 (List.mem_of_getElem? (i := 7) rfl)) rfl
theorem tw_2_8 : (Cond.code yX4_init prog_6_method_1_code 7 (Option.none : Option Jvm.ClassFile.FieldType)) ∈ GW := mGW (tb2 (List.mem_of_getElem? (i := 8) rfl)) rfl
theorem tw_2_9 : (Cond.methodLink "Trenchboard$Street" 3 ⟨"java/lang/Object", "<init>", "()V"⟩) ∈ GW := mGW (tb2 (List.mem_of_getElem? (i := 9) rfl)) rfl
theorem tw_2_10 : (Cond.methodLink "Trenchboard$Street" 37 yJ9_max_7cf53) ∈ GW := mGW (tb2 (List.mem_of_getElem? (i := 10) rfl)) rfl
theorem tw_2_11 : (Cond.static yJ9_max_7cf53) ∈ GW := mGW (tb2 (List.mem_of_getElem? (i := 11) rfl)) rfl
theorem tw_2_12 : (Cond.code yJ9_max_7cf53 prog_19_method_65_code 2 (Option.some Jvm.ClassFile.FieldType.int)) ∈ GW := mGW (tb2 (List.mem_of_getElem? (i := 12) rfl)) rfl
theorem tw_2_13 : (Cond.classLink "Trenchboard$Street" 43 "Trenchboard$Metre") ∈ GW := mGW (tb2 (List.mem_of_getElem? (i := 13) rfl)) rfl
theorem tw_2_14 : (Cond.arrayOver (Jvm.ClassFile.FieldType.object "Trenchboard$Metre")) ∈ lw_tbl := tb2 (List.mem_of_getElem? (i := 14) rfl)
theorem tw_2_15 : (Cond.instantiable "Trenchboard$Metre" 4) ∈ GW := mGW (tb2 (List.mem_of_getElem? (i := 15) rfl)) rfl
theorem tw_2_16 : (Cond.methodLinkNest "Trenchboard$Street" 49 yX2_init "Trenchboard") ∈ lw_tbl := tb2 (List.mem_of_getElem? (i := 16) rfl)
theorem tw_2_17 : (Cond.instanceMethod yX2_init) ∈ GW := mGW (tb2 (List.mem_of_getElem? (i := 17) rfl)) rfl
theorem tw_2_18 : (Cond.code yX2_init prog_4_method_1_code 1 (Option.none : Option Jvm.ClassFile.FieldType)) ∈ GW := mGW (tb2 (List.mem_of_getElem? (i := 18) rfl)) rfl
theorem tw_2_19 : (Cond.methodLink "Trenchboard$Metre" 3 ⟨"java/lang/Object", "<init>", "()V"⟩) ∈ GW := mGW (tb2 (List.mem_of_getElem? (i := 19) rfl)) rfl
theorem tw_2_20 : (Cond.fieldLink "Trenchboard$Thing" 55 "Trenchboard$Metre" "sure" "Z") ∈ GW := mGW (tb2 (List.mem_of_getElem? (i := 20) rfl)) rfl
theorem tw_2_21 : (Cond.fieldLink "Trenchboard" 151 "Trenchboard$Metre" "sure" "Z") ∈ GW := mGW (tb2 (List.mem_of_getElem? (i := 21) rfl)) rfl
theorem tw_2_22 : (Cond.fieldLink "Trenchboard$Metre" 9 "Trenchboard$Metre" "openBy" "I") ∈ GW := mGW (tb2 (List.mem_of_getElem? (i := 22) rfl)) rfl
theorem tw_2_23 : (Cond.fieldLink "Trenchboard$Street" 50 "Trenchboard$Metre" "openBy" "I") ∈ GW := mGW (tb2 (List.mem_of_getElem? (i := 23) rfl)) rfl
theorem tw_2_24 : (Cond.fieldLink "Trenchboard" 288 "Trenchboard$Metre" "openBy" "I") ∈ GW := mGW (tb2 (List.mem_of_getElem? (i := 24) rfl)) rfl
theorem tw_2_25 : (Cond.fieldLink "Trenchboard" 316 "Trenchboard$Metre" "fills" "I") ∈ GW := mGW (tb2 (List.mem_of_getElem? (i := 25) rfl)) rfl
theorem tw_2_26 : (Cond.fieldLink "Trenchboard$Metre" 15 "Trenchboard$Metre" "latest" "LTrenchboard$Fill;") ∈ GW := mGW (tb2 (List.mem_of_getElem? (i := 26) rfl)) rfl
theorem tw_2_27 : (Cond.fieldLink "Trenchboard" 309 "Trenchboard$Metre" "latest" "LTrenchboard$Fill;") ∈ GW := mGW (tb2 (List.mem_of_getElem? (i := 27) rfl)) rfl
theorem tw_2_28 : (Cond.lays "Trenchboard$Metre" "Trenchboard$Metre" "sure" "Z") ∈ GW := mGW (tb2 (List.mem_of_getElem? (i := 28) rfl)) rfl
theorem tw_2_30 : (Cond.lays "Trenchboard$Metre" "Trenchboard$Metre" "openBy" "I") ∈ GW := mGW (tb2 (List.mem_of_getElem? (i := 30) rfl)) rfl
theorem tw_2_32 : (Cond.lays "Trenchboard$Metre" "Trenchboard$Metre" "fills" "I") ∈ GW := mGW (tb2 (List.mem_of_getElem? (i := 32) rfl)) rfl
theorem tw_2_34 : (Cond.lays "Trenchboard$Metre" "Trenchboard$Metre" "latest" "LTrenchboard$Fill;") ∈ GW := mGW (tb2 (List.mem_of_getElem? (i := 34) rfl)) rfl
theorem tw_2_36 : (Cond.superclass "Trenchboard$Metre" "java/lang/Object") ∈ lw_tbl := tb2 (List.mem_of_getElem? (i := 36) rfl)
theorem tw_2_37 : (Cond.fieldLink "Trenchboard$Street" 24 "Trenchboard$Street" "number" "I") ∈ GW := mGW (tb2 (List.mem_of_getElem? (i := 37) rfl)) rfl
theorem tw_2_38 : (Cond.fieldLink "Trenchboard$Street" 27 "Trenchboard$Street" "grade" "I") ∈ GW := mGW (tb2 (List.mem_of_getElem? (i := 38) rfl)) rfl
theorem tw_2_39 : (Cond.fieldLink "Trenchboard$Street" 30 "Trenchboard$Street" "flow" "I") ∈ GW := mGW (tb2 (List.mem_of_getElem? (i := 39) rfl)) rfl
theorem tw_2_40 : (Cond.fieldLink "Trenchboard$Street" 33 "Trenchboard$Street" "around" "LTrenchboard$Street;") ∈ GW := mGW (tb2 (List.mem_of_getElem? (i := 40) rfl)) rfl
theorem tw_2_41 : (Cond.fieldLink "Trenchboard$Works" 88 "Trenchboard$Street" "around" "LTrenchboard$Street;") ∈ GW := mGW (tb2 (List.mem_of_getElem? (i := 41) rfl)) rfl
theorem tw_2_42 : (Cond.fieldLink "Trenchboard$Street" 45 "Trenchboard$Street" "metres" "[LTrenchboard$Metre;") ∈ GW := mGW (tb2 (List.mem_of_getElem? (i := 42) rfl)) rfl
theorem tw_2_43 : (Cond.fieldLink "Trenchboard$Thing" 39 "Trenchboard$Street" "metres" "[LTrenchboard$Metre;") ∈ GW := mGW (tb2 (List.mem_of_getElem? (i := 43) rfl)) rfl
theorem tw_2_44 : (Cond.fieldLink "Trenchboard$Street" 9 "Trenchboard$Street" "embargoFrom" "I") ∈ GW := mGW (tb2 (List.mem_of_getElem? (i := 44) rfl)) rfl
theorem tw_2_45 : (Cond.fieldLink "Trenchboard" 108 "Trenchboard$Street" "embargoFrom" "I") ∈ GW := mGW (tb2 (List.mem_of_getElem? (i := 45) rfl)) rfl
theorem tw_2_46 : (Cond.fieldLink "Trenchboard$Street" 15 "Trenchboard$Street" "embargoTo" "I") ∈ GW := mGW (tb2 (List.mem_of_getElem? (i := 46) rfl)) rfl
theorem tw_2_47 : (Cond.fieldLink "Trenchboard" 111 "Trenchboard$Street" "embargoTo" "I") ∈ GW := mGW (tb2 (List.mem_of_getElem? (i := 47) rfl)) rfl
theorem tw_2_48 : (Cond.fieldLink "Trenchboard$Street" 18 "Trenchboard$Street" "surfacedOn" "I") ∈ GW := mGW (tb2 (List.mem_of_getElem? (i := 48) rfl)) rfl
theorem tw_2_49 : (Cond.fieldLink "Trenchboard" 88 "Trenchboard$Street" "surfacedOn" "I") ∈ GW := mGW (tb2 (List.mem_of_getElem? (i := 49) rfl)) rfl
theorem tw_2_50 : (Cond.fieldLink "Trenchboard$Street" 21 "Trenchboard$Street" "surfacedAfter" "I") ∈ GW := mGW (tb2 (List.mem_of_getElem? (i := 50) rfl)) rfl
theorem tw_2_51 : (Cond.fieldLink "Trenchboard" 94 "Trenchboard$Street" "surfacedAfter" "I") ∈ GW := mGW (tb2 (List.mem_of_getElem? (i := 51) rfl)) rfl
theorem tw_2_52 : (Cond.fieldLink "Trenchboard$Street" 57 "Trenchboard$Street" "takers" "I") ∈ GW := mGW (tb2 (List.mem_of_getElem? (i := 52) rfl)) rfl
theorem tw_2_53 : (Cond.fieldLink "Trenchboard" 505 "Trenchboard$Street" "takers" "I") ∈ GW := mGW (tb2 (List.mem_of_getElem? (i := 53) rfl)) rfl
theorem tw_2_54 : (Cond.fieldLink "Trenchboard$Street" 60 "Trenchboard$Street" "coming" "I") ∈ GW := mGW (tb2 (List.mem_of_getElem? (i := 54) rfl)) rfl
theorem tw_2_55 : (Cond.fieldLink "Trenchboard$Street" 63 "Trenchboard$Street" "waiting" "I") ∈ GW := mGW (tb2 (List.mem_of_getElem? (i := 55) rfl)) rfl
theorem tw_2_56 : (Cond.fieldLink "Trenchboard" 421 "Trenchboard$Street" "waiting" "I") ∈ GW := mGW (tb2 (List.mem_of_getElem? (i := 56) rfl)) rfl
theorem tw_2_57 : (Cond.laysFinal "Trenchboard$Street" "Trenchboard$Street" "number" "I") ∈ GW := mGW (tb2 (List.mem_of_getElem? (i := 57) rfl)) rfl
theorem tw_2_59 : (Cond.laysFinal "Trenchboard$Street" "Trenchboard$Street" "grade" "I") ∈ GW := mGW (tb2 (List.mem_of_getElem? (i := 59) rfl)) rfl
theorem tw_2_61 : (Cond.laysFinal "Trenchboard$Street" "Trenchboard$Street" "flow" "I") ∈ GW := mGW (tb2 (List.mem_of_getElem? (i := 61) rfl)) rfl
theorem tw_2_63 : (Cond.laysFinal "Trenchboard$Street" "Trenchboard$Street" "around" "LTrenchboard$Street;") ∈ GW := mGW (tb2 (List.mem_of_getElem? (i := 63) rfl)) rfl
theorem tw_2_65 : (Cond.laysFinal "Trenchboard$Street" "Trenchboard$Street" "metres" "[LTrenchboard$Metre;") ∈ GW := mGW (tb2 (List.mem_of_getElem? (i := 65) rfl)) rfl
theorem tw_2_67 : (Cond.lays "Trenchboard$Street" "Trenchboard$Street" "embargoFrom" "I") ∈ GW := mGW (tb2 (List.mem_of_getElem? (i := 67) rfl)) rfl
theorem tw_2_69 : (Cond.lays "Trenchboard$Street" "Trenchboard$Street" "embargoTo" "I") ∈ GW := mGW (tb2 (List.mem_of_getElem? (i := 69) rfl)) rfl
theorem tw_2_71 : (Cond.lays "Trenchboard$Street" "Trenchboard$Street" "surfacedOn" "I") ∈ GW := mGW (tb2 (List.mem_of_getElem? (i := 71) rfl)) rfl
theorem tw_2_73 : (Cond.lays "Trenchboard$Street" "Trenchboard$Street" "surfacedAfter" "I") ∈ GW := mGW (tb2 (List.mem_of_getElem? (i := 73) rfl)) rfl
theorem tw_2_75 : (Cond.lays "Trenchboard$Street" "Trenchboard$Street" "takers" "I") ∈ GW := mGW (tb2 (List.mem_of_getElem? (i := 75) rfl)) rfl
theorem tw_2_77 : (Cond.lays "Trenchboard$Street" "Trenchboard$Street" "coming" "I") ∈ GW := mGW (tb2 (List.mem_of_getElem? (i := 77) rfl)) rfl
theorem tw_2_79 : (Cond.lays "Trenchboard$Street" "Trenchboard$Street" "waiting" "I") ∈ GW := mGW (tb2 (List.mem_of_getElem? (i := 79) rfl)) rfl
theorem tw_2_81 : (Cond.superclass "Trenchboard$Street" "java/lang/Object") ∈ lw_tbl := tb2 (List.mem_of_getElem? (i := 81) rfl)
theorem tw_2_82 : (Cond.methodLink "TrenchboardLaw" 140 yL_surface) ∈ GW := mGW (tb2 (List.mem_of_getElem? (i := 82) rfl)) rfl
theorem tw_2_83 : (Cond.static yL_surface) ∈ GW := mGW (tb2 (List.mem_of_getElem? (i := 83) rfl)) rfl
theorem tw_2_84 : (Cond.codeWith yL_surface method_4_code 4 (Option.some Jvm.ClassFile.FieldType.int) [((0 : Nat), (9 : Nat), (12 : Nat), (13 : Nat)), ((0 : Nat), (9 : Nat), (15 : Nat), (17 : Nat))]) ∈ GW := mGW (tb2 (List.mem_of_getElem? (i := 84) rfl)) rfl
theorem tw_2_85 : (Cond.methodLink "TrenchboardLaw" 19 yX8_surface) ∈ GW := mGW (tb2 (List.mem_of_getElem? (i := 85) rfl)) rfl
theorem tw_2_86 : (Cond.instanceMethod yX8_surface) ∈ GW := mGW (tb2 (List.mem_of_getElem? (i := 86) rfl)) rfl
theorem tw_2_87 : (Cond.selects "Trenchboard" yX8_surface yX8_surface) ∈ GW := mGW (tb2 (List.mem_of_getElem? (i := 87) rfl)) rfl
theorem tw_2_88 : (Cond.code yX8_surface prog_1_method_3_code 3 (Option.some Jvm.ClassFile.FieldType.int)) ∈ GW := mGW (tb2 (List.mem_of_getElem? (i := 88) rfl)) rfl
theorem tw_2_89 : (Cond.stringRef "Trenchboard" 76 "no such street") ∈ lw_tbl := tb2 (List.mem_of_getElem? (i := 89) rfl)
theorem tw_2_90 : (Cond.methodLink "Trenchboard" 78 yX4_hasOpenMetre) ∈ GW := mGW (tb2 (List.mem_of_getElem? (i := 90) rfl)) rfl
theorem tw_2_91 : (Cond.instanceMethod yX4_hasOpenMetre) ∈ GW := mGW (tb2 (List.mem_of_getElem? (i := 91) rfl)) rfl
theorem tw_2_92 : (Cond.selects "Trenchboard$Street" yX4_hasOpenMetre yX4_hasOpenMetre) ∈ GW := mGW (tb2 (List.mem_of_getElem? (i := 92) rfl)) rfl
theorem tw_2_93 : (Cond.code yX4_hasOpenMetre prog_6_method_3_code 3 (Option.some Jvm.ClassFile.FieldType.boolean)) ∈ GW := mGW (tb2 (List.mem_of_getElem? (i := 93) rfl)) rfl
theorem tw_2_94 : (Cond.stringRef "Trenchboard" 82 "a metre is open") ∈ lw_tbl := tb2 (List.mem_of_getElem? (i := 94) rfl)
theorem tw_2_95 : (Cond.methodLink "Trenchboard" 84 yX8_today) ∈ GW := mGW (tb2 (List.mem_of_getElem? (i := 95) rfl)) rfl
theorem tw_2_97 : (Cond.instanceMethod yX8_today) ∈ GW := mGW (tb2 (List.mem_of_getElem? (i := 97) rfl)) rfl
theorem tw_2_98 : (Cond.code yX8_today prog_1_method_42_code 1 (Option.some Jvm.ClassFile.FieldType.int)) ∈ GW := mGW (tb2 (List.mem_of_getElem? (i := 98) rfl)) rfl
theorem tw_2_99 : (Cond.methodLink "Trenchboard" 91 yJx4a65c_size_8abf5) ∈ GW := mGW (tb2 (List.mem_of_getElem? (i := 99) rfl)) rfl
theorem tw_2_100 : (Cond.instanceMethod yJx4a65c_size_8abf5) ∈ GW := mGW (tb2 (List.mem_of_getElem? (i := 100) rfl)) rfl
theorem tw_2_101 : (Cond.selects "java/util/ArrayList" yJx4a65c_size_8abf5 yJx4a65c_size_8abf5) ∈ GW := mGW (tb2 (List.mem_of_getElem? (i := 101) rfl)) rfl
theorem tw_2_102 : (Cond.code yJx4a65c_size_8abf5 prog_26_method_8_code 1 (Option.some Jvm.ClassFile.FieldType.int)) ∈ GW := mGW (tb2 (List.mem_of_getElem? (i := 102) rfl)) rfl
theorem tw_2_103 : (Cond.classLink "Trenchboard" 97 "Trenchboard$Telling") ∈ GW := mGW (tb2 (List.mem_of_getElem? (i := 103) rfl)) rfl
theorem tw_2_104 : (Cond.instantiable "Trenchboard$Telling" 4) ∈ GW := mGW (tb2 (List.mem_of_getElem? (i := 104) rfl)) rfl
theorem tw_2_105 : (Cond.methodLink "Trenchboard" 99 yX5_init) ∈ GW := mGW (tb2 (List.mem_of_getElem? (i := 105) rfl)) rfl
theorem tw_2_106 : (Cond.instanceMethod yX5_init) ∈ GW := mGW (tb2 (List.mem_of_getElem? (i := 106) rfl)) rfl
theorem tw_2_107 : (Cond.code yX5_init prog_7_method_1_code 5 (Option.none : Option Jvm.ClassFile.FieldType)) ∈ GW := mGW (tb2 (List.mem_of_getElem? (i := 107) rfl)) rfl
theorem tw_2_108 : (Cond.methodLink "Trenchboard$Telling" 1 ⟨"java/lang/Object", "<init>", "()V"⟩) ∈ GW := mGW (tb2 (List.mem_of_getElem? (i := 108) rfl)) rfl
theorem tw_2_109 : (Cond.fieldLink "Trenchboard$Telling" 7 "Trenchboard$Telling" "street" "LTrenchboard$Street;") ∈ GW := mGW (tb2 (List.mem_of_getElem? (i := 109) rfl)) rfl
theorem tw_2_110 : (Cond.fieldLink "Trenchboard$Telling" 13 "Trenchboard$Telling" "metre" "I") ∈ GW := mGW (tb2 (List.mem_of_getElem? (i := 110) rfl)) rfl
theorem tw_2_111 : (Cond.fieldLink "Trenchboard$Telling" 17 "Trenchboard$Telling" "by" "LTrenchboard$Works;") ∈ GW := mGW (tb2 (List.mem_of_getElem? (i := 111) rfl)) rfl
theorem tw_2_112 : (Cond.fieldLink "Trenchboard" 397 "Trenchboard$Telling" "by" "LTrenchboard$Works;") ∈ GW := mGW (tb2 (List.mem_of_getElem? (i := 112) rfl)) rfl
theorem tw_2_113 : (Cond.fieldLink "Trenchboard$Telling" 21 "Trenchboard$Telling" "day" "I") ∈ GW := mGW (tb2 (List.mem_of_getElem? (i := 113) rfl)) rfl
theorem tw_2_114 : (Cond.fieldLink "Trenchboard" 401 "Trenchboard$Telling" "day" "I") ∈ GW := mGW (tb2 (List.mem_of_getElem? (i := 114) rfl)) rfl
theorem tw_2_115 : (Cond.laysFinal "Trenchboard$Telling" "Trenchboard$Telling" "street" "LTrenchboard$Street;") ∈ GW := mGW (tb2 (List.mem_of_getElem? (i := 115) rfl)) rfl
theorem tw_2_117 : (Cond.laysFinal "Trenchboard$Telling" "Trenchboard$Telling" "metre" "I") ∈ GW := mGW (tb2 (List.mem_of_getElem? (i := 117) rfl)) rfl
theorem tw_2_119 : (Cond.laysFinal "Trenchboard$Telling" "Trenchboard$Telling" "by" "LTrenchboard$Works;") ∈ GW := mGW (tb2 (List.mem_of_getElem? (i := 119) rfl)) rfl
theorem tw_2_121 : (Cond.laysFinal "Trenchboard$Telling" "Trenchboard$Telling" "day" "I") ∈ GW := mGW (tb2 (List.mem_of_getElem? (i := 121) rfl)) rfl
theorem tw_2_123 : (Cond.superclass "Trenchboard$Telling" "java/lang/Object") ∈ lw_tbl := tb2 (List.mem_of_getElem? (i := 123) rfl)
theorem tw_2_124 : (Cond.methodLink "Trenchboard" 102 yX8_tell) ∈ GW := mGW (tb2 (List.mem_of_getElem? (i := 124) rfl)) rfl
theorem tw_2_126 : (Cond.instanceMethod yX8_tell) ∈ GW := mGW (tb2 (List.mem_of_getElem? (i := 126) rfl)) rfl
theorem tw_2_127 : (Cond.code yX8_tell prog_1_method_45_code 2 (Option.none : Option Jvm.ClassFile.FieldType)) ∈ GW := mGW (tb2 (List.mem_of_getElem? (i := 127) rfl)) rfl
theorem tw_2_128 : (Cond.methodLink "Trenchboard" 450 yJx4a65c_add_9ea2d) ∈ GW := mGW (tb2 (List.mem_of_getElem? (i := 128) rfl)) rfl
theorem tw_2_129 : (Cond.instanceMethod yJx4a65c_add_9ea2d) ∈ GW := mGW (tb2 (List.mem_of_getElem? (i := 129) rfl)) rfl
theorem tw_2_130 : (Cond.selects "java/util/ArrayList" yJx4a65c_add_9ea2d yJx4a65c_add_9ea2d) ∈ GW := mGW (tb2 (List.mem_of_getElem? (i := 130) rfl)) rfl
theorem tw_2_131 : (Cond.code yJx4a65c_add_9ea2d prog_26_method_25_code 2 (Option.some Jvm.ClassFile.FieldType.boolean)) ∈ GW := mGW (tb2 (List.mem_of_getElem? (i := 131) rfl)) rfl
theorem tw_2_132 : (Cond.methodLink "java/util/ArrayList" 131 yJx4a65c_add_72be8) ∈ GW := mGW (tb2 (List.mem_of_getElem? (i := 132) rfl)) rfl
theorem tw_2_134 : (Cond.instanceMethod yJx4a65c_add_72be8) ∈ GW := mGW (tb2 (List.mem_of_getElem? (i := 134) rfl)) rfl
theorem tw_2_135 : (Cond.code yJx4a65c_add_72be8 prog_26_method_24_code 4 (Option.none : Option Jvm.ClassFile.FieldType)) ∈ GW := mGW (tb2 (List.mem_of_getElem? (i := 135) rfl)) rfl
theorem tw_2_136 : (Cond.methodLink "java/util/ArrayList" 129 yJx4a65c_grow_d5877) ∈ GW := mGW (tb2 (List.mem_of_getElem? (i := 136) rfl)) rfl
theorem tw_2_138 : (Cond.instanceMethod yJx4a65c_grow_d5877) ∈ GW := mGW (tb2 (List.mem_of_getElem? (i := 138) rfl)) rfl
theorem tw_2_139 : (Cond.code yJx4a65c_grow_d5877 prog_26_method_7_code 1 (Option.some (Jvm.ClassFile.FieldType.array (Jvm.ClassFile.FieldType.object "java/lang/Object")))) ∈ GW := mGW (tb2 (List.mem_of_getElem? (i := 139) rfl)) rfl
theorem tw_2_140 : (Cond.methodLink "java/util/ArrayList" 69 yJx4a65c_grow_92f84) ∈ GW := mGW (tb2 (List.mem_of_getElem? (i := 140) rfl)) rfl
theorem tw_2_142 : (Cond.instanceMethod yJx4a65c_grow_92f84) ∈ GW := mGW (tb2 (List.mem_of_getElem? (i := 142) rfl)) rfl
theorem tw_2_143 : (Cond.code yJx4a65c_grow_92f84 prog_26_method_6_code 4 (Option.some (Jvm.ClassFile.FieldType.array (Jvm.ClassFile.FieldType.object "java/lang/Object")))) ∈ GW := mGW (tb2 (List.mem_of_getElem? (i := 143) rfl)) rfl
theorem tw_2_144 : (Cond.methodLink "java/util/ArrayList" 73 yJ8_newLength_cabcc) ∈ GW := mGW (tb2 (List.mem_of_getElem? (i := 144) rfl)) rfl
theorem tw_2_145 : (Cond.static yJ8_newLength_cabcc) ∈ GW := mGW (tb2 (List.mem_of_getElem? (i := 145) rfl)) rfl
theorem tw_2_146 : (Cond.code yJ8_newLength_cabcc prog_33_method_27_code 4 (Option.some Jvm.ClassFile.FieldType.int)) ∈ GW := mGW (tb2 (List.mem_of_getElem? (i := 146) rfl)) rfl
theorem tw_2_147 : (Cond.methodLink "jdk/internal/util/ArraysSupport" 194 yJ9_max_7cf53) ∈ GW := mGW (tb2 (List.mem_of_getElem? (i := 147) rfl)) rfl
theorem tw_2_148 : (Cond.constant "jdk/internal/util/ArraysSupport" 200 2147483639) ∈ GW := mGW (tb2 (List.mem_of_getElem? (i := 148) rfl)) rfl
theorem tw_2_149 : (Cond.methodLink "jdk/internal/util/ArraysSupport" 201 yJ8_hugeLength_7cf53) ∈ GW := mGW (tb2 (List.mem_of_getElem? (i := 149) rfl)) rfl
theorem tw_2_150 : (Cond.static yJ8_hugeLength_7cf53) ∈ GW := mGW (tb2 (List.mem_of_getElem? (i := 150) rfl)) rfl
theorem tw_2_151 : (Cond.code yJ8_hugeLength_7cf53 prog_33_method_28_code 3 (Option.some Jvm.ClassFile.FieldType.int)) ∈ GW := mGW (tb2 (List.mem_of_getElem? (i := 151) rfl)) rfl
theorem tw_2_152 : (Cond.methodLink "java/util/ArrayList" 66 yJ7_copyOf_1904c) ∈ GW := mGW (tb2 (List.mem_of_getElem? (i := 152) rfl)) rfl
theorem tw_2_153 : (Cond.static yJ7_copyOf_1904c) ∈ GW := mGW (tb2 (List.mem_of_getElem? (i := 153) rfl)) rfl
theorem tw_2_154 : (Cond.code yJ7_copyOf_1904c prog_27_method_119_code 2 (Option.some (Jvm.ClassFile.FieldType.array (Jvm.ClassFile.FieldType.object "java/lang/Object")))) ∈ GW := mGW (tb2 (List.mem_of_getElem? (i := 154) rfl)) rfl
theorem tw_2_155 : (Cond.methodLink "java/util/Arrays" 86 ⟨"java/lang/Object", "getClass", "()Ljava/lang/Class;"⟩) ∈ GW := mGW (tb2 (List.mem_of_getElem? (i := 155) rfl)) rfl
theorem tw_2_156 : (Cond.instanceMethod ⟨"java/lang/Object", "getClass", "()Ljava/lang/Class;"⟩) ∈ GW := mGW (tb2 (List.mem_of_getElem? (i := 156) rfl)) rfl
theorem tw_2_157 : (Cond.sameMethod "java/lang/Object" "java/lang/Object" "getClass" "()Ljava/lang/Class;") ∈ lw_tbl := tb2 (List.mem_of_getElem? (i := 157) rfl)
theorem tw_2_158 : (Cond.selects "Trenchboard" ⟨"java/lang/Object", "getClass", "()Ljava/lang/Class;"⟩ ⟨"java/lang/Object", "getClass", "()Ljava/lang/Class;"⟩) ∈ GW := mGW (tb2 (List.mem_of_getElem? (i := 158) rfl)) rfl
theorem tw_2_159 : (Cond.selects "Trenchboard$Fill" ⟨"java/lang/Object", "getClass", "()Ljava/lang/Class;"⟩ ⟨"java/lang/Object", "getClass", "()Ljava/lang/Class;"⟩) ∈ GW := mGW (tb2 (List.mem_of_getElem? (i := 159) rfl)) rfl
theorem tw_2_160 : (Cond.selects "Trenchboard$Ledger" ⟨"java/lang/Object", "getClass", "()Ljava/lang/Class;"⟩ ⟨"java/lang/Object", "getClass", "()Ljava/lang/Class;"⟩) ∈ GW := mGW (tb2 (List.mem_of_getElem? (i := 160) rfl)) rfl
theorem tw_2_161 : (Cond.selects "Trenchboard$Metre" ⟨"java/lang/Object", "getClass", "()Ljava/lang/Class;"⟩ ⟨"java/lang/Object", "getClass", "()Ljava/lang/Class;"⟩) ∈ GW := mGW (tb2 (List.mem_of_getElem? (i := 161) rfl)) rfl
theorem tw_2_162 : (Cond.selects "Trenchboard$Party" ⟨"java/lang/Object", "getClass", "()Ljava/lang/Class;"⟩ ⟨"java/lang/Object", "getClass", "()Ljava/lang/Class;"⟩) ∈ GW := mGW (tb2 (List.mem_of_getElem? (i := 162) rfl)) rfl
theorem tw_2_163 : (Cond.selects "Trenchboard$Street" ⟨"java/lang/Object", "getClass", "()Ljava/lang/Class;"⟩ ⟨"java/lang/Object", "getClass", "()Ljava/lang/Class;"⟩) ∈ GW := mGW (tb2 (List.mem_of_getElem? (i := 163) rfl)) rfl
theorem tw_2_164 : (Cond.selects "Trenchboard$Telling" ⟨"java/lang/Object", "getClass", "()Ljava/lang/Class;"⟩ ⟨"java/lang/Object", "getClass", "()Ljava/lang/Class;"⟩) ∈ GW := mGW (tb2 (List.mem_of_getElem? (i := 164) rfl)) rfl
theorem tw_2_165 : (Cond.selects "Trenchboard$Thing" ⟨"java/lang/Object", "getClass", "()Ljava/lang/Class;"⟩ ⟨"java/lang/Object", "getClass", "()Ljava/lang/Class;"⟩) ∈ GW := mGW (tb2 (List.mem_of_getElem? (i := 165) rfl)) rfl
theorem tw_2_166 : (Cond.selects "Trenchboard$Works" ⟨"java/lang/Object", "getClass", "()Ljava/lang/Class;"⟩ ⟨"java/lang/Object", "getClass", "()Ljava/lang/Class;"⟩) ∈ GW := mGW (tb2 (List.mem_of_getElem? (i := 166) rfl)) rfl
theorem tw_2_167 : (Cond.selects "TrenchboardModel" ⟨"java/lang/Object", "getClass", "()Ljava/lang/Class;"⟩ ⟨"java/lang/Object", "getClass", "()Ljava/lang/Class;"⟩) ∈ GW := mGW (tb2 (List.mem_of_getElem? (i := 167) rfl)) rfl
theorem tw_2_168 : (Cond.selects "java/lang/IllegalArgumentException" ⟨"java/lang/Object", "getClass", "()Ljava/lang/Class;"⟩ ⟨"java/lang/Object", "getClass", "()Ljava/lang/Class;"⟩) ∈ GW := mGW (tb2 (List.mem_of_getElem? (i := 168) rfl)) rfl
theorem tw_2_169 : (Cond.selects "java/lang/IllegalStateException" ⟨"java/lang/Object", "getClass", "()Ljava/lang/Class;"⟩ ⟨"java/lang/Object", "getClass", "()Ljava/lang/Class;"⟩) ∈ GW := mGW (tb2 (List.mem_of_getElem? (i := 169) rfl)) rfl
theorem tw_2_170 : (Cond.selects "java/lang/IndexOutOfBoundsException" ⟨"java/lang/Object", "getClass", "()Ljava/lang/Class;"⟩ ⟨"java/lang/Object", "getClass", "()Ljava/lang/Class;"⟩) ∈ GW := mGW (tb2 (List.mem_of_getElem? (i := 170) rfl)) rfl
theorem tw_2_171 : (Cond.selects "java/util/ArrayList" ⟨"java/lang/Object", "getClass", "()Ljava/lang/Class;"⟩ ⟨"java/lang/Object", "getClass", "()Ljava/lang/Class;"⟩) ∈ GW := mGW (tb2 (List.mem_of_getElem? (i := 171) rfl)) rfl
theorem tw_2_172 : (Cond.native ⟨"java/lang/Object", "getClass", "()Ljava/lang/Class;"⟩) ∈ GW := mGW (tb2 (List.mem_of_getElem? (i := 172) rfl)) rfl
theorem tw_2_173 : (Cond.methodLink "java/util/Arrays" 300 yJ7_copyOf_6403c) ∈ GW := mGW (tb2 (List.mem_of_getElem? (i := 173) rfl)) rfl
theorem tw_2_174 : (Cond.static yJ7_copyOf_6403c) ∈ GW := mGW (tb2 (List.mem_of_getElem? (i := 174) rfl)) rfl
theorem tw_2_175 : (Cond.code yJ7_copyOf_6403c prog_27_method_120_code 4 (Option.some (Jvm.ClassFile.FieldType.array (Jvm.ClassFile.FieldType.object "java/lang/Object")))) ∈ GW := mGW (tb2 (List.mem_of_getElem? (i := 175) rfl)) rfl
theorem tw_2_176 : (Cond.classLink "java/util/Arrays" 110 "[Ljava/lang/Object;") ∈ GW := mGW (tb2 (List.mem_of_getElem? (i := 176) rfl)) rfl
theorem tw_2_177 : (Cond.arrayOver (Jvm.ClassFile.FieldType.object "java/lang/Object")) ∈ lw_tbl := tb2 (List.mem_of_getElem? (i := 177) rfl)
theorem tw_2_178 : (Cond.classLink "java/util/Arrays" 2 "java/lang/Object") ∈ GW := mGW (tb2 (List.mem_of_getElem? (i := 178) rfl)) rfl
theorem tw_2_179 : (Cond.methodLink "java/util/Arrays" 304 yJ9_min_7cf53) ∈ GW := mGW (tb2 (List.mem_of_getElem? (i := 179) rfl)) rfl
theorem tw_2_180 : (Cond.static yJ9_min_7cf53) ∈ GW := mGW (tb2 (List.mem_of_getElem? (i := 180) rfl)) rfl
theorem tw_2_181 : (Cond.code yJ9_min_7cf53 prog_19_method_69_code 2 (Option.some Jvm.ClassFile.FieldType.int)) ∈ GW := mGW (tb2 (List.mem_of_getElem? (i := 181) rfl)) rfl
theorem tw_2_182 : (Cond.methodLink "java/util/Arrays" 150 ⟨"java/lang/System", "arraycopy", "(Ljava/lang/Object;ILjava/lang/Object;II)V"⟩) ∈ GW := mGW (tb2 (List.mem_of_getElem? (i := 182) rfl)) rfl
theorem tw_2_183 : (Cond.static ⟨"java/lang/System", "arraycopy", "(Ljava/lang/Object;ILjava/lang/Object;II)V"⟩) ∈ GW := mGW (tb2 (List.mem_of_getElem? (i := 183) rfl)) rfl
theorem tw_2_184 : (Cond.native ⟨"java/lang/System", "arraycopy", "(Ljava/lang/Object;ILjava/lang/Object;II)V"⟩) ∈ GW := mGW (tb2 (List.mem_of_getElem? (i := 184) rfl)) rfl
theorem tw_2_185 : (Cond.methodLink "java/util/ArrayList" 79 yJ9_max_7cf53) ∈ GW := mGW (tb2 (List.mem_of_getElem? (i := 185) rfl)) rfl
theorem tw_2_186 : (Cond.classLink "java/util/ArrayList" 7 "java/lang/Object") ∈ GW := mGW (tb2 (List.mem_of_getElem? (i := 186) rfl)) rfl
theorem tw_2_187 : (Cond.methodLink "TrenchboardLaw" 144 yL_embargo) ∈ GW := mGW (tb2 (List.mem_of_getElem? (i := 187) rfl)) rfl
theorem tw_2_188 : (Cond.static yL_embargo) ∈ GW := mGW (tb2 (List.mem_of_getElem? (i := 188) rfl)) rfl
theorem tw_2_189 : (Cond.codeWith yL_embargo method_5_code 6 (Option.some Jvm.ClassFile.FieldType.int) [((0 : Nat), (12 : Nat), (15 : Nat), (13 : Nat)), ((0 : Nat), (12 : Nat), (19 : Nat), (15 : Nat))]) ∈ GW := mGW (tb2 (List.mem_of_getElem? (i := 189) rfl)) rfl
theorem tw_2_190 : (Cond.methodLink "TrenchboardLaw" 23 yX8_embargo) ∈ GW := mGW (tb2 (List.mem_of_getElem? (i := 190) rfl)) rfl
theorem tw_2_191 : (Cond.instanceMethod yX8_embargo) ∈ GW := mGW (tb2 (List.mem_of_getElem? (i := 191) rfl)) rfl
theorem tw_2_192 : (Cond.selects "Trenchboard" yX8_embargo yX8_embargo) ∈ GW := mGW (tb2 (List.mem_of_getElem? (i := 192) rfl)) rfl
theorem tw_2_193 : (Cond.code yX8_embargo prog_1_method_4_code 8 (Option.some Jvm.ClassFile.FieldType.int)) ∈ GW := mGW (tb2 (List.mem_of_getElem? (i := 193) rfl)) rfl
theorem tw_2_194 : (Cond.stringRef "Trenchboard" 106 "days out of range") ∈ lw_tbl := tb2 (List.mem_of_getElem? (i := 194) rfl)
theorem tw_2_195 : (Cond.methodLink "Trenchboard" 127 yX4_hasEmbargoIn) ∈ GW := mGW (tb2 (List.mem_of_getElem? (i := 195) rfl)) rfl
theorem tw_2_196 : (Cond.instanceMethod yX4_hasEmbargoIn) ∈ GW := mGW (tb2 (List.mem_of_getElem? (i := 196) rfl)) rfl
theorem tw_2_197 : (Cond.selects "Trenchboard$Street" yX4_hasEmbargoIn yX4_hasEmbargoIn) ∈ GW := mGW (tb2 (List.mem_of_getElem? (i := 197) rfl)) rfl
theorem tw_2_198 : (Cond.code yX4_hasEmbargoIn prog_6_method_4_code 3 (Option.some Jvm.ClassFile.FieldType.boolean)) ∈ GW := mGW (tb2 (List.mem_of_getElem? (i := 198) rfl)) rfl
theorem tw_2_199 : (Cond.methodLinkNest "Trenchboard$Street" 53 yX8_overlap "Trenchboard") ∈ lw_tbl := tb2 (List.mem_of_getElem? (i := 199) rfl)
theorem tw_2_200 : (Cond.static yX8_overlap) ∈ GW := mGW (tb2 (List.mem_of_getElem? (i := 200) rfl)) rfl
theorem tw_2_201 : (Cond.code yX8_overlap prog_1_method_44_code 4 (Option.some Jvm.ClassFile.FieldType.boolean)) ∈ GW := mGW (tb2 (List.mem_of_getElem? (i := 201) rfl)) rfl
theorem tw_2_202 : (Cond.methodLink "TrenchboardLaw" 148 yL_thing) ∈ GW := mGW (tb2 (List.mem_of_getElem? (i := 202) rfl)) rfl
theorem tw_2_203 : (Cond.static yL_thing) ∈ GW := mGW (tb2 (List.mem_of_getElem? (i := 203) rfl)) rfl
theorem tw_2_204 : (Cond.codeWith yL_thing method_6_code 8 (Option.some Jvm.ClassFile.FieldType.int) [((0 : Nat), (16 : Nat), (19 : Nat), (13 : Nat)), ((0 : Nat), (16 : Nat), (23 : Nat), (15 : Nat)), ((0 : Nat), (16 : Nat), (27 : Nat), (17 : Nat))]) ∈ GW := mGW (tb2 (List.mem_of_getElem? (i := 204) rfl)) rfl
theorem tw_2_205 : (Cond.methodLink "TrenchboardLaw" 27 yX8_thing) ∈ GW := mGW (tb2 (List.mem_of_getElem? (i := 205) rfl)) rfl
theorem tw_2_206 : (Cond.instanceMethod yX8_thing) ∈ GW := mGW (tb2 (List.mem_of_getElem? (i := 206) rfl)) rfl
theorem tw_2_207 : (Cond.selects "Trenchboard" yX8_thing yX8_thing) ∈ GW := mGW (tb2 (List.mem_of_getElem? (i := 207) rfl)) rfl
theorem tw_2_208 : (Cond.code yX8_thing prog_1_method_5_code 9 (Option.some Jvm.ClassFile.FieldType.int)) ∈ GW := mGW (tb2 (List.mem_of_getElem? (i := 208) rfl)) rfl
theorem tw_2_209 : (Cond.methodLink "Trenchboard" 131 yX8_isPromoter) ∈ GW := mGW (tb2 (List.mem_of_getElem? (i := 209) rfl)) rfl
theorem tw_2_210 : (Cond.static yX8_isPromoter) ∈ GW := mGW (tb2 (List.mem_of_getElem? (i := 210) rfl)) rfl
theorem tw_2_211 : (Cond.code yX8_isPromoter prog_1_method_40_code 1 (Option.some Jvm.ClassFile.FieldType.boolean)) ∈ GW := mGW (tb2 (List.mem_of_getElem? (i := 211) rfl)) rfl
theorem tw_2_212 : (Cond.methodLink "Trenchboard" 135 yX4_metreAt) ∈ GW := mGW (tb2 (List.mem_of_getElem? (i := 212) rfl)) rfl
theorem tw_2_213 : (Cond.instanceMethod yX4_metreAt) ∈ GW := mGW (tb2 (List.mem_of_getElem? (i := 213) rfl)) rfl
theorem tw_2_214 : (Cond.selects "Trenchboard$Street" yX4_metreAt yX4_metreAt) ∈ GW := mGW (tb2 (List.mem_of_getElem? (i := 214) rfl)) rfl
theorem tw_2_215 : (Cond.code yX4_metreAt prog_6_method_2_code 2 (Option.some (Jvm.ClassFile.FieldType.object "Trenchboard$Metre"))) ∈ GW := mGW (tb2 (List.mem_of_getElem? (i := 215) rfl)) rfl
theorem tw_2_216 : (Cond.stringRef "Trenchboard" 139 "no such promoter, street or metre") ∈ lw_tbl := tb2 (List.mem_of_getElem? (i := 216) rfl)
theorem tw_2_217 : (Cond.stringRef "Trenchboard" 141 "metres the wrong way round, or depth out of range") ∈ lw_tbl := tb2 (List.mem_of_getElem? (i := 217) rfl)
theorem tw_2_218 : (Cond.stringRef "Trenchboard" 146 "no more things") ∈ lw_tbl := tb2 (List.mem_of_getElem? (i := 218) rfl)
theorem tw_2_219 : (Cond.instantiable "Trenchboard$Thing" 8) ∈ GW := mGW (tb2 (List.mem_of_getElem? (i := 219) rfl)) rfl
theorem tw_2_220 : (Cond.methodLink "Trenchboard" 148 yX6_init) ∈ GW := mGW (tb2 (List.mem_of_getElem? (i := 220) rfl)) rfl
theorem tw_2_221 : (Cond.instanceMethod yX6_init) ∈ GW := mGW (tb2 (List.mem_of_getElem? (i := 221) rfl)) rfl
theorem tw_2_222 : (Cond.code yX6_init prog_8_method_1_code 6 (Option.none : Option Jvm.ClassFile.FieldType)) ∈ GW := mGW (tb2 (List.mem_of_getElem? (i := 222) rfl)) rfl
theorem tw_2_223 : (Cond.methodLink "Trenchboard$Thing" 1 ⟨"java/lang/Object", "<init>", "()V"⟩) ∈ GW := mGW (tb2 (List.mem_of_getElem? (i := 223) rfl)) rfl
theorem tw_2_224 : (Cond.fieldLink "Trenchboard$Thing" 7 "Trenchboard$Thing" "owner" "I") ∈ GW := mGW (tb2 (List.mem_of_getElem? (i := 224) rfl)) rfl
theorem tw_2_225 : (Cond.fieldLink "Trenchboard" 468 "Trenchboard$Thing" "owner" "I") ∈ GW := mGW (tb2 (List.mem_of_getElem? (i := 225) rfl)) rfl
theorem tw_2_226 : (Cond.fieldLink "Trenchboard$Thing" 13 "Trenchboard$Thing" "street" "LTrenchboard$Street;") ∈ GW := mGW (tb2 (List.mem_of_getElem? (i := 226) rfl)) rfl
theorem tw_2_227 : (Cond.fieldLink "Trenchboard" 161 "Trenchboard$Thing" "street" "LTrenchboard$Street;") ∈ GW := mGW (tb2 (List.mem_of_getElem? (i := 227) rfl)) rfl
theorem tw_2_228 : (Cond.fieldLink "Trenchboard$Thing" 17 "Trenchboard$Thing" "from" "I") ∈ GW := mGW (tb2 (List.mem_of_getElem? (i := 228) rfl)) rfl
theorem tw_2_229 : (Cond.fieldLink "Trenchboard" 183 "Trenchboard$Thing" "from" "I") ∈ GW := mGW (tb2 (List.mem_of_getElem? (i := 229) rfl)) rfl
theorem tw_2_230 : (Cond.fieldLink "Trenchboard$Thing" 20 "Trenchboard$Thing" "to" "I") ∈ GW := mGW (tb2 (List.mem_of_getElem? (i := 230) rfl)) rfl
theorem tw_2_231 : (Cond.fieldLink "Trenchboard" 186 "Trenchboard$Thing" "to" "I") ∈ GW := mGW (tb2 (List.mem_of_getElem? (i := 231) rfl)) rfl
theorem tw_2_232 : (Cond.fieldLink "Trenchboard$Thing" 23 "Trenchboard$Thing" "depth" "I") ∈ GW := mGW (tb2 (List.mem_of_getElem? (i := 232) rfl)) rfl
theorem tw_2_233 : (Cond.fieldLink "Trenchboard" 467 "Trenchboard$Thing" "depth" "I") ∈ GW := mGW (tb2 (List.mem_of_getElem? (i := 233) rfl)) rfl
theorem tw_2_234 : (Cond.fieldLink "Trenchboard$Thing" 26 "Trenchboard$Thing" "recorded" "Z") ∈ GW := mGW (tb2 (List.mem_of_getElem? (i := 234) rfl)) rfl
theorem tw_2_235 : (Cond.fieldLink "Trenchboard" 175 "Trenchboard$Thing" "recorded" "Z") ∈ GW := mGW (tb2 (List.mem_of_getElem? (i := 235) rfl)) rfl
theorem tw_2_236 : (Cond.fieldLink "Trenchboard$Thing" 36 "Trenchboard$Thing" "suspectFrom" "I") ∈ GW := mGW (tb2 (List.mem_of_getElem? (i := 236) rfl)) rfl
theorem tw_2_237 : (Cond.fieldLink "Trenchboard" 457 "Trenchboard$Thing" "suspectFrom" "I") ∈ GW := mGW (tb2 (List.mem_of_getElem? (i := 237) rfl)) rfl
theorem tw_2_238 : (Cond.fieldLink "Trenchboard$Thing" 48 "Trenchboard$Thing" "suspectTo" "I") ∈ GW := mGW (tb2 (List.mem_of_getElem? (i := 238) rfl)) rfl
theorem tw_2_239 : (Cond.fieldLink "Trenchboard" 460 "Trenchboard$Thing" "suspectTo" "I") ∈ GW := mGW (tb2 (List.mem_of_getElem? (i := 239) rfl)) rfl
theorem tw_3_0 : (Cond.laysFinal "Trenchboard$Thing" "Trenchboard$Thing" "owner" "I") ∈ GW := mGW (tb3 (List.mem_of_getElem? (i := 0) rfl)) rfl
theorem tw_3_2 : (Cond.laysFinal "Trenchboard$Thing" "Trenchboard$Thing" "street" "LTrenchboard$Street;") ∈ GW := mGW (tb3 (List.mem_of_getElem? (i := 2) rfl)) rfl
theorem tw_3_4 : (Cond.laysFinal "Trenchboard$Thing" "Trenchboard$Thing" "from" "I") ∈ GW := mGW (tb3 (List.mem_of_getElem? (i := 4) rfl)) rfl
theorem tw_3_6 : (Cond.laysFinal "Trenchboard$Thing" "Trenchboard$Thing" "to" "I") ∈ GW := mGW (tb3 (List.mem_of_getElem? (i := 6) rfl)) rfl
theorem tw_3_8 : (Cond.laysFinal "Trenchboard$Thing" "Trenchboard$Thing" "depth" "I") ∈ GW := mGW (tb3 (List.mem_of_getElem? (i := 8) rfl)) rfl
theorem tw_3_10 : (Cond.lays "Trenchboard$Thing" "Trenchboard$Thing" "recorded" "Z") ∈ GW := mGW (tb3 (List.mem_of_getElem? (i := 10) rfl)) rfl
theorem tw_3_12 : (Cond.lays "Trenchboard$Thing" "Trenchboard$Thing" "suspectFrom" "I") ∈ GW := mGW (tb3 (List.mem_of_getElem? (i := 12) rfl)) rfl
theorem tw_3_14 : (Cond.lays "Trenchboard$Thing" "Trenchboard$Thing" "suspectTo" "I") ∈ GW := mGW (tb3 (List.mem_of_getElem? (i := 14) rfl)) rfl
theorem tw_3_16 : (Cond.superclass "Trenchboard$Thing" "java/lang/Object") ∈ lw_tbl := tb3 (List.mem_of_getElem? (i := 16) rfl)
theorem tw_3_17 : (Cond.methodLink "TrenchboardLaw" 152 yL_record) ∈ GW := mGW (tb3 (List.mem_of_getElem? (i := 17) rfl)) rfl
theorem tw_3_18 : (Cond.static yL_record) ∈ GW := mGW (tb3 (List.mem_of_getElem? (i := 18) rfl)) rfl
theorem tw_3_19 : (Cond.codeWith yL_record method_7_code 7 (Option.some Jvm.ClassFile.FieldType.int) [((0 : Nat), (14 : Nat), (17 : Nat), (13 : Nat)), ((0 : Nat), (14 : Nat), (21 : Nat), (15 : Nat))]) ∈ GW := mGW (tb3 (List.mem_of_getElem? (i := 19) rfl)) rfl
theorem tw_3_20 : (Cond.methodLink "TrenchboardLaw" 31 yX8_record) ∈ GW := mGW (tb3 (List.mem_of_getElem? (i := 20) rfl)) rfl
theorem tw_3_21 : (Cond.instanceMethod yX8_record) ∈ GW := mGW (tb3 (List.mem_of_getElem? (i := 21) rfl)) rfl
theorem tw_3_22 : (Cond.selects "Trenchboard" yX8_record yX8_record) ∈ GW := mGW (tb3 (List.mem_of_getElem? (i := 22) rfl)) rfl
theorem tw_3_23 : (Cond.code yX8_record prog_1_method_6_code 6 (Option.some Jvm.ClassFile.FieldType.int)) ∈ GW := mGW (tb3 (List.mem_of_getElem? (i := 23) rfl)) rfl
theorem tw_3_24 : (Cond.methodLink "Trenchboard" 157 yX8_thingAt) ∈ GW := mGW (tb3 (List.mem_of_getElem? (i := 24) rfl)) rfl
theorem tw_3_26 : (Cond.instanceMethod yX8_thingAt) ∈ GW := mGW (tb3 (List.mem_of_getElem? (i := 26) rfl)) rfl
theorem tw_3_27 : (Cond.code yX8_thingAt prog_1_method_37_code 2 (Option.some (Jvm.ClassFile.FieldType.object "Trenchboard$Thing"))) ∈ GW := mGW (tb3 (List.mem_of_getElem? (i := 27) rfl)) rfl
theorem tw_3_28 : (Cond.stringRef "Trenchboard" 162 "no such thing or metre") ∈ lw_tbl := tb3 (List.mem_of_getElem? (i := 28) rfl)
theorem tw_3_29 : (Cond.stringRef "Trenchboard" 164 "metres the wrong way round, or off out of range") ∈ lw_tbl := tb3 (List.mem_of_getElem? (i := 29) rfl)
theorem tw_3_30 : (Cond.methodLink "Trenchboard" 166 yX6_putRecord) ∈ GW := mGW (tb3 (List.mem_of_getElem? (i := 30) rfl)) rfl
theorem tw_3_31 : (Cond.instanceMethod yX6_putRecord) ∈ GW := mGW (tb3 (List.mem_of_getElem? (i := 31) rfl)) rfl
theorem tw_3_32 : (Cond.selects "Trenchboard$Thing" yX6_putRecord yX6_putRecord) ∈ GW := mGW (tb3 (List.mem_of_getElem? (i := 32) rfl)) rfl
theorem tw_3_33 : (Cond.code yX6_putRecord prog_8_method_2_code 4 (Option.none : Option Jvm.ClassFile.FieldType)) ∈ GW := mGW (tb3 (List.mem_of_getElem? (i := 33) rfl)) rfl
theorem tw_3_34 : (Cond.methodLink "Trenchboard$Thing" 30 yJ9_max_7cf53) ∈ GW := mGW (tb3 (List.mem_of_getElem? (i := 34) rfl)) rfl
theorem tw_3_35 : (Cond.methodLink "Trenchboard$Thing" 45 yJ9_min_7cf53) ∈ GW := mGW (tb3 (List.mem_of_getElem? (i := 35) rfl)) rfl
theorem tw_3_36 : (Cond.methodLink "Trenchboard" 170 yX6_suspectMetres) ∈ GW := mGW (tb3 (List.mem_of_getElem? (i := 36) rfl)) rfl
theorem tw_3_37 : (Cond.instanceMethod yX6_suspectMetres) ∈ GW := mGW (tb3 (List.mem_of_getElem? (i := 37) rfl)) rfl
theorem tw_3_38 : (Cond.selects "Trenchboard$Thing" yX6_suspectMetres yX6_suspectMetres) ∈ GW := mGW (tb3 (List.mem_of_getElem? (i := 38) rfl)) rfl
theorem tw_3_39 : (Cond.code yX6_suspectMetres prog_8_method_3_code 1 (Option.some Jvm.ClassFile.FieldType.int)) ∈ GW := mGW (tb3 (List.mem_of_getElem? (i := 39) rfl)) rfl
theorem tw_3_40 : (Cond.methodLink "TrenchboardLaw" 155 yL_lose) ∈ GW := mGW (tb3 (List.mem_of_getElem? (i := 40) rfl)) rfl
theorem tw_3_41 : (Cond.static yL_lose) ∈ GW := mGW (tb3 (List.mem_of_getElem? (i := 41) rfl)) rfl
theorem tw_3_42 : (Cond.codeWith yL_lose method_8_code 4 (Option.some Jvm.ClassFile.FieldType.int) [((0 : Nat), (16 : Nat), (19 : Nat), (13 : Nat))]) ∈ GW := mGW (tb3 (List.mem_of_getElem? (i := 42) rfl)) rfl
theorem tw_3_43 : (Cond.methodLink "TrenchboardLaw" 34 yX8_lose) ∈ GW := mGW (tb3 (List.mem_of_getElem? (i := 43) rfl)) rfl
theorem tw_3_44 : (Cond.instanceMethod yX8_lose) ∈ GW := mGW (tb3 (List.mem_of_getElem? (i := 44) rfl)) rfl
theorem tw_3_45 : (Cond.selects "Trenchboard" yX8_lose yX8_lose) ∈ GW := mGW (tb3 (List.mem_of_getElem? (i := 45) rfl)) rfl
theorem tw_3_46 : (Cond.code yX8_lose prog_1_method_7_code 4 (Option.some Jvm.ClassFile.FieldType.boolean)) ∈ GW := mGW (tb3 (List.mem_of_getElem? (i := 46) rfl)) rfl
theorem tw_3_47 : (Cond.stringRef "Trenchboard" 173 "no such thing") ∈ lw_tbl := tb3 (List.mem_of_getElem? (i := 47) rfl)
theorem tw_3_48 : (Cond.methodLink "TrenchboardLaw" 158 yL_survey) ∈ GW := mGW (tb3 (List.mem_of_getElem? (i := 48) rfl)) rfl
theorem tw_3_49 : (Cond.static yL_survey) ∈ GW := mGW (tb3 (List.mem_of_getElem? (i := 49) rfl)) rfl
theorem tw_3_50 : (Cond.codeWith yL_survey method_9_code 4 (Option.some Jvm.ClassFile.FieldType.int) [((0 : Nat), (9 : Nat), (12 : Nat), (13 : Nat)), ((0 : Nat), (9 : Nat), (15 : Nat), (17 : Nat))]) ∈ GW := mGW (tb3 (List.mem_of_getElem? (i := 50) rfl)) rfl
theorem tw_3_51 : (Cond.methodLink "TrenchboardLaw" 38 yX8_survey) ∈ GW := mGW (tb3 (List.mem_of_getElem? (i := 51) rfl)) rfl
theorem tw_3_52 : (Cond.instanceMethod yX8_survey) ∈ GW := mGW (tb3 (List.mem_of_getElem? (i := 52) rfl)) rfl
theorem tw_3_53 : (Cond.selects "Trenchboard" yX8_survey yX8_survey) ∈ GW := mGW (tb3 (List.mem_of_getElem? (i := 53) rfl)) rfl
theorem tw_3_54 : (Cond.code yX8_survey prog_1_method_8_code 4 (Option.some Jvm.ClassFile.FieldType.int)) ∈ GW := mGW (tb3 (List.mem_of_getElem? (i := 54) rfl)) rfl
theorem tw_3_55 : (Cond.methodLink "Trenchboard" 178 yX6_liesInSureMetre) ∈ GW := mGW (tb3 (List.mem_of_getElem? (i := 55) rfl)) rfl
theorem tw_3_56 : (Cond.instanceMethod yX6_liesInSureMetre) ∈ GW := mGW (tb3 (List.mem_of_getElem? (i := 56) rfl)) rfl
theorem tw_3_57 : (Cond.selects "Trenchboard$Thing" yX6_liesInSureMetre yX6_liesInSureMetre) ∈ GW := mGW (tb3 (List.mem_of_getElem? (i := 57) rfl)) rfl
theorem tw_3_58 : (Cond.code yX6_liesInSureMetre prog_8_method_5_code 3 (Option.some Jvm.ClassFile.FieldType.boolean)) ∈ GW := mGW (tb3 (List.mem_of_getElem? (i := 58) rfl)) rfl
theorem tw_3_59 : (Cond.methodLink "Trenchboard$Thing" 51 yX4_metreAt) ∈ GW := mGW (tb3 (List.mem_of_getElem? (i := 59) rfl)) rfl
theorem tw_3_60 : (Cond.stringRef "Trenchboard" 181 "no metre of it is sure") ∈ lw_tbl := tb3 (List.mem_of_getElem? (i := 60) rfl)
theorem tw_3_61 : (Cond.methodLink "TrenchboardLaw" 161 yL_trial) ∈ GW := mGW (tb3 (List.mem_of_getElem? (i := 61) rfl)) rfl
theorem tw_3_62 : (Cond.static yL_trial) ∈ GW := mGW (tb3 (List.mem_of_getElem? (i := 62) rfl)) rfl
theorem tw_3_63 : (Cond.codeWith yL_trial method_10_code 5 (Option.some Jvm.ClassFile.FieldType.int) [((0 : Nat), (10 : Nat), (13 : Nat), (13 : Nat))]) ∈ GW := mGW (tb3 (List.mem_of_getElem? (i := 63) rfl)) rfl
theorem tw_3_64 : (Cond.methodLink "TrenchboardLaw" 41 yX8_trial) ∈ GW := mGW (tb3 (List.mem_of_getElem? (i := 64) rfl)) rfl
theorem tw_3_65 : (Cond.instanceMethod yX8_trial) ∈ GW := mGW (tb3 (List.mem_of_getElem? (i := 65) rfl)) rfl
theorem tw_3_66 : (Cond.selects "Trenchboard" yX8_trial yX8_trial) ∈ GW := mGW (tb3 (List.mem_of_getElem? (i := 66) rfl)) rfl
theorem tw_3_67 : (Cond.code yX8_trial prog_1_method_9_code 8 (Option.some Jvm.ClassFile.FieldType.int)) ∈ GW := mGW (tb3 (List.mem_of_getElem? (i := 67) rfl)) rfl
theorem tw_3_68 : (Cond.stringRef "Trenchboard" 189 "no such street or metre") ∈ lw_tbl := tb3 (List.mem_of_getElem? (i := 68) rfl)
theorem tw_3_69 : (Cond.methodLink "Trenchboard" 191 yX6_liesAt) ∈ GW := mGW (tb3 (List.mem_of_getElem? (i := 69) rfl)) rfl
theorem tw_3_70 : (Cond.instanceMethod yX6_liesAt) ∈ GW := mGW (tb3 (List.mem_of_getElem? (i := 70) rfl)) rfl
theorem tw_3_71 : (Cond.selects "Trenchboard$Thing" yX6_liesAt yX6_liesAt) ∈ GW := mGW (tb3 (List.mem_of_getElem? (i := 71) rfl)) rfl
theorem tw_3_72 : (Cond.code yX6_liesAt prog_8_method_4_code 3 (Option.some Jvm.ClassFile.FieldType.boolean)) ∈ GW := mGW (tb3 (List.mem_of_getElem? (i := 72) rfl)) rfl
theorem tw_3_73 : (Cond.methodLink "TrenchboardLaw" 165 yL_ask) ∈ GW := mGW (tb3 (List.mem_of_getElem? (i := 73) rfl)) rfl
theorem tw_3_74 : (Cond.static yL_ask) ∈ GW := mGW (tb3 (List.mem_of_getElem? (i := 74) rfl)) rfl
theorem tw_3_75 : (Cond.codeWith yL_ask method_11_code 11 (Option.some Jvm.ClassFile.FieldType.int) [((0 : Nat), (22 : Nat), (25 : Nat), (13 : Nat)), ((0 : Nat), (22 : Nat), (29 : Nat), (15 : Nat)), ((0 : Nat), (22 : Nat), (33 : Nat), (17 : Nat))]) ∈ GW := mGW (tb3 (List.mem_of_getElem? (i := 75) rfl)) rfl
theorem tw_3_76 : (Cond.methodLink "TrenchboardLaw" 45 yX8_ask) ∈ GW := mGW (tb3 (List.mem_of_getElem? (i := 76) rfl)) rfl
theorem tw_3_77 : (Cond.instanceMethod yX8_ask) ∈ GW := mGW (tb3 (List.mem_of_getElem? (i := 77) rfl)) rfl
theorem tw_3_78 : (Cond.selects "Trenchboard" yX8_ask yX8_ask) ∈ GW := mGW (tb3 (List.mem_of_getElem? (i := 78) rfl)) rfl
theorem tw_3_79 : (Cond.code yX8_ask prog_1_method_10_code 11 (Option.some Jvm.ClassFile.FieldType.int)) ∈ GW := mGW (tb3 (List.mem_of_getElem? (i := 79) rfl)) rfl
theorem tw_3_80 : (Cond.stringRef "Trenchboard" 195 "metres the wrong way round, depth or kind out of range") ∈ lw_tbl := tb3 (List.mem_of_getElem? (i := 80) rfl)
theorem tw_3_81 : (Cond.methodLink "Trenchboard" 197 yX4_noticeOf) ∈ GW := mGW (tb3 (List.mem_of_getElem? (i := 81) rfl)) rfl
theorem tw_3_82 : (Cond.instanceMethod yX4_noticeOf) ∈ GW := mGW (tb3 (List.mem_of_getElem? (i := 82) rfl)) rfl
theorem tw_3_83 : (Cond.selects "Trenchboard$Street" yX4_noticeOf yX4_noticeOf) ∈ GW := mGW (tb3 (List.mem_of_getElem? (i := 83) rfl)) rfl
theorem tw_3_84 : (Cond.code yX4_noticeOf prog_6_method_7_code 3 (Option.some Jvm.ClassFile.FieldType.int)) ∈ GW := mGW (tb3 (List.mem_of_getElem? (i := 84) rfl)) rfl
theorem tw_3_85 : (Cond.stringRef "Trenchboard" 201 "day or days out of range") ∈ lw_tbl := tb3 (List.mem_of_getElem? (i := 85) rfl)
theorem tw_3_86 : (Cond.stringRef "Trenchboard" 206 "no more works") ∈ lw_tbl := tb3 (List.mem_of_getElem? (i := 86) rfl)
theorem tw_3_87 : (Cond.instantiable "Trenchboard$Works" 18) ∈ GW := mGW (tb3 (List.mem_of_getElem? (i := 87) rfl)) rfl
theorem tw_3_88 : (Cond.methodLink "Trenchboard" 208 yX7_init) ∈ GW := mGW (tb3 (List.mem_of_getElem? (i := 88) rfl)) rfl
theorem tw_3_89 : (Cond.instanceMethod yX7_init) ∈ GW := mGW (tb3 (List.mem_of_getElem? (i := 89) rfl)) rfl
theorem tw_3_90 : (Cond.code yX7_init prog_9_method_1_code 6 (Option.none : Option Jvm.ClassFile.FieldType)) ∈ GW := mGW (tb3 (List.mem_of_getElem? (i := 90) rfl)) rfl
theorem tw_3_91 : (Cond.methodLink "Trenchboard$Works" 3 ⟨"java/lang/Object", "<init>", "()V"⟩) ∈ GW := mGW (tb3 (List.mem_of_getElem? (i := 91) rfl)) rfl
theorem tw_3_92 : (Cond.fieldLink "Trenchboard$Works" 9 "Trenchboard$Works" "number" "I") ∈ GW := mGW (tb3 (List.mem_of_getElem? (i := 92) rfl)) rfl
theorem tw_3_93 : (Cond.fieldLink "Trenchboard" 218 "Trenchboard$Works" "number" "I") ∈ GW := mGW (tb3 (List.mem_of_getElem? (i := 93) rfl)) rfl
theorem tw_3_94 : (Cond.fieldLink "Trenchboard$Works" 15 "Trenchboard$Works" "promoter" "I") ∈ GW := mGW (tb3 (List.mem_of_getElem? (i := 94) rfl)) rfl
theorem tw_3_95 : (Cond.fieldLink "Trenchboard" 319 "Trenchboard$Works" "promoter" "I") ∈ GW := mGW (tb3 (List.mem_of_getElem? (i := 95) rfl)) rfl
theorem tw_3_96 : (Cond.fieldLink "Trenchboard$Works" 18 "Trenchboard$Works" "street" "LTrenchboard$Street;") ∈ GW := mGW (tb3 (List.mem_of_getElem? (i := 96) rfl)) rfl
theorem tw_3_97 : (Cond.fieldLink "Trenchboard" 114 "Trenchboard$Works" "street" "LTrenchboard$Street;") ∈ GW := mGW (tb3 (List.mem_of_getElem? (i := 97) rfl)) rfl
theorem tw_3_98 : (Cond.fieldLink "Trenchboard$Works" 22 "Trenchboard$Works" "kind" "I") ∈ GW := mGW (tb3 (List.mem_of_getElem? (i := 98) rfl)) rfl
theorem tw_3_99 : (Cond.fieldLink "Trenchboard" 471 "Trenchboard$Works" "kind" "I") ∈ GW := mGW (tb3 (List.mem_of_getElem? (i := 99) rfl)) rfl
theorem tw_3_100 : (Cond.fieldLink "Trenchboard$Works" 25 "Trenchboard$Works" "askedOn" "I") ∈ GW := mGW (tb3 (List.mem_of_getElem? (i := 100) rfl)) rfl
theorem tw_3_101 : (Cond.fieldLink "Trenchboard$Works" 31 "Trenchboard$Works" "from" "I") ∈ GW := mGW (tb3 (List.mem_of_getElem? (i := 101) rfl)) rfl
theorem tw_3_102 : (Cond.fieldLink "Trenchboard$Works" 34 "Trenchboard$Works" "to" "I") ∈ GW := mGW (tb3 (List.mem_of_getElem? (i := 102) rfl)) rfl
theorem tw_3_103 : (Cond.fieldLink "Trenchboard$Works" 37 "Trenchboard$Works" "depth" "I") ∈ GW := mGW (tb3 (List.mem_of_getElem? (i := 103) rfl)) rfl
theorem tw_3_104 : (Cond.fieldLink "Trenchboard$Metre" 25 "Trenchboard$Works" "depth" "I") ∈ GW := mGW (tb3 (List.mem_of_getElem? (i := 104) rfl)) rfl
theorem tw_3_105 : (Cond.fieldLink "Trenchboard" 398 "Trenchboard$Works" "depth" "I") ∈ GW := mGW (tb3 (List.mem_of_getElem? (i := 105) rfl)) rfl
theorem tw_3_106 : (Cond.fieldLink "Trenchboard$Works" 40 "Trenchboard$Works" "first" "I") ∈ GW := mGW (tb3 (List.mem_of_getElem? (i := 106) rfl)) rfl
theorem tw_3_107 : (Cond.fieldLink "Trenchboard" 121 "Trenchboard$Works" "first" "I") ∈ GW := mGW (tb3 (List.mem_of_getElem? (i := 107) rfl)) rfl
theorem tw_3_108 : (Cond.fieldLink "Trenchboard$Works" 43 "Trenchboard$Works" "last" "I") ∈ GW := mGW (tb3 (List.mem_of_getElem? (i := 108) rfl)) rfl
theorem tw_3_109 : (Cond.fieldLink "Trenchboard" 124 "Trenchboard$Works" "last" "I") ∈ GW := mGW (tb3 (List.mem_of_getElem? (i := 109) rfl)) rfl
theorem tw_3_110 : (Cond.fieldLink "Trenchboard$Works" 28 "Trenchboard$Works" "state" "I") ∈ GW := mGW (tb3 (List.mem_of_getElem? (i := 110) rfl)) rfl
theorem tw_3_111 : (Cond.fieldLink "Trenchboard" 118 "Trenchboard$Works" "state" "I") ∈ GW := mGW (tb3 (List.mem_of_getElem? (i := 111) rfl)) rfl
theorem tw_3_112 : (Cond.fieldLink "Trenchboard$Works" 53 "Trenchboard$Works" "conditions" "I") ∈ GW := mGW (tb3 (List.mem_of_getElem? (i := 112) rfl)) rfl
theorem tw_3_113 : (Cond.fieldLink "Trenchboard" 249 "Trenchboard$Works" "conditions" "I") ∈ GW := mGW (tb3 (List.mem_of_getElem? (i := 113) rfl)) rfl
theorem tw_3_114 : (Cond.fieldLink "Trenchboard" 252 "Trenchboard$Works" "version" "I") ∈ GW := mGW (tb3 (List.mem_of_getElem? (i := 114) rfl)) rfl
theorem tw_3_115 : (Cond.fieldLink "Trenchboard" 328 "Trenchboard$Works" "finds" "I") ∈ GW := mGW (tb3 (List.mem_of_getElem? (i := 115) rfl)) rfl
theorem tw_3_116 : (Cond.fieldLink "Trenchboard$Works" 46 "Trenchboard$Works" "agreeing" "I") ∈ GW := mGW (tb3 (List.mem_of_getElem? (i := 116) rfl)) rfl
theorem tw_3_117 : (Cond.fieldLink "Trenchboard" 260 "Trenchboard$Works" "agreeing" "I") ∈ GW := mGW (tb3 (List.mem_of_getElem? (i := 117) rfl)) rfl
theorem tw_3_118 : (Cond.fieldLink "Trenchboard$Works" 56 "Trenchboard$Works" "openMetres" "I") ∈ GW := mGW (tb3 (List.mem_of_getElem? (i := 118) rfl)) rfl
theorem tw_3_119 : (Cond.fieldLink "Trenchboard" 300 "Trenchboard$Works" "openMetres" "I") ∈ GW := mGW (tb3 (List.mem_of_getElem? (i := 119) rfl)) rfl
theorem tw_3_120 : (Cond.fieldLink "Trenchboard$Works" 59 "Trenchboard$Works" "plated" "Z") ∈ GW := mGW (tb3 (List.mem_of_getElem? (i := 120) rfl)) rfl
theorem tw_3_121 : (Cond.fieldLink "Trenchboard" 277 "Trenchboard$Works" "plated" "Z") ∈ GW := mGW (tb3 (List.mem_of_getElem? (i := 121) rfl)) rfl
theorem tw_3_122 : (Cond.fieldLink "Trenchboard" 255 "Trenchboard$Works" "exempted" "Z") ∈ GW := mGW (tb3 (List.mem_of_getElem? (i := 122) rfl)) rfl
theorem tw_3_123 : (Cond.laysFinal "Trenchboard$Works" "Trenchboard$Works" "number" "I") ∈ GW := mGW (tb3 (List.mem_of_getElem? (i := 123) rfl)) rfl
theorem tw_3_125 : (Cond.laysFinal "Trenchboard$Works" "Trenchboard$Works" "promoter" "I") ∈ GW := mGW (tb3 (List.mem_of_getElem? (i := 125) rfl)) rfl
theorem tw_3_127 : (Cond.laysFinal "Trenchboard$Works" "Trenchboard$Works" "street" "LTrenchboard$Street;") ∈ GW := mGW (tb3 (List.mem_of_getElem? (i := 127) rfl)) rfl
theorem tw_3_129 : (Cond.laysFinal "Trenchboard$Works" "Trenchboard$Works" "kind" "I") ∈ GW := mGW (tb3 (List.mem_of_getElem? (i := 129) rfl)) rfl
theorem tw_3_131 : (Cond.laysFinal "Trenchboard$Works" "Trenchboard$Works" "askedOn" "I") ∈ GW := mGW (tb3 (List.mem_of_getElem? (i := 131) rfl)) rfl
theorem tw_3_133 : (Cond.lays "Trenchboard$Works" "Trenchboard$Works" "from" "I") ∈ GW := mGW (tb3 (List.mem_of_getElem? (i := 133) rfl)) rfl
theorem tw_3_135 : (Cond.lays "Trenchboard$Works" "Trenchboard$Works" "to" "I") ∈ GW := mGW (tb3 (List.mem_of_getElem? (i := 135) rfl)) rfl
theorem tw_3_137 : (Cond.lays "Trenchboard$Works" "Trenchboard$Works" "depth" "I") ∈ GW := mGW (tb3 (List.mem_of_getElem? (i := 137) rfl)) rfl
theorem tw_3_139 : (Cond.lays "Trenchboard$Works" "Trenchboard$Works" "first" "I") ∈ GW := mGW (tb3 (List.mem_of_getElem? (i := 139) rfl)) rfl
theorem tw_3_141 : (Cond.lays "Trenchboard$Works" "Trenchboard$Works" "last" "I") ∈ GW := mGW (tb3 (List.mem_of_getElem? (i := 141) rfl)) rfl
theorem tw_3_143 : (Cond.lays "Trenchboard$Works" "Trenchboard$Works" "state" "I") ∈ GW := mGW (tb3 (List.mem_of_getElem? (i := 143) rfl)) rfl
theorem tw_3_145 : (Cond.lays "Trenchboard$Works" "Trenchboard$Works" "conditions" "I") ∈ GW := mGW (tb3 (List.mem_of_getElem? (i := 145) rfl)) rfl
theorem tw_3_147 : (Cond.lays "Trenchboard$Works" "Trenchboard$Works" "version" "I") ∈ GW := mGW (tb3 (List.mem_of_getElem? (i := 147) rfl)) rfl
theorem tw_3_149 : (Cond.lays "Trenchboard$Works" "Trenchboard$Works" "finds" "I") ∈ GW := mGW (tb3 (List.mem_of_getElem? (i := 149) rfl)) rfl
theorem tw_3_151 : (Cond.lays "Trenchboard$Works" "Trenchboard$Works" "agreeing" "I") ∈ GW := mGW (tb3 (List.mem_of_getElem? (i := 151) rfl)) rfl
theorem tw_3_153 : (Cond.lays "Trenchboard$Works" "Trenchboard$Works" "openMetres" "I") ∈ GW := mGW (tb3 (List.mem_of_getElem? (i := 153) rfl)) rfl
theorem tw_3_155 : (Cond.lays "Trenchboard$Works" "Trenchboard$Works" "plated" "Z") ∈ GW := mGW (tb3 (List.mem_of_getElem? (i := 155) rfl)) rfl
theorem tw_3_157 : (Cond.lays "Trenchboard$Works" "Trenchboard$Works" "exempted" "Z") ∈ GW := mGW (tb3 (List.mem_of_getElem? (i := 157) rfl)) rfl
theorem tw_3_159 : (Cond.superclass "Trenchboard$Works" "java/lang/Object") ∈ lw_tbl := tb3 (List.mem_of_getElem? (i := 159) rfl)
theorem tw_3_160 : (Cond.methodLink "Trenchboard" 211 yX7_placeAt) ∈ GW := mGW (tb3 (List.mem_of_getElem? (i := 160) rfl)) rfl
theorem tw_3_161 : (Cond.instanceMethod yX7_placeAt) ∈ GW := mGW (tb3 (List.mem_of_getElem? (i := 161) rfl)) rfl
theorem tw_3_162 : (Cond.selects "Trenchboard$Works" yX7_placeAt yX7_placeAt) ∈ GW := mGW (tb3 (List.mem_of_getElem? (i := 162) rfl)) rfl
theorem tw_3_163 : (Cond.code yX7_placeAt prog_9_method_2_code 4 (Option.none : Option Jvm.ClassFile.FieldType)) ∈ GW := mGW (tb3 (List.mem_of_getElem? (i := 163) rfl)) rfl
theorem tw_3_164 : (Cond.methodLink "Trenchboard" 214 yX7_planFor) ∈ GW := mGW (tb3 (List.mem_of_getElem? (i := 164) rfl)) rfl
theorem tw_3_165 : (Cond.instanceMethod yX7_planFor) ∈ GW := mGW (tb3 (List.mem_of_getElem? (i := 165) rfl)) rfl
theorem tw_3_166 : (Cond.selects "Trenchboard$Works" yX7_planFor yX7_planFor) ∈ GW := mGW (tb3 (List.mem_of_getElem? (i := 166) rfl)) rfl
theorem tw_3_167 : (Cond.code yX7_planFor prog_9_method_3_code 3 (Option.none : Option Jvm.ClassFile.FieldType)) ∈ GW := mGW (tb3 (List.mem_of_getElem? (i := 167) rfl)) rfl
theorem tw_3_168 : (Cond.methodLink "TrenchboardLaw" 169 yL_grant) ∈ GW := mGW (tb3 (List.mem_of_getElem? (i := 168) rfl)) rfl
theorem tw_3_169 : (Cond.static yL_grant) ∈ GW := mGW (tb3 (List.mem_of_getElem? (i := 169) rfl)) rfl
theorem tw_3_170 : (Cond.codeWith yL_grant method_12_code 5 (Option.some Jvm.ClassFile.FieldType.int) [((0 : Nat), (10 : Nat), (13 : Nat), (13 : Nat)), ((0 : Nat), (10 : Nat), (17 : Nat), (15 : Nat)), ((0 : Nat), (10 : Nat), (21 : Nat), (17 : Nat))]) ∈ GW := mGW (tb3 (List.mem_of_getElem? (i := 170) rfl)) rfl
theorem tw_3_171 : (Cond.methodLink "TrenchboardLaw" 49 yX8_grant) ∈ GW := mGW (tb3 (List.mem_of_getElem? (i := 171) rfl)) rfl
theorem tw_3_172 : (Cond.instanceMethod yX8_grant) ∈ GW := mGW (tb3 (List.mem_of_getElem? (i := 172) rfl)) rfl
theorem tw_3_173 : (Cond.selects "Trenchboard" yX8_grant yX8_grant) ∈ GW := mGW (tb3 (List.mem_of_getElem? (i := 173) rfl)) rfl
theorem tw_3_174 : (Cond.code yX8_grant prog_1_method_11_code 4 (Option.some Jvm.ClassFile.FieldType.int)) ∈ GW := mGW (tb3 (List.mem_of_getElem? (i := 174) rfl)) rfl
theorem tw_3_175 : (Cond.methodLink "Trenchboard" 221 yX8_worksAt) ∈ GW := mGW (tb3 (List.mem_of_getElem? (i := 175) rfl)) rfl
theorem tw_3_177 : (Cond.instanceMethod yX8_worksAt) ∈ GW := mGW (tb3 (List.mem_of_getElem? (i := 177) rfl)) rfl
theorem tw_3_178 : (Cond.code yX8_worksAt prog_1_method_38_code 2 (Option.some (Jvm.ClassFile.FieldType.object "Trenchboard$Works"))) ∈ GW := mGW (tb3 (List.mem_of_getElem? (i := 178) rfl)) rfl
theorem tw_3_179 : (Cond.stringRef "Trenchboard" 225 "no such works") ∈ lw_tbl := tb3 (List.mem_of_getElem? (i := 179) rfl)
theorem tw_3_180 : (Cond.stringRef "Trenchboard" 227 "conditions out of range") ∈ lw_tbl := tb3 (List.mem_of_getElem? (i := 180) rfl)
theorem tw_3_181 : (Cond.methodLink "Trenchboard" 229 yX8_whatBars) ∈ GW := mGW (tb3 (List.mem_of_getElem? (i := 181) rfl)) rfl
theorem tw_3_183 : (Cond.instanceMethod yX8_whatBars) ∈ GW := mGW (tb3 (List.mem_of_getElem? (i := 183) rfl)) rfl
theorem tw_3_184 : (Cond.code yX8_whatBars prog_1_method_54_code 3 (Option.some Jvm.ClassFile.FieldType.int)) ∈ GW := mGW (tb3 (List.mem_of_getElem? (i := 184) rfl)) rfl
theorem tw_3_185 : (Cond.methodLink "Trenchboard" 347 yX7_endOn) ∈ GW := mGW (tb3 (List.mem_of_getElem? (i := 185) rfl)) rfl
theorem tw_3_186 : (Cond.instanceMethod yX7_endOn) ∈ GW := mGW (tb3 (List.mem_of_getElem? (i := 186) rfl)) rfl
theorem tw_3_187 : (Cond.selects "Trenchboard$Works" yX7_endOn yX7_endOn) ∈ GW := mGW (tb3 (List.mem_of_getElem? (i := 187) rfl)) rfl
theorem tw_3_188 : (Cond.code yX7_endOn prog_9_method_10_code 2 (Option.some Jvm.ClassFile.FieldType.int)) ∈ GW := mGW (tb3 (List.mem_of_getElem? (i := 188) rfl)) rfl
theorem tw_3_189 : (Cond.methodLink "Trenchboard$Works" 63 yJ9_max_7cf53) ∈ GW := mGW (tb3 (List.mem_of_getElem? (i := 189) rfl)) rfl
theorem tw_3_190 : (Cond.methodLink "Trenchboard" 474 yX4_isNewIn) ∈ GW := mGW (tb3 (List.mem_of_getElem? (i := 190) rfl)) rfl
theorem tw_3_191 : (Cond.instanceMethod yX4_isNewIn) ∈ GW := mGW (tb3 (List.mem_of_getElem? (i := 191) rfl)) rfl
theorem tw_3_192 : (Cond.selects "Trenchboard$Street" yX4_isNewIn yX4_isNewIn) ∈ GW := mGW (tb3 (List.mem_of_getElem? (i := 192) rfl)) rfl
theorem tw_3_193 : (Cond.code yX4_isNewIn prog_6_method_5_code 3 (Option.some Jvm.ClassFile.FieldType.boolean)) ∈ GW := mGW (tb3 (List.mem_of_getElem? (i := 193) rfl)) rfl
theorem tw_3_194 : (Cond.methodLink "Trenchboard" 339 yX8_firstMet) ∈ GW := mGW (tb3 (List.mem_of_getElem? (i := 194) rfl)) rfl
theorem tw_3_196 : (Cond.instanceMethod yX8_firstMet) ∈ GW := mGW (tb3 (List.mem_of_getElem? (i := 196) rfl)) rfl
theorem tw_3_197 : (Cond.code yX8_firstMet prog_1_method_55_code 7 (Option.some Jvm.ClassFile.FieldType.int)) ∈ GW := mGW (tb3 (List.mem_of_getElem? (i := 197) rfl)) rfl
theorem tw_3_198 : (Cond.methodLink "Trenchboard" 244 yX7_isStanding) ∈ GW := mGW (tb3 (List.mem_of_getElem? (i := 198) rfl)) rfl
theorem tw_3_199 : (Cond.instanceMethod yX7_isStanding) ∈ GW := mGW (tb3 (List.mem_of_getElem? (i := 199) rfl)) rfl
theorem tw_3_200 : (Cond.selects "Trenchboard$Works" yX7_isStanding yX7_isStanding) ∈ GW := mGW (tb3 (List.mem_of_getElem? (i := 200) rfl)) rfl
theorem tw_3_201 : (Cond.code yX7_isStanding prog_9_method_6_code 1 (Option.some Jvm.ClassFile.FieldType.boolean)) ∈ GW := mGW (tb3 (List.mem_of_getElem? (i := 201) rfl)) rfl
theorem tw_3_202 : (Cond.methodLink "Trenchboard" 477 yX7_mayMeet) ∈ GW := mGW (tb3 (List.mem_of_getElem? (i := 202) rfl)) rfl
theorem tw_3_203 : (Cond.static yX7_mayMeet) ∈ GW := mGW (tb3 (List.mem_of_getElem? (i := 203) rfl)) rfl
theorem tw_3_204 : (Cond.code yX7_mayMeet prog_9_method_15_code 2 (Option.some Jvm.ClassFile.FieldType.boolean)) ∈ GW := mGW (tb3 (List.mem_of_getElem? (i := 204) rfl)) rfl
theorem tw_3_205 : (Cond.methodLink "Trenchboard$Works" 78 yX7_isStanding) ∈ GW := mGW (tb3 (List.mem_of_getElem? (i := 205) rfl)) rfl
theorem tw_3_206 : (Cond.methodLink "Trenchboard$Works" 82 yX7_isOver) ∈ GW := mGW (tb3 (List.mem_of_getElem? (i := 206) rfl)) rfl
theorem tw_3_207 : (Cond.instanceMethod yX7_isOver) ∈ GW := mGW (tb3 (List.mem_of_getElem? (i := 207) rfl)) rfl
theorem tw_3_208 : (Cond.selects "Trenchboard$Works" yX7_isOver yX7_isOver) ∈ GW := mGW (tb3 (List.mem_of_getElem? (i := 208) rfl)) rfl
theorem tw_3_209 : (Cond.code yX7_isOver prog_9_method_7_code 1 (Option.some Jvm.ClassFile.FieldType.boolean)) ∈ GW := mGW (tb3 (List.mem_of_getElem? (i := 209) rfl)) rfl
theorem tw_3_210 : (Cond.methodLink "Trenchboard" 463 yX8_overlap) ∈ GW := mGW (tb3 (List.mem_of_getElem? (i := 210) rfl)) rfl
theorem tw_3_211 : (Cond.methodLink "Trenchboard" 266 yX7_agreesWith) ∈ GW := mGW (tb3 (List.mem_of_getElem? (i := 211) rfl)) rfl
theorem tw_3_212 : (Cond.instanceMethod yX7_agreesWith) ∈ GW := mGW (tb3 (List.mem_of_getElem? (i := 212) rfl)) rfl
theorem tw_3_213 : (Cond.selects "Trenchboard$Works" yX7_agreesWith yX7_agreesWith) ∈ GW := mGW (tb3 (List.mem_of_getElem? (i := 213) rfl)) rfl
theorem tw_3_214 : (Cond.code yX7_agreesWith prog_9_method_5_code 2 (Option.some Jvm.ClassFile.FieldType.boolean)) ∈ GW := mGW (tb3 (List.mem_of_getElem? (i := 214) rfl)) rfl
theorem tw_3_215 : (Cond.methodLink "Trenchboard$Works" 49 yX7_bit) ∈ GW := mGW (tb3 (List.mem_of_getElem? (i := 215) rfl)) rfl
theorem tw_3_216 : (Cond.instanceMethod yX7_bit) ∈ GW := mGW (tb3 (List.mem_of_getElem? (i := 216) rfl)) rfl
theorem tw_3_217 : (Cond.selects "Trenchboard$Works" yX7_bit yX7_bit) ∈ GW := mGW (tb3 (List.mem_of_getElem? (i := 217) rfl)) rfl
theorem tw_3_218 : (Cond.code yX7_bit prog_9_method_4_code 1 (Option.some Jvm.ClassFile.FieldType.int)) ∈ GW := mGW (tb3 (List.mem_of_getElem? (i := 218) rfl)) rfl
theorem tw_3_219 : (Cond.methodLink "Trenchboard" 481 yX7_areNear) ∈ GW := mGW (tb3 (List.mem_of_getElem? (i := 219) rfl)) rfl
theorem tw_3_220 : (Cond.static yX7_areNear) ∈ GW := mGW (tb3 (List.mem_of_getElem? (i := 220) rfl)) rfl
theorem tw_3_221 : (Cond.code yX7_areNear prog_9_method_16_code 3 (Option.some Jvm.ClassFile.FieldType.boolean)) ∈ GW := mGW (tb3 (List.mem_of_getElem? (i := 221) rfl)) rfl
theorem tw_3_222 : (Cond.methodLink "Trenchboard$Works" 85 yJ9_min_7cf53) ∈ GW := mGW (tb3 (List.mem_of_getElem? (i := 222) rfl)) rfl
theorem tw_3_223 : (Cond.stringRef "Trenchboard" 233 "not asked, or barred") ∈ lw_tbl := tb3 (List.mem_of_getElem? (i := 223) rfl)
theorem tw_3_224 : (Cond.methodLink "Trenchboard" 235 yX8_permit) ∈ GW := mGW (tb3 (List.mem_of_getElem? (i := 224) rfl)) rfl
theorem tw_3_226 : (Cond.instanceMethod yX8_permit) ∈ GW := mGW (tb3 (List.mem_of_getElem? (i := 226) rfl)) rfl
theorem tw_3_227 : (Cond.code yX8_permit prog_1_method_53_code 3 (Option.none : Option Jvm.ClassFile.FieldType)) ∈ GW := mGW (tb3 (List.mem_of_getElem? (i := 227) rfl)) rfl
theorem tw_3_228 : (Cond.methodLink "Trenchboard" 239 yX7_permitCost) ∈ GW := mGW (tb3 (List.mem_of_getElem? (i := 228) rfl)) rfl
theorem tw_3_229 : (Cond.instanceMethod yX7_permitCost) ∈ GW := mGW (tb3 (List.mem_of_getElem? (i := 229) rfl)) rfl
theorem tw_3_230 : (Cond.selects "Trenchboard$Works" yX7_permitCost yX7_permitCost) ∈ GW := mGW (tb3 (List.mem_of_getElem? (i := 230) rfl)) rfl
theorem tw_3_231 : (Cond.code yX7_permitCost prog_9_method_12_code 2 (Option.some Jvm.ClassFile.FieldType.int)) ∈ GW := mGW (tb3 (List.mem_of_getElem? (i := 231) rfl)) rfl
theorem tw_3_232 : (Cond.methodLink "Trenchboard$Works" 69 yX4_weight) ∈ GW := mGW (tb3 (List.mem_of_getElem? (i := 232) rfl)) rfl
theorem tw_3_233 : (Cond.instanceMethod yX4_weight) ∈ GW := mGW (tb3 (List.mem_of_getElem? (i := 233) rfl)) rfl
theorem tw_3_234 : (Cond.selects "Trenchboard$Street" yX4_weight yX4_weight) ∈ GW := mGW (tb3 (List.mem_of_getElem? (i := 234) rfl)) rfl
theorem tw_3_235 : (Cond.code yX4_weight prog_6_method_6_code 1 (Option.some Jvm.ClassFile.FieldType.int)) ∈ GW := mGW (tb3 (List.mem_of_getElem? (i := 235) rfl)) rfl
theorem tw_3_236 : (Cond.methodLink "Trenchboard" 366 yX8_pay) ∈ GW := mGW (tb3 (List.mem_of_getElem? (i := 236) rfl)) rfl
theorem tw_3_238 : (Cond.instanceMethod yX8_pay) ∈ GW := mGW (tb3 (List.mem_of_getElem? (i := 238) rfl)) rfl
theorem tw_3_239 : (Cond.code yX8_pay prog_1_method_49_code 6 (Option.none : Option Jvm.ClassFile.FieldType)) ∈ GW := mGW (tb3 (List.mem_of_getElem? (i := 239) rfl)) rfl
theorem tw_4_0 : (Cond.methodLink "Trenchboard" 424 yX8_partyAt) ∈ GW := mGW (tb4 (List.mem_of_getElem? (i := 0) rfl)) rfl
theorem tw_4_2 : (Cond.instanceMethod yX8_partyAt) ∈ GW := mGW (tb4 (List.mem_of_getElem? (i := 2) rfl)) rfl
theorem tw_4_3 : (Cond.code yX8_partyAt prog_1_method_39_code 2 (Option.some (Jvm.ClassFile.FieldType.object "Trenchboard$Party"))) ∈ GW := mGW (tb4 (List.mem_of_getElem? (i := 3) rfl)) rfl
theorem tw_4_4 : (Cond.methodLink "Trenchboard" 454 yX1_enter) ∈ GW := mGW (tb4 (List.mem_of_getElem? (i := 4) rfl)) rfl
theorem tw_4_5 : (Cond.instanceMethod yX1_enter) ∈ GW := mGW (tb4 (List.mem_of_getElem? (i := 5) rfl)) rfl
theorem tw_4_6 : (Cond.selects "Trenchboard$Ledger" yX1_enter yX1_enter) ∈ GW := mGW (tb4 (List.mem_of_getElem? (i := 6) rfl)) rfl
theorem tw_4_7 : (Cond.code yX1_enter prog_3_method_2_code 4 (Option.none : Option Jvm.ClassFile.FieldType)) ∈ GW := mGW (tb4 (List.mem_of_getElem? (i := 7) rfl)) rfl
theorem tw_4_8 : (Cond.constant "Trenchboard$Ledger" 17 262144) ∈ GW := mGW (tb4 (List.mem_of_getElem? (i := 8) rfl)) rfl
theorem tw_4_9 : (Cond.methodLink "Trenchboard$Ledger" 18 yJ7_copyOf_59c91) ∈ GW := mGW (tb4 (List.mem_of_getElem? (i := 9) rfl)) rfl
theorem tw_4_10 : (Cond.static yJ7_copyOf_59c91) ∈ GW := mGW (tb4 (List.mem_of_getElem? (i := 10) rfl)) rfl
theorem tw_4_11 : (Cond.code yJ7_copyOf_59c91 prog_27_method_123_code 3 (Option.some (Jvm.ClassFile.FieldType.array Jvm.ClassFile.FieldType.int))) ∈ GW := mGW (tb4 (List.mem_of_getElem? (i := 11) rfl)) rfl
theorem tw_4_12 : (Cond.methodLink "java/util/Arrays" 316 ⟨"[I", "clone", "()Ljava/lang/Object;"⟩) ∈ GW := mGW (tb4 (List.mem_of_getElem? (i := 12) rfl)) rfl
theorem tw_4_13 : (Cond.sameMethod "[I" "java/lang/Object" "clone" "()Ljava/lang/Object;") ∈ lw_tbl := tb4 (List.mem_of_getElem? (i := 13) rfl)
theorem tw_4_14 : (Cond.native ⟨"java/lang/Object", "clone", "()Ljava/lang/Object;"⟩) ∈ GW := mGW (tb4 (List.mem_of_getElem? (i := 14) rfl)) rfl
theorem tw_4_15 : (Cond.instanceMethod ⟨"java/lang/Object", "clone", "()Ljava/lang/Object;"⟩) ∈ GW := mGW (tb4 (List.mem_of_getElem? (i := 15) rfl)) rfl
theorem tw_4_16 : (Cond.selects "[I" ⟨"[I", "clone", "()Ljava/lang/Object;"⟩ ⟨"java/lang/Object", "clone", "()Ljava/lang/Object;"⟩) ∈ GW := mGW (tb4 (List.mem_of_getElem? (i := 16) rfl)) rfl
theorem tw_4_17 : (Cond.castable "[I" "java/lang/Cloneable") ∈ lw_tbl := tb4 (List.mem_of_getElem? (i := 17) rfl)
theorem tw_4_18 : (Cond.classLink "java/util/Arrays" 317 "[I") ∈ GW := mGW (tb4 (List.mem_of_getElem? (i := 18) rfl)) rfl
theorem tw_4_19 : (Cond.methodLink "TrenchboardLaw" 172 yL_refuse) ∈ GW := mGW (tb4 (List.mem_of_getElem? (i := 19) rfl)) rfl
theorem tw_4_20 : (Cond.static yL_refuse) ∈ GW := mGW (tb4 (List.mem_of_getElem? (i := 20) rfl)) rfl
theorem tw_4_21 : (Cond.codeWith yL_refuse method_13_code 4 (Option.some Jvm.ClassFile.FieldType.int) [((0 : Nat), (9 : Nat), (12 : Nat), (13 : Nat)), ((0 : Nat), (9 : Nat), (15 : Nat), (17 : Nat))]) ∈ GW := mGW (tb4 (List.mem_of_getElem? (i := 21) rfl)) rfl
theorem tw_4_22 : (Cond.methodLink "TrenchboardLaw" 52 yX8_refuse) ∈ GW := mGW (tb4 (List.mem_of_getElem? (i := 22) rfl)) rfl
theorem tw_4_23 : (Cond.instanceMethod yX8_refuse) ∈ GW := mGW (tb4 (List.mem_of_getElem? (i := 23) rfl)) rfl
theorem tw_4_24 : (Cond.selects "Trenchboard" yX8_refuse yX8_refuse) ∈ GW := mGW (tb4 (List.mem_of_getElem? (i := 24) rfl)) rfl
theorem tw_4_25 : (Cond.code yX8_refuse prog_1_method_12_code 4 (Option.some Jvm.ClassFile.FieldType.int)) ∈ GW := mGW (tb4 (List.mem_of_getElem? (i := 25) rfl)) rfl
theorem tw_4_26 : (Cond.stringRef "Trenchboard" 242 "neither asked nor granted") ∈ lw_tbl := tb4 (List.mem_of_getElem? (i := 26) rfl)
theorem tw_4_27 : (Cond.methodLink "TrenchboardLaw" 175 yL_vary) ∈ GW := mGW (tb4 (List.mem_of_getElem? (i := 27) rfl)) rfl
theorem tw_4_28 : (Cond.static yL_vary) ∈ GW := mGW (tb4 (List.mem_of_getElem? (i := 28) rfl)) rfl
theorem tw_4_29 : (Cond.codeWith yL_vary method_14_code 5 (Option.some Jvm.ClassFile.FieldType.int) [((0 : Nat), (10 : Nat), (13 : Nat), (13 : Nat)), ((0 : Nat), (10 : Nat), (17 : Nat), (15 : Nat)), ((0 : Nat), (10 : Nat), (21 : Nat), (17 : Nat))]) ∈ GW := mGW (tb4 (List.mem_of_getElem? (i := 29) rfl)) rfl
theorem tw_4_30 : (Cond.methodLink "TrenchboardLaw" 55 yX8_vary) ∈ GW := mGW (tb4 (List.mem_of_getElem? (i := 30) rfl)) rfl
theorem tw_4_31 : (Cond.instanceMethod yX8_vary) ∈ GW := mGW (tb4 (List.mem_of_getElem? (i := 31) rfl)) rfl
theorem tw_4_32 : (Cond.selects "Trenchboard" yX8_vary yX8_vary) ∈ GW := mGW (tb4 (List.mem_of_getElem? (i := 32) rfl)) rfl
theorem tw_4_33 : (Cond.code yX8_vary prog_1_method_13_code 4 (Option.some Jvm.ClassFile.FieldType.int)) ∈ GW := mGW (tb4 (List.mem_of_getElem? (i := 33) rfl)) rfl
theorem tw_4_34 : (Cond.stringRef "Trenchboard" 247 "neither granted nor run") ∈ lw_tbl := tb4 (List.mem_of_getElem? (i := 34) rfl)
theorem tw_4_35 : (Cond.methodLink "TrenchboardLaw" 178 yL_exempt) ∈ GW := mGW (tb4 (List.mem_of_getElem? (i := 35) rfl)) rfl
theorem tw_4_36 : (Cond.static yL_exempt) ∈ GW := mGW (tb4 (List.mem_of_getElem? (i := 36) rfl)) rfl
theorem tw_4_37 : (Cond.codeWith yL_exempt method_15_code 4 (Option.some Jvm.ClassFile.FieldType.int) [((0 : Nat), (16 : Nat), (19 : Nat), (13 : Nat))]) ∈ GW := mGW (tb4 (List.mem_of_getElem? (i := 37) rfl)) rfl
theorem tw_4_38 : (Cond.methodLink "TrenchboardLaw" 58 yX8_exempt) ∈ GW := mGW (tb4 (List.mem_of_getElem? (i := 38) rfl)) rfl
theorem tw_4_39 : (Cond.instanceMethod yX8_exempt) ∈ GW := mGW (tb4 (List.mem_of_getElem? (i := 39) rfl)) rfl
theorem tw_4_40 : (Cond.selects "Trenchboard" yX8_exempt yX8_exempt) ∈ GW := mGW (tb4 (List.mem_of_getElem? (i := 40) rfl)) rfl
theorem tw_4_41 : (Cond.code yX8_exempt prog_1_method_14_code 3 (Option.some Jvm.ClassFile.FieldType.boolean)) ∈ GW := mGW (tb4 (List.mem_of_getElem? (i := 41) rfl)) rfl
theorem tw_4_42 : (Cond.methodLink "TrenchboardLaw" 181 yL_agree) ∈ GW := mGW (tb4 (List.mem_of_getElem? (i := 42) rfl)) rfl
theorem tw_4_43 : (Cond.static yL_agree) ∈ GW := mGW (tb4 (List.mem_of_getElem? (i := 43) rfl)) rfl
theorem tw_4_44 : (Cond.codeWith yL_agree method_16_code 5 (Option.some Jvm.ClassFile.FieldType.int) [((0 : Nat), (17 : Nat), (20 : Nat), (13 : Nat)), ((0 : Nat), (17 : Nat), (24 : Nat), (15 : Nat))]) ∈ GW := mGW (tb4 (List.mem_of_getElem? (i := 44) rfl)) rfl
theorem tw_4_45 : (Cond.methodLink "TrenchboardLaw" 61 yX8_agree) ∈ GW := mGW (tb4 (List.mem_of_getElem? (i := 45) rfl)) rfl
theorem tw_4_46 : (Cond.instanceMethod yX8_agree) ∈ GW := mGW (tb4 (List.mem_of_getElem? (i := 46) rfl)) rfl
theorem tw_4_47 : (Cond.selects "Trenchboard" yX8_agree yX8_agree) ∈ GW := mGW (tb4 (List.mem_of_getElem? (i := 47) rfl)) rfl
theorem tw_4_48 : (Cond.code yX8_agree prog_1_method_15_code 5 (Option.some Jvm.ClassFile.FieldType.boolean)) ∈ GW := mGW (tb4 (List.mem_of_getElem? (i := 48) rfl)) rfl
theorem tw_4_49 : (Cond.stringRef "Trenchboard" 258 "the same works twice") ∈ lw_tbl := tb4 (List.mem_of_getElem? (i := 49) rfl)
theorem tw_4_50 : (Cond.methodLink "Trenchboard" 263 yX7_bit) ∈ GW := mGW (tb4 (List.mem_of_getElem? (i := 50) rfl)) rfl
theorem tw_4_51 : (Cond.methodLink "TrenchboardLaw" 184 yL_start) ∈ GW := mGW (tb4 (List.mem_of_getElem? (i := 51) rfl)) rfl
theorem tw_4_52 : (Cond.static yL_start) ∈ GW := mGW (tb4 (List.mem_of_getElem? (i := 52) rfl)) rfl
theorem tw_4_53 : (Cond.codeWith yL_start method_17_code 4 (Option.some Jvm.ClassFile.FieldType.int) [((0 : Nat), (9 : Nat), (12 : Nat), (13 : Nat)), ((0 : Nat), (9 : Nat), (15 : Nat), (17 : Nat))]) ∈ GW := mGW (tb4 (List.mem_of_getElem? (i := 53) rfl)) rfl
theorem tw_4_54 : (Cond.methodLink "TrenchboardLaw" 65 yX8_start) ∈ GW := mGW (tb4 (List.mem_of_getElem? (i := 54) rfl)) rfl
theorem tw_4_55 : (Cond.instanceMethod yX8_start) ∈ GW := mGW (tb4 (List.mem_of_getElem? (i := 55) rfl)) rfl
theorem tw_4_56 : (Cond.selects "Trenchboard" yX8_start yX8_start) ∈ GW := mGW (tb4 (List.mem_of_getElem? (i := 56) rfl)) rfl
theorem tw_4_57 : (Cond.code yX8_start prog_1_method_16_code 3 (Option.some Jvm.ClassFile.FieldType.int)) ∈ GW := mGW (tb4 (List.mem_of_getElem? (i := 57) rfl)) rfl
theorem tw_4_58 : (Cond.stringRef "Trenchboard" 270 "not granted, or on none of their days") ∈ lw_tbl := tb4 (List.mem_of_getElem? (i := 58) rfl)
theorem tw_4_59 : (Cond.methodLink "TrenchboardLaw" 187 yL_open) ∈ GW := mGW (tb4 (List.mem_of_getElem? (i := 59) rfl)) rfl
theorem tw_4_60 : (Cond.static yL_open) ∈ GW := mGW (tb4 (List.mem_of_getElem? (i := 60) rfl)) rfl
theorem tw_4_61 : (Cond.codeWith yL_open method_18_code 5 (Option.some Jvm.ClassFile.FieldType.int) [((0 : Nat), (10 : Nat), (13 : Nat), (13 : Nat)), ((0 : Nat), (10 : Nat), (17 : Nat), (17 : Nat))]) ∈ GW := mGW (tb4 (List.mem_of_getElem? (i := 61) rfl)) rfl
theorem tw_4_62 : (Cond.methodLink "TrenchboardLaw" 68 yX8_open) ∈ GW := mGW (tb4 (List.mem_of_getElem? (i := 62) rfl)) rfl
theorem tw_4_63 : (Cond.instanceMethod yX8_open) ∈ GW := mGW (tb4 (List.mem_of_getElem? (i := 63) rfl)) rfl
theorem tw_4_64 : (Cond.selects "Trenchboard" yX8_open yX8_open) ∈ GW := mGW (tb4 (List.mem_of_getElem? (i := 64) rfl)) rfl
theorem tw_4_65 : (Cond.code yX8_open prog_1_method_17_code 6 (Option.some Jvm.ClassFile.FieldType.int)) ∈ GW := mGW (tb4 (List.mem_of_getElem? (i := 65) rfl)) rfl
theorem tw_4_66 : (Cond.methodLink "Trenchboard" 272 yX7_ownMetreAt) ∈ GW := mGW (tb4 (List.mem_of_getElem? (i := 66) rfl)) rfl
theorem tw_4_67 : (Cond.instanceMethod yX7_ownMetreAt) ∈ GW := mGW (tb4 (List.mem_of_getElem? (i := 67) rfl)) rfl
theorem tw_4_68 : (Cond.selects "Trenchboard$Works" yX7_ownMetreAt yX7_ownMetreAt) ∈ GW := mGW (tb4 (List.mem_of_getElem? (i := 68) rfl)) rfl
theorem tw_4_69 : (Cond.code yX7_ownMetreAt prog_9_method_14_code 2 (Option.some (Jvm.ClassFile.FieldType.object "Trenchboard$Metre"))) ∈ GW := mGW (tb4 (List.mem_of_getElem? (i := 69) rfl)) rfl
theorem tw_4_70 : (Cond.methodLink "Trenchboard$Works" 74 yX4_metreAt) ∈ GW := mGW (tb4 (List.mem_of_getElem? (i := 70) rfl)) rfl
theorem tw_4_71 : (Cond.stringRef "Trenchboard" 275 "no such works, or no metre of theirs") ∈ lw_tbl := tb4 (List.mem_of_getElem? (i := 71) rfl)
theorem tw_4_72 : (Cond.methodLink "Trenchboard" 280 yX7_hasCondition) ∈ GW := mGW (tb4 (List.mem_of_getElem? (i := 72) rfl)) rfl
theorem tw_4_73 : (Cond.instanceMethod yX7_hasCondition) ∈ GW := mGW (tb4 (List.mem_of_getElem? (i := 73) rfl)) rfl
theorem tw_4_74 : (Cond.selects "Trenchboard$Works" yX7_hasCondition yX7_hasCondition) ∈ GW := mGW (tb4 (List.mem_of_getElem? (i := 74) rfl)) rfl
theorem tw_4_75 : (Cond.code yX7_hasCondition prog_9_method_8_code 2 (Option.some Jvm.ClassFile.FieldType.boolean)) ∈ GW := mGW (tb4 (List.mem_of_getElem? (i := 75) rfl)) rfl
theorem tw_4_76 : (Cond.methodLink "Trenchboard" 283 yX8_isBusy) ∈ GW := mGW (tb4 (List.mem_of_getElem? (i := 76) rfl)) rfl
theorem tw_4_78 : (Cond.instanceMethod yX8_isBusy) ∈ GW := mGW (tb4 (List.mem_of_getElem? (i := 78) rfl)) rfl
theorem tw_4_79 : (Cond.code yX8_isBusy prog_1_method_43_code 2 (Option.some Jvm.ClassFile.FieldType.boolean)) ∈ GW := mGW (tb4 (List.mem_of_getElem? (i := 79) rfl)) rfl
theorem tw_4_80 : (Cond.stringRef "Trenchboard" 286 "not run, plated, or to be quiet") ∈ lw_tbl := tb4 (List.mem_of_getElem? (i := 80) rfl)
theorem tw_4_81 : (Cond.methodLink "Trenchboard" 291 yX8_isSuspect) ∈ GW := mGW (tb4 (List.mem_of_getElem? (i := 81) rfl)) rfl
theorem tw_4_83 : (Cond.instanceMethod yX8_isSuspect) ∈ GW := mGW (tb4 (List.mem_of_getElem? (i := 83) rfl)) rfl
theorem tw_4_84 : (Cond.code yX8_isSuspect prog_1_method_51_code 3 (Option.some Jvm.ClassFile.FieldType.boolean)) ∈ GW := mGW (tb4 (List.mem_of_getElem? (i := 84) rfl)) rfl
theorem tw_4_85 : (Cond.methodLink "Trenchboard" 417 yX8_suspects) ∈ GW := mGW (tb4 (List.mem_of_getElem? (i := 85) rfl)) rfl
theorem tw_4_87 : (Cond.instanceMethod yX8_suspects) ∈ GW := mGW (tb4 (List.mem_of_getElem? (i := 87) rfl)) rfl
theorem tw_4_88 : (Cond.code yX8_suspects prog_1_method_50_code 7 (Option.some Jvm.ClassFile.FieldType.int)) ∈ GW := mGW (tb4 (List.mem_of_getElem? (i := 88) rfl)) rfl
theorem tw_4_89 : (Cond.stringRef "Trenchboard" 294 "open, or suspect and not sure") ∈ lw_tbl := tb4 (List.mem_of_getElem? (i := 89) rfl)
theorem tw_4_90 : (Cond.methodLink "Trenchboard" 296 yX8_strikeThings) ∈ GW := mGW (tb4 (List.mem_of_getElem? (i := 90) rfl)) rfl
theorem tw_4_92 : (Cond.instanceMethod yX8_strikeThings) ∈ GW := mGW (tb4 (List.mem_of_getElem? (i := 92) rfl)) rfl
theorem tw_4_93 : (Cond.code yX8_strikeThings prog_1_method_52_code 6 (Option.some Jvm.ClassFile.FieldType.int)) ∈ GW := mGW (tb4 (List.mem_of_getElem? (i := 93) rfl)) rfl
theorem tw_4_94 : (Cond.methodLink "TrenchboardLaw" 190 yL_fill) ∈ GW := mGW (tb4 (List.mem_of_getElem? (i := 94) rfl)) rfl
theorem tw_4_95 : (Cond.static yL_fill) ∈ GW := mGW (tb4 (List.mem_of_getElem? (i := 95) rfl)) rfl
theorem tw_4_96 : (Cond.codeWith yL_fill method_19_code 6 (Option.some Jvm.ClassFile.FieldType.int) [((0 : Nat), (12 : Nat), (15 : Nat), (13 : Nat)), ((0 : Nat), (12 : Nat), (19 : Nat), (15 : Nat)), ((0 : Nat), (12 : Nat), (23 : Nat), (17 : Nat))]) ∈ GW := mGW (tb4 (List.mem_of_getElem? (i := 96) rfl)) rfl
theorem tw_4_97 : (Cond.methodLink "TrenchboardLaw" 71 yX8_fill) ∈ GW := mGW (tb4 (List.mem_of_getElem? (i := 97) rfl)) rfl
theorem tw_4_98 : (Cond.instanceMethod yX8_fill) ∈ GW := mGW (tb4 (List.mem_of_getElem? (i := 98) rfl)) rfl
theorem tw_4_99 : (Cond.selects "Trenchboard" yX8_fill yX8_fill) ∈ GW := mGW (tb4 (List.mem_of_getElem? (i := 99) rfl)) rfl
theorem tw_4_100 : (Cond.code yX8_fill prog_1_method_18_code 6 (Option.some Jvm.ClassFile.FieldType.int)) ∈ GW := mGW (tb4 (List.mem_of_getElem? (i := 100) rfl)) rfl
theorem tw_4_101 : (Cond.stringRef "Trenchboard" 303 "density out of range") ∈ lw_tbl := tb4 (List.mem_of_getElem? (i := 101) rfl)
theorem tw_4_102 : (Cond.stringRef "Trenchboard" 305 "not open by these works") ∈ lw_tbl := tb4 (List.mem_of_getElem? (i := 102) rfl)
theorem tw_4_103 : (Cond.classLink "Trenchboard" 307 "Trenchboard$Fill") ∈ GW := mGW (tb4 (List.mem_of_getElem? (i := 103) rfl)) rfl
theorem tw_4_104 : (Cond.instantiable "Trenchboard$Fill" 6) ∈ GW := mGW (tb4 (List.mem_of_getElem? (i := 104) rfl)) rfl
theorem tw_4_105 : (Cond.methodLink "Trenchboard" 313 yX0_init) ∈ GW := mGW (tb4 (List.mem_of_getElem? (i := 105) rfl)) rfl
theorem tw_4_106 : (Cond.instanceMethod yX0_init) ∈ GW := mGW (tb4 (List.mem_of_getElem? (i := 106) rfl)) rfl
theorem tw_4_107 : (Cond.code yX0_init prog_2_method_1_code 6 (Option.none : Option Jvm.ClassFile.FieldType)) ∈ GW := mGW (tb4 (List.mem_of_getElem? (i := 107) rfl)) rfl
theorem tw_4_108 : (Cond.methodLink "Trenchboard$Fill" 1 ⟨"java/lang/Object", "<init>", "()V"⟩) ∈ GW := mGW (tb4 (List.mem_of_getElem? (i := 108) rfl)) rfl
theorem tw_4_109 : (Cond.fieldLink "Trenchboard$Fill" 7 "Trenchboard$Fill" "by" "LTrenchboard$Works;") ∈ GW := mGW (tb4 (List.mem_of_getElem? (i := 109) rfl)) rfl
theorem tw_4_110 : (Cond.fieldLink "Trenchboard$Metre" 19 "Trenchboard$Fill" "by" "LTrenchboard$Works;") ∈ GW := mGW (tb4 (List.mem_of_getElem? (i := 110) rfl)) rfl
theorem tw_4_111 : (Cond.fieldLink "Trenchboard" 377 "Trenchboard$Fill" "by" "LTrenchboard$Works;") ∈ GW := mGW (tb4 (List.mem_of_getElem? (i := 111) rfl)) rfl
theorem tw_4_112 : (Cond.fieldLink "Trenchboard$Fill" 13 "Trenchboard$Fill" "day" "I") ∈ GW := mGW (tb4 (List.mem_of_getElem? (i := 112) rfl)) rfl
theorem tw_4_113 : (Cond.fieldLink "Trenchboard" 521 "Trenchboard$Fill" "day" "I") ∈ GW := mGW (tb4 (List.mem_of_getElem? (i := 113) rfl)) rfl
theorem tw_4_114 : (Cond.fieldLink "Trenchboard$Fill" 17 "Trenchboard$Fill" "density" "I") ∈ GW := mGW (tb4 (List.mem_of_getElem? (i := 114) rfl)) rfl
theorem tw_4_115 : (Cond.fieldLink "Trenchboard" 384 "Trenchboard$Fill" "density" "I") ∈ GW := mGW (tb4 (List.mem_of_getElem? (i := 115) rfl)) rfl
theorem tw_4_116 : (Cond.fieldLink "Trenchboard$Fill" 20 "Trenchboard$Fill" "place" "I") ∈ GW := mGW (tb4 (List.mem_of_getElem? (i := 116) rfl)) rfl
theorem tw_4_117 : (Cond.fieldLink "Trenchboard" 522 "Trenchboard$Fill" "place" "I") ∈ GW := mGW (tb4 (List.mem_of_getElem? (i := 117) rfl)) rfl
theorem tw_4_118 : (Cond.fieldLink "Trenchboard$Fill" 23 "Trenchboard$Fill" "below" "LTrenchboard$Fill;") ∈ GW := mGW (tb4 (List.mem_of_getElem? (i := 118) rfl)) rfl
theorem tw_4_119 : (Cond.fieldLink "Trenchboard$Metre" 30 "Trenchboard$Fill" "below" "LTrenchboard$Fill;") ∈ GW := mGW (tb4 (List.mem_of_getElem? (i := 119) rfl)) rfl
theorem tw_4_120 : (Cond.fieldLink "Trenchboard" 372 "Trenchboard$Fill" "cored" "Z") ∈ GW := mGW (tb4 (List.mem_of_getElem? (i := 120) rfl)) rfl
theorem tw_4_121 : (Cond.laysFinal "Trenchboard$Fill" "Trenchboard$Fill" "by" "LTrenchboard$Works;") ∈ GW := mGW (tb4 (List.mem_of_getElem? (i := 121) rfl)) rfl
theorem tw_4_123 : (Cond.laysFinal "Trenchboard$Fill" "Trenchboard$Fill" "day" "I") ∈ GW := mGW (tb4 (List.mem_of_getElem? (i := 123) rfl)) rfl
theorem tw_4_125 : (Cond.laysFinal "Trenchboard$Fill" "Trenchboard$Fill" "density" "I") ∈ GW := mGW (tb4 (List.mem_of_getElem? (i := 125) rfl)) rfl
theorem tw_4_127 : (Cond.laysFinal "Trenchboard$Fill" "Trenchboard$Fill" "place" "I") ∈ GW := mGW (tb4 (List.mem_of_getElem? (i := 127) rfl)) rfl
theorem tw_4_129 : (Cond.laysFinal "Trenchboard$Fill" "Trenchboard$Fill" "below" "LTrenchboard$Fill;") ∈ GW := mGW (tb4 (List.mem_of_getElem? (i := 129) rfl)) rfl
theorem tw_4_131 : (Cond.lays "Trenchboard$Fill" "Trenchboard$Fill" "cored" "Z") ∈ GW := mGW (tb4 (List.mem_of_getElem? (i := 131) rfl)) rfl
theorem tw_4_133 : (Cond.superclass "Trenchboard$Fill" "java/lang/Object") ∈ lw_tbl := tb4 (List.mem_of_getElem? (i := 133) rfl)
theorem tw_4_134 : (Cond.methodLink "Trenchboard" 322 yX8_countFill) ∈ GW := mGW (tb4 (List.mem_of_getElem? (i := 134) rfl)) rfl
theorem tw_4_136 : (Cond.instanceMethod yX8_countFill) ∈ GW := mGW (tb4 (List.mem_of_getElem? (i := 136) rfl)) rfl
theorem tw_4_137 : (Cond.code yX8_countFill prog_1_method_46_code 3 (Option.none : Option Jvm.ClassFile.FieldType)) ∈ GW := mGW (tb4 (List.mem_of_getElem? (i := 137) rfl)) rfl
theorem tw_4_138 : (Cond.methodLink "TrenchboardLaw" 193 yL_plate) ∈ GW := mGW (tb4 (List.mem_of_getElem? (i := 138) rfl)) rfl
theorem tw_4_139 : (Cond.static yL_plate) ∈ GW := mGW (tb4 (List.mem_of_getElem? (i := 139) rfl)) rfl
theorem tw_4_140 : (Cond.codeWith yL_plate method_20_code 4 (Option.some Jvm.ClassFile.FieldType.int) [((0 : Nat), (16 : Nat), (19 : Nat), (13 : Nat)), ((0 : Nat), (16 : Nat), (22 : Nat), (17 : Nat))]) ∈ GW := mGW (tb4 (List.mem_of_getElem? (i := 140) rfl)) rfl
theorem tw_4_141 : (Cond.methodLink "TrenchboardLaw" 74 yX8_plate) ∈ GW := mGW (tb4 (List.mem_of_getElem? (i := 141) rfl)) rfl
theorem tw_4_142 : (Cond.instanceMethod yX8_plate) ∈ GW := mGW (tb4 (List.mem_of_getElem? (i := 142) rfl)) rfl
theorem tw_4_143 : (Cond.selects "Trenchboard" yX8_plate yX8_plate) ∈ GW := mGW (tb4 (List.mem_of_getElem? (i := 143) rfl)) rfl
theorem tw_4_144 : (Cond.code yX8_plate prog_1_method_19_code 3 (Option.some Jvm.ClassFile.FieldType.boolean)) ∈ GW := mGW (tb4 (List.mem_of_getElem? (i := 144) rfl)) rfl
theorem tw_4_145 : (Cond.stringRef "Trenchboard" 326 "not run") ∈ lw_tbl := tb4 (List.mem_of_getElem? (i := 145) rfl)
theorem tw_4_146 : (Cond.methodLink "TrenchboardLaw" 196 yL_extend) ∈ GW := mGW (tb4 (List.mem_of_getElem? (i := 146) rfl)) rfl
theorem tw_4_147 : (Cond.static yL_extend) ∈ GW := mGW (tb4 (List.mem_of_getElem? (i := 147) rfl)) rfl
theorem tw_4_148 : (Cond.codeWith yL_extend method_21_code 4 (Option.some Jvm.ClassFile.FieldType.int) [((0 : Nat), (9 : Nat), (12 : Nat), (13 : Nat)), ((0 : Nat), (9 : Nat), (15 : Nat), (17 : Nat))]) ∈ GW := mGW (tb4 (List.mem_of_getElem? (i := 148) rfl)) rfl
theorem tw_4_149 : (Cond.methodLink "TrenchboardLaw" 77 yX8_extend) ∈ GW := mGW (tb4 (List.mem_of_getElem? (i := 149) rfl)) rfl
theorem tw_4_150 : (Cond.instanceMethod yX8_extend) ∈ GW := mGW (tb4 (List.mem_of_getElem? (i := 150) rfl)) rfl
theorem tw_4_151 : (Cond.selects "Trenchboard" yX8_extend yX8_extend) ∈ GW := mGW (tb4 (List.mem_of_getElem? (i := 151) rfl)) rfl
theorem tw_4_152 : (Cond.code yX8_extend prog_1_method_20_code 4 (Option.some Jvm.ClassFile.FieldType.int)) ∈ GW := mGW (tb4 (List.mem_of_getElem? (i := 152) rfl)) rfl
theorem tw_4_153 : (Cond.stringRef "Trenchboard" 331 "not run, or no find for it") ∈ lw_tbl := tb4 (List.mem_of_getElem? (i := 153) rfl)
theorem tw_4_154 : (Cond.methodLink "Trenchboard" 333 yJ9_max_7cf53) ∈ GW := mGW (tb4 (List.mem_of_getElem? (i := 154) rfl)) rfl
theorem tw_4_155 : (Cond.stringRef "Trenchboard" 343 "would meet others") ∈ lw_tbl := tb4 (List.mem_of_getElem? (i := 155) rfl)
theorem tw_4_156 : (Cond.methodLink "TrenchboardLaw" 199 yL_stop) ∈ GW := mGW (tb4 (List.mem_of_getElem? (i := 156) rfl)) rfl
theorem tw_4_157 : (Cond.static yL_stop) ∈ GW := mGW (tb4 (List.mem_of_getElem? (i := 157) rfl)) rfl
theorem tw_4_158 : (Cond.codeWith yL_stop method_22_code 4 (Option.some Jvm.ClassFile.FieldType.int) [((0 : Nat), (9 : Nat), (12 : Nat), (13 : Nat)), ((0 : Nat), (9 : Nat), (15 : Nat), (17 : Nat))]) ∈ GW := mGW (tb4 (List.mem_of_getElem? (i := 158) rfl)) rfl
theorem tw_4_159 : (Cond.methodLink "TrenchboardLaw" 80 yX8_stop) ∈ GW := mGW (tb4 (List.mem_of_getElem? (i := 159) rfl)) rfl
theorem tw_4_160 : (Cond.instanceMethod yX8_stop) ∈ GW := mGW (tb4 (List.mem_of_getElem? (i := 160) rfl)) rfl
theorem tw_4_161 : (Cond.selects "Trenchboard" yX8_stop yX8_stop) ∈ GW := mGW (tb4 (List.mem_of_getElem? (i := 161) rfl)) rfl
theorem tw_4_162 : (Cond.code yX8_stop prog_1_method_21_code 4 (Option.some Jvm.ClassFile.FieldType.int)) ∈ GW := mGW (tb4 (List.mem_of_getElem? (i := 162) rfl)) rfl
theorem tw_4_163 : (Cond.stringRef "Trenchboard" 345 "not run, or a metre is open") ∈ lw_tbl := tb4 (List.mem_of_getElem? (i := 163) rfl)
theorem tw_4_164 : (Cond.methodLink "TrenchboardLaw" 202 yL_pass) ∈ GW := mGW (tb4 (List.mem_of_getElem? (i := 164) rfl)) rfl
theorem tw_4_165 : (Cond.static yL_pass) ∈ GW := mGW (tb4 (List.mem_of_getElem? (i := 165) rfl)) rfl
theorem tw_4_166 : (Cond.codeWith yL_pass method_23_code 4 (Option.some Jvm.ClassFile.FieldType.int) [((0 : Nat), (9 : Nat), (12 : Nat), (15 : Nat)), ((0 : Nat), (9 : Nat), (15 : Nat), (17 : Nat))]) ∈ GW := mGW (tb4 (List.mem_of_getElem? (i := 166) rfl)) rfl
theorem tw_4_167 : (Cond.methodLink "TrenchboardLaw" 83 yX8_pass) ∈ GW := mGW (tb4 (List.mem_of_getElem? (i := 167) rfl)) rfl
theorem tw_4_168 : (Cond.instanceMethod yX8_pass) ∈ GW := mGW (tb4 (List.mem_of_getElem? (i := 168) rfl)) rfl
theorem tw_4_169 : (Cond.selects "Trenchboard" yX8_pass yX8_pass) ∈ GW := mGW (tb4 (List.mem_of_getElem? (i := 169) rfl)) rfl
theorem tw_4_170 : (Cond.code yX8_pass prog_1_method_22_code 3 (Option.some Jvm.ClassFile.FieldType.int)) ∈ GW := mGW (tb4 (List.mem_of_getElem? (i := 170) rfl)) rfl
theorem tw_4_171 : (Cond.stringRef "Trenchboard" 350 "hours out of range") ∈ lw_tbl := tb4 (List.mem_of_getElem? (i := 171) rfl)
theorem tw_4_172 : (Cond.stringRef "Trenchboard" 355 "too late an hour") ∈ lw_tbl := tb4 (List.mem_of_getElem? (i := 172) rfl)
theorem tw_4_173 : (Cond.methodLink "Trenchboard" 357 yX8_goOneHour) ∈ GW := mGW (tb4 (List.mem_of_getElem? (i := 173) rfl)) rfl
theorem tw_4_175 : (Cond.instanceMethod yX8_goOneHour) ∈ GW := mGW (tb4 (List.mem_of_getElem? (i := 175) rfl)) rfl
theorem tw_4_176 : (Cond.code yX8_goOneHour prog_1_method_56_code 1 (Option.none : Option Jvm.ClassFile.FieldType)) ∈ GW := mGW (tb4 (List.mem_of_getElem? (i := 176) rfl)) rfl
theorem tw_4_177 : (Cond.methodLink "Trenchboard" 484 yX8_settleAsked) ∈ GW := mGW (tb4 (List.mem_of_getElem? (i := 177) rfl)) rfl
theorem tw_4_179 : (Cond.instanceMethod yX8_settleAsked) ∈ GW := mGW (tb4 (List.mem_of_getElem? (i := 179) rfl)) rfl
theorem tw_4_180 : (Cond.code yX8_settleAsked prog_1_method_57_code 3 (Option.none : Option Jvm.ClassFile.FieldType)) ∈ GW := mGW (tb4 (List.mem_of_getElem? (i := 180) rfl)) rfl
theorem tw_4_181 : (Cond.methodLink "Trenchboard" 499 yX7_settledOn) ∈ GW := mGW (tb4 (List.mem_of_getElem? (i := 181) rfl)) rfl
theorem tw_4_182 : (Cond.instanceMethod yX7_settledOn) ∈ GW := mGW (tb4 (List.mem_of_getElem? (i := 182) rfl)) rfl
theorem tw_4_183 : (Cond.selects "Trenchboard$Works" yX7_settledOn yX7_settledOn) ∈ GW := mGW (tb4 (List.mem_of_getElem? (i := 183) rfl)) rfl
theorem tw_4_184 : (Cond.code yX7_settledOn prog_9_method_11_code 1 (Option.some Jvm.ClassFile.FieldType.int)) ∈ GW := mGW (tb4 (List.mem_of_getElem? (i := 184) rfl)) rfl
theorem tw_4_185 : (Cond.methodLink "Trenchboard" 487 yX8_fineLate) ∈ GW := mGW (tb4 (List.mem_of_getElem? (i := 185) rfl)) rfl
theorem tw_4_187 : (Cond.instanceMethod yX8_fineLate) ∈ GW := mGW (tb4 (List.mem_of_getElem? (i := 187) rfl)) rfl
theorem tw_4_188 : (Cond.code yX8_fineLate prog_1_method_58_code 3 (Option.none : Option Jvm.ClassFile.FieldType)) ∈ GW := mGW (tb4 (List.mem_of_getElem? (i := 188) rfl)) rfl
theorem tw_4_189 : (Cond.methodLink "Trenchboard" 502 yX4_weight) ∈ GW := mGW (tb4 (List.mem_of_getElem? (i := 189) rfl)) rfl
theorem tw_4_190 : (Cond.methodLink "Trenchboard" 490 yX8_takeStreets) ∈ GW := mGW (tb4 (List.mem_of_getElem? (i := 190) rfl)) rfl
theorem tw_4_192 : (Cond.instanceMethod yX8_takeStreets) ∈ GW := mGW (tb4 (List.mem_of_getElem? (i := 192) rfl)) rfl
theorem tw_4_193 : (Cond.code yX8_takeStreets prog_1_method_59_code 3 (Option.none : Option Jvm.ClassFile.FieldType)) ∈ GW := mGW (tb4 (List.mem_of_getElem? (i := 193) rfl)) rfl
theorem tw_4_194 : (Cond.methodLink "Trenchboard" 508 yX7_takesStreet) ∈ GW := mGW (tb4 (List.mem_of_getElem? (i := 194) rfl)) rfl
theorem tw_4_195 : (Cond.instanceMethod yX7_takesStreet) ∈ GW := mGW (tb4 (List.mem_of_getElem? (i := 195) rfl)) rfl
theorem tw_4_196 : (Cond.selects "Trenchboard$Works" yX7_takesStreet yX7_takesStreet) ∈ GW := mGW (tb4 (List.mem_of_getElem? (i := 196) rfl)) rfl
theorem tw_4_197 : (Cond.code yX7_takesStreet prog_9_method_9_code 1 (Option.some Jvm.ClassFile.FieldType.boolean)) ∈ GW := mGW (tb4 (List.mem_of_getElem? (i := 197) rfl)) rfl
theorem tw_4_198 : (Cond.methodLink "Trenchboard" 493 yX8_chargeTakers) ∈ GW := mGW (tb4 (List.mem_of_getElem? (i := 198) rfl)) rfl
theorem tw_4_200 : (Cond.instanceMethod yX8_chargeTakers) ∈ GW := mGW (tb4 (List.mem_of_getElem? (i := 200) rfl)) rfl
theorem tw_4_201 : (Cond.code yX8_chargeTakers prog_1_method_60_code 5 (Option.none : Option Jvm.ClassFile.FieldType)) ∈ GW := mGW (tb4 (List.mem_of_getElem? (i := 201) rfl)) rfl
theorem tw_4_202 : (Cond.methodLink "Trenchboard" 496 yX8_moveQueues) ∈ GW := mGW (tb4 (List.mem_of_getElem? (i := 202) rfl)) rfl
theorem tw_4_204 : (Cond.instanceMethod yX8_moveQueues) ∈ GW := mGW (tb4 (List.mem_of_getElem? (i := 204) rfl)) rfl
theorem tw_4_205 : (Cond.code yX8_moveQueues prog_1_method_61_code 3 (Option.none : Option Jvm.ClassFile.FieldType)) ∈ GW := mGW (tb4 (List.mem_of_getElem? (i := 205) rfl)) rfl
theorem tw_4_206 : (Cond.methodLink "Trenchboard" 511 yX4_sendFlow) ∈ GW := mGW (tb4 (List.mem_of_getElem? (i := 206) rfl)) rfl
theorem tw_4_207 : (Cond.instanceMethod yX4_sendFlow) ∈ GW := mGW (tb4 (List.mem_of_getElem? (i := 207) rfl)) rfl
theorem tw_4_208 : (Cond.selects "Trenchboard$Street" yX4_sendFlow yX4_sendFlow) ∈ GW := mGW (tb4 (List.mem_of_getElem? (i := 208) rfl)) rfl
theorem tw_4_209 : (Cond.code yX4_sendFlow prog_6_method_8_code 2 (Option.none : Option Jvm.ClassFile.FieldType)) ∈ GW := mGW (tb4 (List.mem_of_getElem? (i := 209) rfl)) rfl
theorem tw_4_210 : (Cond.methodLink "Trenchboard" 514 yX4_letThrough) ∈ GW := mGW (tb4 (List.mem_of_getElem? (i := 210) rfl)) rfl
theorem tw_4_211 : (Cond.instanceMethod yX4_letThrough) ∈ GW := mGW (tb4 (List.mem_of_getElem? (i := 211) rfl)) rfl
theorem tw_4_212 : (Cond.selects "Trenchboard$Street" yX4_letThrough yX4_letThrough) ∈ GW := mGW (tb4 (List.mem_of_getElem? (i := 212) rfl)) rfl
theorem tw_4_213 : (Cond.code yX4_letThrough prog_6_method_9_code 2 (Option.none : Option Jvm.ClassFile.FieldType)) ∈ GW := mGW (tb4 (List.mem_of_getElem? (i := 213) rfl)) rfl
theorem tw_4_214 : (Cond.methodLink "TrenchboardLaw" 205 yL_defect) ∈ GW := mGW (tb4 (List.mem_of_getElem? (i := 214) rfl)) rfl
theorem tw_4_215 : (Cond.static yL_defect) ∈ GW := mGW (tb4 (List.mem_of_getElem? (i := 215) rfl)) rfl
theorem tw_4_216 : (Cond.codeWith yL_defect method_24_code 6 (Option.some Jvm.ClassFile.FieldType.int) [((0 : Nat), (12 : Nat), (15 : Nat), (13 : Nat)), ((0 : Nat), (12 : Nat), (19 : Nat), (15 : Nat))]) ∈ GW := mGW (tb4 (List.mem_of_getElem? (i := 216) rfl)) rfl
theorem tw_4_217 : (Cond.methodLink "TrenchboardLaw" 86 yX8_defect) ∈ GW := mGW (tb4 (List.mem_of_getElem? (i := 217) rfl)) rfl
theorem tw_4_218 : (Cond.instanceMethod yX8_defect) ∈ GW := mGW (tb4 (List.mem_of_getElem? (i := 218) rfl)) rfl
theorem tw_4_219 : (Cond.selects "Trenchboard" yX8_defect yX8_defect) ∈ GW := mGW (tb4 (List.mem_of_getElem? (i := 219) rfl)) rfl
theorem tw_4_220 : (Cond.code yX8_defect prog_1_method_23_code 7 (Option.some Jvm.ClassFile.FieldType.int)) ∈ GW := mGW (tb4 (List.mem_of_getElem? (i := 220) rfl)) rfl
theorem tw_4_221 : (Cond.stringRef "Trenchboard" 360 "depth out of range") ∈ lw_tbl := tb4 (List.mem_of_getElem? (i := 221) rfl)
theorem tw_4_222 : (Cond.methodLink "Trenchboard" 362 yX8_whoIsLiable) ∈ GW := mGW (tb4 (List.mem_of_getElem? (i := 222) rfl)) rfl
theorem tw_4_224 : (Cond.instanceMethod yX8_whoIsLiable) ∈ GW := mGW (tb4 (List.mem_of_getElem? (i := 224) rfl)) rfl
theorem tw_4_225 : (Cond.code yX8_whoIsLiable prog_1_method_62_code 5 (Option.some (Jvm.ClassFile.FieldType.object "Trenchboard$Works"))) ∈ GW := mGW (tb4 (List.mem_of_getElem? (i := 225) rfl)) rfl
theorem tw_4_226 : (Cond.methodLink "Trenchboard" 517 yX2_latestAsDeepAs) ∈ GW := mGW (tb4 (List.mem_of_getElem? (i := 226) rfl)) rfl
theorem tw_4_227 : (Cond.instanceMethod yX2_latestAsDeepAs) ∈ GW := mGW (tb4 (List.mem_of_getElem? (i := 227) rfl)) rfl
theorem tw_4_228 : (Cond.selects "Trenchboard$Metre" yX2_latestAsDeepAs yX2_latestAsDeepAs) ∈ GW := mGW (tb4 (List.mem_of_getElem? (i := 228) rfl)) rfl
theorem tw_4_229 : (Cond.code yX2_latestAsDeepAs prog_4_method_2_code 3 (Option.some (Jvm.ClassFile.FieldType.object "Trenchboard$Fill"))) ∈ GW := mGW (tb4 (List.mem_of_getElem? (i := 229) rfl)) rfl
theorem tw_4_230 : (Cond.methodLink "Trenchboard" 408 yX7_daysLiable) ∈ GW := mGW (tb4 (List.mem_of_getElem? (i := 230) rfl)) rfl
theorem tw_4_231 : (Cond.instanceMethod yX7_daysLiable) ∈ GW := mGW (tb4 (List.mem_of_getElem? (i := 231) rfl)) rfl
theorem tw_4_232 : (Cond.selects "Trenchboard$Works" yX7_daysLiable yX7_daysLiable) ∈ GW := mGW (tb4 (List.mem_of_getElem? (i := 232) rfl)) rfl
theorem tw_4_233 : (Cond.code yX7_daysLiable prog_9_method_13_code 1 (Option.some Jvm.ClassFile.FieldType.int)) ∈ GW := mGW (tb4 (List.mem_of_getElem? (i := 233) rfl)) rfl
theorem tw_4_234 : (Cond.methodLink "Trenchboard" 369 yX8_countFault) ∈ GW := mGW (tb4 (List.mem_of_getElem? (i := 234) rfl)) rfl
theorem tw_4_236 : (Cond.instanceMethod yX8_countFault) ∈ GW := mGW (tb4 (List.mem_of_getElem? (i := 236) rfl)) rfl
theorem tw_4_237 : (Cond.code yX8_countFault prog_1_method_47_code 3 (Option.none : Option Jvm.ClassFile.FieldType)) ∈ GW := mGW (tb4 (List.mem_of_getElem? (i := 237) rfl)) rfl
theorem tw_4_238 : (Cond.methodLink "TrenchboardLaw" 208 yL_core) ∈ GW := mGW (tb4 (List.mem_of_getElem? (i := 238) rfl)) rfl
theorem tw_4_239 : (Cond.static yL_core) ∈ GW := mGW (tb4 (List.mem_of_getElem? (i := 239) rfl)) rfl
theorem tw_5_0 : (Cond.codeWith yL_core method_25_code 5 (Option.some Jvm.ClassFile.FieldType.int) [((0 : Nat), (10 : Nat), (13 : Nat), (13 : Nat)), ((0 : Nat), (10 : Nat), (17 : Nat), (17 : Nat))]) ∈ GW := mGW (tb5 (List.mem_of_getElem? (i := 0) rfl)) rfl
theorem tw_5_1 : (Cond.methodLink "TrenchboardLaw" 89 yX8_core) ∈ GW := mGW (tb5 (List.mem_of_getElem? (i := 1) rfl)) rfl
theorem tw_5_2 : (Cond.instanceMethod yX8_core) ∈ GW := mGW (tb5 (List.mem_of_getElem? (i := 2) rfl)) rfl
theorem tw_5_3 : (Cond.selects "Trenchboard" yX8_core yX8_core) ∈ GW := mGW (tb5 (List.mem_of_getElem? (i := 3) rfl)) rfl
theorem tw_5_4 : (Cond.code yX8_core prog_1_method_24_code 6 (Option.some Jvm.ClassFile.FieldType.int)) ∈ GW := mGW (tb5 (List.mem_of_getElem? (i := 4) rfl)) rfl
theorem tw_5_5 : (Cond.stringRef "Trenchboard" 375 "no fill, or it was cored") ∈ lw_tbl := tb5 (List.mem_of_getElem? (i := 5) rfl)
theorem tw_5_6 : (Cond.methodLink "Trenchboard" 381 yX8_countCore) ∈ GW := mGW (tb5 (List.mem_of_getElem? (i := 6) rfl)) rfl
theorem tw_5_8 : (Cond.instanceMethod yX8_countCore) ∈ GW := mGW (tb5 (List.mem_of_getElem? (i := 8) rfl)) rfl
theorem tw_5_9 : (Cond.code yX8_countCore prog_1_method_48_code 3 (Option.none : Option Jvm.ClassFile.FieldType)) ∈ GW := mGW (tb5 (List.mem_of_getElem? (i := 9) rfl)) rfl
theorem tw_5_10 : (Cond.methodLink "TrenchboardLaw" 211 yL_liable) ∈ GW := mGW (tb5 (List.mem_of_getElem? (i := 10) rfl)) rfl
theorem tw_5_11 : (Cond.static yL_liable) ∈ GW := mGW (tb5 (List.mem_of_getElem? (i := 11) rfl)) rfl
theorem tw_5_12 : (Cond.codeWith yL_liable method_26_code 6 (Option.some Jvm.ClassFile.FieldType.int) [((0 : Nat), (12 : Nat), (15 : Nat), (13 : Nat)), ((0 : Nat), (12 : Nat), (19 : Nat), (15 : Nat))]) ∈ GW := mGW (tb5 (List.mem_of_getElem? (i := 12) rfl)) rfl
theorem tw_5_13 : (Cond.methodLink "TrenchboardLaw" 92 yX8_liable) ∈ GW := mGW (tb5 (List.mem_of_getElem? (i := 13) rfl)) rfl
theorem tw_5_14 : (Cond.instanceMethod yX8_liable) ∈ GW := mGW (tb5 (List.mem_of_getElem? (i := 14) rfl)) rfl
theorem tw_5_15 : (Cond.selects "Trenchboard" yX8_liable yX8_liable) ∈ GW := mGW (tb5 (List.mem_of_getElem? (i := 15) rfl)) rfl
theorem tw_5_16 : (Cond.code yX8_liable prog_1_method_25_code 6 (Option.some Jvm.ClassFile.FieldType.int)) ∈ GW := mGW (tb5 (List.mem_of_getElem? (i := 16) rfl)) rfl
theorem tw_5_17 : (Cond.methodLink "Trenchboard" 387 yX8_numberOf) ∈ GW := mGW (tb5 (List.mem_of_getElem? (i := 17) rfl)) rfl
theorem tw_5_18 : (Cond.static yX8_numberOf) ∈ GW := mGW (tb5 (List.mem_of_getElem? (i := 18) rfl)) rfl
theorem tw_5_19 : (Cond.code yX8_numberOf prog_1_method_41_code 1 (Option.some Jvm.ClassFile.FieldType.int)) ∈ GW := mGW (tb5 (List.mem_of_getElem? (i := 19) rfl)) rfl
theorem tw_5_20 : (Cond.methodLink "TrenchboardLaw" 214 yL_liableAnew) ∈ GW := mGW (tb5 (List.mem_of_getElem? (i := 20) rfl)) rfl
theorem tw_5_21 : (Cond.static yL_liableAnew) ∈ GW := mGW (tb5 (List.mem_of_getElem? (i := 21) rfl)) rfl
theorem tw_5_22 : (Cond.codeWith yL_liableAnew method_27_code 6 (Option.some Jvm.ClassFile.FieldType.int) [((0 : Nat), (12 : Nat), (15 : Nat), (13 : Nat)), ((0 : Nat), (12 : Nat), (19 : Nat), (15 : Nat))]) ∈ GW := mGW (tb5 (List.mem_of_getElem? (i := 22) rfl)) rfl
theorem tw_5_23 : (Cond.methodLink "TrenchboardLaw" 95 yX8_liableAnew) ∈ GW := mGW (tb5 (List.mem_of_getElem? (i := 23) rfl)) rfl
theorem tw_5_24 : (Cond.instanceMethod yX8_liableAnew) ∈ GW := mGW (tb5 (List.mem_of_getElem? (i := 24) rfl)) rfl
theorem tw_5_25 : (Cond.selects "Trenchboard" yX8_liableAnew yX8_liableAnew) ∈ GW := mGW (tb5 (List.mem_of_getElem? (i := 25) rfl)) rfl
theorem tw_5_26 : (Cond.code yX8_liableAnew prog_1_method_26_code 11 (Option.some Jvm.ClassFile.FieldType.int)) ∈ GW := mGW (tb5 (List.mem_of_getElem? (i := 26) rfl)) rfl
theorem tw_5_27 : (Cond.methodLink "Trenchboard" 390 yJx4a65c_get_915e3) ∈ GW := mGW (tb5 (List.mem_of_getElem? (i := 27) rfl)) rfl
theorem tw_5_28 : (Cond.instanceMethod yJx4a65c_get_915e3) ∈ GW := mGW (tb5 (List.mem_of_getElem? (i := 28) rfl)) rfl
theorem tw_5_29 : (Cond.selects "java/util/ArrayList" yJx4a65c_get_915e3 yJx4a65c_get_915e3) ∈ GW := mGW (tb5 (List.mem_of_getElem? (i := 29) rfl)) rfl
theorem tw_5_30 : (Cond.code yJx4a65c_get_915e3 prog_26_method_20_code 2 (Option.some (Jvm.ClassFile.FieldType.object "java/lang/Object"))) ∈ GW := mGW (tb5 (List.mem_of_getElem? (i := 30) rfl)) rfl
theorem tw_5_31 : (Cond.methodLink "java/util/ArrayList" 118 yJ15_checkIndex_7cf53) ∈ GW := mGW (tb5 (List.mem_of_getElem? (i := 31) rfl)) rfl
theorem tw_5_32 : (Cond.static yJ15_checkIndex_7cf53) ∈ GW := mGW (tb5 (List.mem_of_getElem? (i := 32) rfl)) rfl
theorem tw_5_33 : (Cond.code yJ15_checkIndex_7cf53 prog_30_method_17_code 2 (Option.some Jvm.ClassFile.FieldType.int)) ∈ GW := mGW (tb5 (List.mem_of_getElem? (i := 33) rfl)) rfl
theorem tw_5_34 : (Cond.methodLink "java/util/Objects" 105 yJ3_checkIndex_8e157) ∈ GW := mGW (tb5 (List.mem_of_getElem? (i := 34) rfl)) rfl
theorem tw_5_35 : (Cond.static yJ3_checkIndex_8e157) ∈ GW := mGW (tb5 (List.mem_of_getElem? (i := 35) rfl)) rfl
theorem tw_5_36 : (Cond.code yJ3_checkIndex_8e157 prog_34_method_11_code 3 (Option.some Jvm.ClassFile.FieldType.int)) ∈ GW := mGW (tb5 (List.mem_of_getElem? (i := 36) rfl)) rfl
theorem tw_5_37 : (Cond.methodLink "java/util/ArrayList" 123 yJx4a65c_elementData_915e3) ∈ GW := mGW (tb5 (List.mem_of_getElem? (i := 37) rfl)) rfl
theorem tw_5_38 : (Cond.instanceMethod yJx4a65c_elementData_915e3) ∈ GW := mGW (tb5 (List.mem_of_getElem? (i := 38) rfl)) rfl
theorem tw_5_39 : (Cond.selects "java/util/ArrayList" yJx4a65c_elementData_915e3 yJx4a65c_elementData_915e3) ∈ GW := mGW (tb5 (List.mem_of_getElem? (i := 39) rfl)) rfl
theorem tw_5_40 : (Cond.code yJx4a65c_elementData_915e3 prog_26_method_18_code 2 (Option.some (Jvm.ClassFile.FieldType.object "java/lang/Object"))) ∈ GW := mGW (tb5 (List.mem_of_getElem? (i := 40) rfl)) rfl
theorem tw_5_41 : (Cond.methodLink "Trenchboard" 394 yX5_isFillOf) ∈ GW := mGW (tb5 (List.mem_of_getElem? (i := 41) rfl)) rfl
theorem tw_5_42 : (Cond.instanceMethod yX5_isFillOf) ∈ GW := mGW (tb5 (List.mem_of_getElem? (i := 42) rfl)) rfl
theorem tw_5_43 : (Cond.selects "Trenchboard$Telling" yX5_isFillOf yX5_isFillOf) ∈ GW := mGW (tb5 (List.mem_of_getElem? (i := 43) rfl)) rfl
theorem tw_5_44 : (Cond.code yX5_isFillOf prog_7_method_2_code 3 (Option.some Jvm.ClassFile.FieldType.boolean)) ∈ GW := mGW (tb5 (List.mem_of_getElem? (i := 44) rfl)) rfl
theorem tw_5_45 : (Cond.methodLink "Trenchboard" 404 yX5_isSurfaceOf) ∈ GW := mGW (tb5 (List.mem_of_getElem? (i := 45) rfl)) rfl
theorem tw_5_46 : (Cond.instanceMethod yX5_isSurfaceOf) ∈ GW := mGW (tb5 (List.mem_of_getElem? (i := 46) rfl)) rfl
theorem tw_5_47 : (Cond.selects "Trenchboard$Telling" yX5_isSurfaceOf yX5_isSurfaceOf) ∈ GW := mGW (tb5 (List.mem_of_getElem? (i := 47) rfl)) rfl
theorem tw_5_48 : (Cond.code yX5_isSurfaceOf prog_7_method_3_code 2 (Option.some Jvm.ClassFile.FieldType.boolean)) ∈ GW := mGW (tb5 (List.mem_of_getElem? (i := 48) rfl)) rfl
theorem tw_5_49 : (Cond.methodLink "TrenchboardLaw" 217 yL_bars) ∈ GW := mGW (tb5 (List.mem_of_getElem? (i := 49) rfl)) rfl
theorem tw_5_50 : (Cond.static yL_bars) ∈ GW := mGW (tb5 (List.mem_of_getElem? (i := 50) rfl)) rfl
theorem tw_5_51 : (Cond.codeWith yL_bars method_28_code 4 (Option.some Jvm.ClassFile.FieldType.int) [((0 : Nat), (9 : Nat), (12 : Nat), (13 : Nat))]) ∈ GW := mGW (tb5 (List.mem_of_getElem? (i := 51) rfl)) rfl
theorem tw_5_52 : (Cond.methodLink "TrenchboardLaw" 98 yX8_bars) ∈ GW := mGW (tb5 (List.mem_of_getElem? (i := 52) rfl)) rfl
theorem tw_5_53 : (Cond.instanceMethod yX8_bars) ∈ GW := mGW (tb5 (List.mem_of_getElem? (i := 53) rfl)) rfl
theorem tw_5_54 : (Cond.selects "Trenchboard" yX8_bars yX8_bars) ∈ GW := mGW (tb5 (List.mem_of_getElem? (i := 54) rfl)) rfl
theorem tw_5_55 : (Cond.code yX8_bars prog_1_method_27_code 3 (Option.some Jvm.ClassFile.FieldType.int)) ∈ GW := mGW (tb5 (List.mem_of_getElem? (i := 55) rfl)) rfl
theorem tw_5_56 : (Cond.methodLink "TrenchboardLaw" 220 yL_meets) ∈ GW := mGW (tb5 (List.mem_of_getElem? (i := 56) rfl)) rfl
theorem tw_5_57 : (Cond.static yL_meets) ∈ GW := mGW (tb5 (List.mem_of_getElem? (i := 57) rfl)) rfl
theorem tw_5_58 : (Cond.codeWith yL_meets method_29_code 5 (Option.some Jvm.ClassFile.FieldType.int) [((0 : Nat), (10 : Nat), (13 : Nat), (13 : Nat)), ((0 : Nat), (10 : Nat), (17 : Nat), (15 : Nat))]) ∈ GW := mGW (tb5 (List.mem_of_getElem? (i := 58) rfl)) rfl
theorem tw_5_59 : (Cond.methodLink "TrenchboardLaw" 101 yX8_meets) ∈ GW := mGW (tb5 (List.mem_of_getElem? (i := 59) rfl)) rfl
theorem tw_5_60 : (Cond.instanceMethod yX8_meets) ∈ GW := mGW (tb5 (List.mem_of_getElem? (i := 60) rfl)) rfl
theorem tw_5_61 : (Cond.selects "Trenchboard" yX8_meets yX8_meets) ∈ GW := mGW (tb5 (List.mem_of_getElem? (i := 61) rfl)) rfl
theorem tw_5_62 : (Cond.code yX8_meets prog_1_method_28_code 4 (Option.some Jvm.ClassFile.FieldType.int)) ∈ GW := mGW (tb5 (List.mem_of_getElem? (i := 62) rfl)) rfl
theorem tw_5_63 : (Cond.stringRef "Trenchboard" 411 "from below 0") ∈ lw_tbl := tb5 (List.mem_of_getElem? (i := 63) rfl)
theorem tw_5_64 : (Cond.methodLink "TrenchboardLaw" 223 yL_of) ∈ GW := mGW (tb5 (List.mem_of_getElem? (i := 64) rfl)) rfl
theorem tw_5_65 : (Cond.static yL_of) ∈ GW := mGW (tb5 (List.mem_of_getElem? (i := 65) rfl)) rfl
theorem tw_5_66 : (Cond.codeWith yL_of method_30_code 5 (Option.some Jvm.ClassFile.FieldType.int) [((0 : Nat), (10 : Nat), (13 : Nat), (13 : Nat)), ((0 : Nat), (10 : Nat), (17 : Nat), (15 : Nat))]) ∈ GW := mGW (tb5 (List.mem_of_getElem? (i := 66) rfl)) rfl
theorem tw_5_67 : (Cond.methodLink "TrenchboardLaw" 104 yX8_of) ∈ GW := mGW (tb5 (List.mem_of_getElem? (i := 67) rfl)) rfl
theorem tw_5_68 : (Cond.instanceMethod yX8_of) ∈ GW := mGW (tb5 (List.mem_of_getElem? (i := 68) rfl)) rfl
theorem tw_5_69 : (Cond.selects "Trenchboard" yX8_of yX8_of) ∈ GW := mGW (tb5 (List.mem_of_getElem? (i := 69) rfl)) rfl
theorem tw_5_70 : (Cond.code yX8_of prog_1_method_29_code 4 (Option.some Jvm.ClassFile.FieldType.int)) ∈ GW := mGW (tb5 (List.mem_of_getElem? (i := 70) rfl)) rfl
theorem tw_5_71 : (Cond.stringRef "Trenchboard" 413 "what out of range") ∈ lw_tbl := tb5 (List.mem_of_getElem? (i := 71) rfl)
theorem tw_5_72 : (Cond.methodLink "TrenchboardLaw" 226 yL_metre) ∈ GW := mGW (tb5 (List.mem_of_getElem? (i := 72) rfl)) rfl
theorem tw_5_73 : (Cond.static yL_metre) ∈ GW := mGW (tb5 (List.mem_of_getElem? (i := 73) rfl)) rfl
theorem tw_5_74 : (Cond.codeWith yL_metre method_31_code 6 (Option.some Jvm.ClassFile.FieldType.int) [((0 : Nat), (12 : Nat), (15 : Nat), (13 : Nat)), ((0 : Nat), (12 : Nat), (19 : Nat), (15 : Nat))]) ∈ GW := mGW (tb5 (List.mem_of_getElem? (i := 74) rfl)) rfl
theorem tw_5_75 : (Cond.methodLink "TrenchboardLaw" 107 yX8_metre) ∈ GW := mGW (tb5 (List.mem_of_getElem? (i := 75) rfl)) rfl
theorem tw_5_76 : (Cond.instanceMethod yX8_metre) ∈ GW := mGW (tb5 (List.mem_of_getElem? (i := 76) rfl)) rfl
theorem tw_5_77 : (Cond.selects "Trenchboard" yX8_metre yX8_metre) ∈ GW := mGW (tb5 (List.mem_of_getElem? (i := 77) rfl)) rfl
theorem tw_5_78 : (Cond.code yX8_metre prog_1_method_30_code 6 (Option.some Jvm.ClassFile.FieldType.int)) ∈ GW := mGW (tb5 (List.mem_of_getElem? (i := 78) rfl)) rfl
theorem tw_5_79 : (Cond.methodLink "TrenchboardLaw" 229 yL_search) ∈ GW := mGW (tb5 (List.mem_of_getElem? (i := 79) rfl)) rfl
theorem tw_5_80 : (Cond.static yL_search) ∈ GW := mGW (tb5 (List.mem_of_getElem? (i := 80) rfl)) rfl
theorem tw_5_81 : (Cond.codeWith yL_search method_32_code 6 (Option.some Jvm.ClassFile.FieldType.int) [((0 : Nat), (12 : Nat), (15 : Nat), (13 : Nat)), ((0 : Nat), (12 : Nat), (19 : Nat), (15 : Nat))]) ∈ GW := mGW (tb5 (List.mem_of_getElem? (i := 81) rfl)) rfl
theorem tw_5_82 : (Cond.methodLink "TrenchboardLaw" 110 yX8_search) ∈ GW := mGW (tb5 (List.mem_of_getElem? (i := 82) rfl)) rfl
theorem tw_5_83 : (Cond.instanceMethod yX8_search) ∈ GW := mGW (tb5 (List.mem_of_getElem? (i := 83) rfl)) rfl
theorem tw_5_84 : (Cond.selects "Trenchboard" yX8_search yX8_search) ∈ GW := mGW (tb5 (List.mem_of_getElem? (i := 84) rfl)) rfl
theorem tw_5_85 : (Cond.code yX8_search prog_1_method_31_code 5 (Option.some Jvm.ClassFile.FieldType.int)) ∈ GW := mGW (tb5 (List.mem_of_getElem? (i := 85) rfl)) rfl
theorem tw_5_86 : (Cond.stringRef "Trenchboard" 415 "metres the wrong way round") ∈ lw_tbl := tb5 (List.mem_of_getElem? (i := 86) rfl)
theorem tw_5_87 : (Cond.methodLink "TrenchboardLaw" 232 yL_queue) ∈ GW := mGW (tb5 (List.mem_of_getElem? (i := 87) rfl)) rfl
theorem tw_5_88 : (Cond.static yL_queue) ∈ GW := mGW (tb5 (List.mem_of_getElem? (i := 88) rfl)) rfl
theorem tw_5_89 : (Cond.codeWith yL_queue method_33_code 4 (Option.some Jvm.ClassFile.FieldType.int) [((0 : Nat), (9 : Nat), (12 : Nat), (13 : Nat))]) ∈ GW := mGW (tb5 (List.mem_of_getElem? (i := 89) rfl)) rfl
theorem tw_5_90 : (Cond.methodLink "TrenchboardLaw" 113 yX8_queue) ∈ GW := mGW (tb5 (List.mem_of_getElem? (i := 90) rfl)) rfl
theorem tw_5_91 : (Cond.instanceMethod yX8_queue) ∈ GW := mGW (tb5 (List.mem_of_getElem? (i := 91) rfl)) rfl
theorem tw_5_92 : (Cond.selects "Trenchboard" yX8_queue yX8_queue) ∈ GW := mGW (tb5 (List.mem_of_getElem? (i := 92) rfl)) rfl
theorem tw_5_93 : (Cond.code yX8_queue prog_1_method_32_code 3 (Option.some Jvm.ClassFile.FieldType.int)) ∈ GW := mGW (tb5 (List.mem_of_getElem? (i := 93) rfl)) rfl
theorem tw_5_94 : (Cond.methodLink "TrenchboardLaw" 235 yL_due) ∈ GW := mGW (tb5 (List.mem_of_getElem? (i := 94) rfl)) rfl
theorem tw_5_95 : (Cond.static yL_due) ∈ GW := mGW (tb5 (List.mem_of_getElem? (i := 95) rfl)) rfl
theorem tw_5_96 : (Cond.codeWith yL_due method_34_code 4 (Option.some Jvm.ClassFile.FieldType.int) [((0 : Nat), (9 : Nat), (12 : Nat), (13 : Nat))]) ∈ GW := mGW (tb5 (List.mem_of_getElem? (i := 96) rfl)) rfl
theorem tw_5_97 : (Cond.methodLink "TrenchboardLaw" 116 yX8_due) ∈ GW := mGW (tb5 (List.mem_of_getElem? (i := 97) rfl)) rfl
theorem tw_5_98 : (Cond.instanceMethod yX8_due) ∈ GW := mGW (tb5 (List.mem_of_getElem? (i := 98) rfl)) rfl
theorem tw_5_99 : (Cond.selects "Trenchboard" yX8_due yX8_due) ∈ GW := mGW (tb5 (List.mem_of_getElem? (i := 99) rfl)) rfl
theorem tw_5_100 : (Cond.code yX8_due prog_1_method_33_code 4 (Option.some Jvm.ClassFile.FieldType.int)) ∈ GW := mGW (tb5 (List.mem_of_getElem? (i := 100) rfl)) rfl
theorem tw_5_101 : (Cond.stringRef "Trenchboard" 428 "no such promoter") ∈ lw_tbl := tb5 (List.mem_of_getElem? (i := 101) rfl)
theorem tw_5_102 : (Cond.methodLink "Trenchboard" 433 yJ9_min_7cf53) ∈ GW := mGW (tb5 (List.mem_of_getElem? (i := 102) rfl)) rfl
theorem tw_5_103 : (Cond.methodLink "TrenchboardLaw" 238 yL_money) ∈ GW := mGW (tb5 (List.mem_of_getElem? (i := 103) rfl)) rfl
theorem tw_5_104 : (Cond.static yL_money) ∈ GW := mGW (tb5 (List.mem_of_getElem? (i := 104) rfl)) rfl
theorem tw_5_105 : (Cond.codeWith yL_money method_35_code 4 (Option.some Jvm.ClassFile.FieldType.int) [((0 : Nat), (8 : Nat), (11 : Nat), (13 : Nat))]) ∈ GW := mGW (tb5 (List.mem_of_getElem? (i := 105) rfl)) rfl
theorem tw_5_106 : (Cond.methodLink "TrenchboardLaw" 119 yX8_money) ∈ GW := mGW (tb5 (List.mem_of_getElem? (i := 106) rfl)) rfl
theorem tw_5_107 : (Cond.instanceMethod yX8_money) ∈ GW := mGW (tb5 (List.mem_of_getElem? (i := 107) rfl)) rfl
theorem tw_5_108 : (Cond.selects "Trenchboard" yX8_money yX8_money) ∈ GW := mGW (tb5 (List.mem_of_getElem? (i := 108) rfl)) rfl
theorem tw_5_109 : (Cond.code yX8_money prog_1_method_34_code 3 (Option.some Jvm.ClassFile.FieldType.long)) ∈ GW := mGW (tb5 (List.mem_of_getElem? (i := 109) rfl)) rfl
theorem tw_5_110 : (Cond.stringRef "Trenchboard" 440 "no such promoter, nor the board") ∈ lw_tbl := tb5 (List.mem_of_getElem? (i := 110) rfl)
theorem tw_5_111 : (Cond.methodLink "TrenchboardLaw" 241 yL_moneyAnew) ∈ GW := mGW (tb5 (List.mem_of_getElem? (i := 111) rfl)) rfl
theorem tw_5_112 : (Cond.static yL_moneyAnew) ∈ GW := mGW (tb5 (List.mem_of_getElem? (i := 112) rfl)) rfl
theorem tw_5_113 : (Cond.codeWith yL_moneyAnew method_36_code 4 (Option.some Jvm.ClassFile.FieldType.int) [((0 : Nat), (8 : Nat), (11 : Nat), (13 : Nat))]) ∈ GW := mGW (tb5 (List.mem_of_getElem? (i := 113) rfl)) rfl
theorem tw_5_114 : (Cond.methodLink "TrenchboardLaw" 123 yX8_moneyAnew) ∈ GW := mGW (tb5 (List.mem_of_getElem? (i := 114) rfl)) rfl
theorem tw_5_115 : (Cond.instanceMethod yX8_moneyAnew) ∈ GW := mGW (tb5 (List.mem_of_getElem? (i := 115) rfl)) rfl
theorem tw_5_116 : (Cond.selects "Trenchboard" yX8_moneyAnew yX8_moneyAnew) ∈ GW := mGW (tb5 (List.mem_of_getElem? (i := 116) rfl)) rfl
theorem tw_5_117 : (Cond.code yX8_moneyAnew prog_1_method_35_code 2 (Option.some Jvm.ClassFile.FieldType.long)) ∈ GW := mGW (tb5 (List.mem_of_getElem? (i := 117) rfl)) rfl
theorem tw_5_118 : (Cond.methodLink "Trenchboard" 446 yX1_balanceOf) ∈ GW := mGW (tb5 (List.mem_of_getElem? (i := 118) rfl)) rfl
theorem tw_5_119 : (Cond.instanceMethod yX1_balanceOf) ∈ GW := mGW (tb5 (List.mem_of_getElem? (i := 119) rfl)) rfl
theorem tw_5_120 : (Cond.selects "Trenchboard$Ledger" yX1_balanceOf yX1_balanceOf) ∈ GW := mGW (tb5 (List.mem_of_getElem? (i := 120) rfl)) rfl
theorem tw_5_121 : (Cond.code yX1_balanceOf prog_3_method_3_code 6 (Option.some Jvm.ClassFile.FieldType.long)) ∈ GW := mGW (tb5 (List.mem_of_getElem? (i := 121) rfl)) rfl
theorem tw_5_122 : (Cond.classLink "TrenchboardLaw" 127 "TrenchboardModel") ∈ GW := mGW (tb5 (List.mem_of_getElem? (i := 122) rfl)) rfl
theorem tw_5_123 : (Cond.instantiable "TrenchboardModel" 50) ∈ GW := mGW (tb5 (List.mem_of_getElem? (i := 123) rfl)) rfl
theorem tw_5_124 : (Cond.methodLink "TrenchboardLaw" 129 yX9_init) ∈ GW := mGW (tb5 (List.mem_of_getElem? (i := 124) rfl)) rfl
theorem tw_5_125 : (Cond.instanceMethod yX9_init) ∈ GW := mGW (tb5 (List.mem_of_getElem? (i := 125) rfl)) rfl
theorem tw_5_126 : (Cond.code yX9_init prog_11_method_1_code 2 (Option.none : Option Jvm.ClassFile.FieldType)) ∈ GW := mGW (tb5 (List.mem_of_getElem? (i := 126) rfl)) rfl
theorem tw_5_127 : (Cond.methodLink "TrenchboardModel" 1 ⟨"java/lang/Object", "<init>", "()V"⟩) ∈ GW := mGW (tb5 (List.mem_of_getElem? (i := 127) rfl)) rfl
theorem tw_5_128 : (Cond.fieldLink "TrenchboardModel" 165 "TrenchboardModel" "hour" "I") ∈ GW := mGW (tb5 (List.mem_of_getElem? (i := 128) rfl)) rfl
theorem tw_5_129 : (Cond.fieldLink "TrenchboardModel" 148 "TrenchboardModel" "streets" "I") ∈ GW := mGW (tb5 (List.mem_of_getElem? (i := 129) rfl)) rfl
theorem tw_5_130 : (Cond.fieldLink "TrenchboardModel" 7 "TrenchboardModel" "lengths" "[I") ∈ GW := mGW (tb5 (List.mem_of_getElem? (i := 130) rfl)) rfl
theorem tw_5_131 : (Cond.fieldLink "TrenchboardModel" 13 "TrenchboardModel" "grades" "[I") ∈ GW := mGW (tb5 (List.mem_of_getElem? (i := 131) rfl)) rfl
theorem tw_5_132 : (Cond.fieldLink "TrenchboardModel" 16 "TrenchboardModel" "flows" "[I") ∈ GW := mGW (tb5 (List.mem_of_getElem? (i := 132) rfl)) rfl
theorem tw_5_133 : (Cond.fieldLink "TrenchboardModel" 19 "TrenchboardModel" "arounds" "[I") ∈ GW := mGW (tb5 (List.mem_of_getElem? (i := 133) rfl)) rfl
theorem tw_5_134 : (Cond.fieldLink "TrenchboardModel" 22 "TrenchboardModel" "surfaced" "[I") ∈ GW := mGW (tb5 (List.mem_of_getElem? (i := 134) rfl)) rfl
theorem tw_5_135 : (Cond.fieldLink "TrenchboardModel" 25 "TrenchboardModel" "fillsThen" "[I") ∈ GW := mGW (tb5 (List.mem_of_getElem? (i := 135) rfl)) rfl
theorem tw_5_136 : (Cond.fieldLink "TrenchboardModel" 28 "TrenchboardModel" "embargoFrom" "[I") ∈ GW := mGW (tb5 (List.mem_of_getElem? (i := 136) rfl)) rfl
theorem tw_5_137 : (Cond.fieldLink "TrenchboardModel" 31 "TrenchboardModel" "embargoTo" "[I") ∈ GW := mGW (tb5 (List.mem_of_getElem? (i := 137) rfl)) rfl
theorem tw_5_138 : (Cond.fieldLink "TrenchboardModel" 34 "TrenchboardModel" "queues" "[I") ∈ GW := mGW (tb5 (List.mem_of_getElem? (i := 138) rfl)) rfl
theorem tw_5_139 : (Cond.fieldLink "TrenchboardModel" 37 "TrenchboardModel" "comes" "[I") ∈ GW := mGW (tb5 (List.mem_of_getElem? (i := 139) rfl)) rfl
theorem tw_5_140 : (Cond.fieldLink "TrenchboardModel" 40 "TrenchboardModel" "isSure" "[Z") ∈ GW := mGW (tb5 (List.mem_of_getElem? (i := 140) rfl)) rfl
theorem tw_5_141 : (Cond.fieldLink "TrenchboardModel" 44 "TrenchboardModel" "openBy" "[I") ∈ GW := mGW (tb5 (List.mem_of_getElem? (i := 141) rfl)) rfl
theorem tw_5_142 : (Cond.fieldLink "TrenchboardModel" 159 "TrenchboardModel" "things" "I") ∈ GW := mGW (tb5 (List.mem_of_getElem? (i := 142) rfl)) rfl
theorem tw_5_143 : (Cond.fieldLink "TrenchboardModel" 47 "TrenchboardModel" "owners" "[I") ∈ GW := mGW (tb5 (List.mem_of_getElem? (i := 143) rfl)) rfl
theorem tw_5_144 : (Cond.fieldLink "TrenchboardModel" 50 "TrenchboardModel" "thingStreet" "[I") ∈ GW := mGW (tb5 (List.mem_of_getElem? (i := 144) rfl)) rfl
theorem tw_5_145 : (Cond.fieldLink "TrenchboardModel" 53 "TrenchboardModel" "thingFrom" "[I") ∈ GW := mGW (tb5 (List.mem_of_getElem? (i := 145) rfl)) rfl
theorem tw_5_146 : (Cond.fieldLink "TrenchboardModel" 56 "TrenchboardModel" "thingTo" "[I") ∈ GW := mGW (tb5 (List.mem_of_getElem? (i := 146) rfl)) rfl
theorem tw_5_147 : (Cond.fieldLink "TrenchboardModel" 59 "TrenchboardModel" "thingDepth" "[I") ∈ GW := mGW (tb5 (List.mem_of_getElem? (i := 147) rfl)) rfl
theorem tw_5_148 : (Cond.fieldLink "TrenchboardModel" 62 "TrenchboardModel" "hasRecord" "[Z") ∈ GW := mGW (tb5 (List.mem_of_getElem? (i := 148) rfl)) rfl
theorem tw_5_149 : (Cond.fieldLink "TrenchboardModel" 65 "TrenchboardModel" "recordFrom" "[I") ∈ GW := mGW (tb5 (List.mem_of_getElem? (i := 149) rfl)) rfl
theorem tw_5_150 : (Cond.fieldLink "TrenchboardModel" 68 "TrenchboardModel" "recordTo" "[I") ∈ GW := mGW (tb5 (List.mem_of_getElem? (i := 150) rfl)) rfl
theorem tw_5_151 : (Cond.fieldLink "TrenchboardModel" 162 "TrenchboardModel" "works" "I") ∈ GW := mGW (tb5 (List.mem_of_getElem? (i := 151) rfl)) rfl
theorem tw_5_152 : (Cond.fieldLink "TrenchboardModel" 71 "TrenchboardModel" "promoters" "[I") ∈ GW := mGW (tb5 (List.mem_of_getElem? (i := 152) rfl)) rfl
theorem tw_5_153 : (Cond.fieldLink "TrenchboardModel" 74 "TrenchboardModel" "workStreet" "[I") ∈ GW := mGW (tb5 (List.mem_of_getElem? (i := 153) rfl)) rfl
theorem tw_5_154 : (Cond.fieldLink "TrenchboardModel" 77 "TrenchboardModel" "workFrom" "[I") ∈ GW := mGW (tb5 (List.mem_of_getElem? (i := 154) rfl)) rfl
theorem tw_5_155 : (Cond.fieldLink "TrenchboardModel" 80 "TrenchboardModel" "workTo" "[I") ∈ GW := mGW (tb5 (List.mem_of_getElem? (i := 155) rfl)) rfl
theorem tw_5_156 : (Cond.fieldLink "TrenchboardModel" 83 "TrenchboardModel" "workDepth" "[I") ∈ GW := mGW (tb5 (List.mem_of_getElem? (i := 156) rfl)) rfl
theorem tw_5_157 : (Cond.fieldLink "TrenchboardModel" 86 "TrenchboardModel" "kinds" "[I") ∈ GW := mGW (tb5 (List.mem_of_getElem? (i := 157) rfl)) rfl
theorem tw_5_158 : (Cond.fieldLink "TrenchboardModel" 89 "TrenchboardModel" "firstDay" "[I") ∈ GW := mGW (tb5 (List.mem_of_getElem? (i := 158) rfl)) rfl
theorem tw_5_159 : (Cond.fieldLink "TrenchboardModel" 92 "TrenchboardModel" "manyDays" "[I") ∈ GW := mGW (tb5 (List.mem_of_getElem? (i := 159) rfl)) rfl
theorem tw_5_160 : (Cond.fieldLink "TrenchboardModel" 95 "TrenchboardModel" "askedOn" "[I") ∈ GW := mGW (tb5 (List.mem_of_getElem? (i := 160) rfl)) rfl
theorem tw_5_161 : (Cond.fieldLink "TrenchboardModel" 98 "TrenchboardModel" "states" "[I") ∈ GW := mGW (tb5 (List.mem_of_getElem? (i := 161) rfl)) rfl
theorem tw_5_162 : (Cond.fieldLink "TrenchboardModel" 101 "TrenchboardModel" "conditions" "[I") ∈ GW := mGW (tb5 (List.mem_of_getElem? (i := 162) rfl)) rfl
theorem tw_5_163 : (Cond.fieldLink "TrenchboardModel" 104 "TrenchboardModel" "versions" "[I") ∈ GW := mGW (tb5 (List.mem_of_getElem? (i := 163) rfl)) rfl
theorem tw_5_164 : (Cond.fieldLink "TrenchboardModel" 107 "TrenchboardModel" "finds" "[I") ∈ GW := mGW (tb5 (List.mem_of_getElem? (i := 164) rfl)) rfl
theorem tw_5_165 : (Cond.fieldLink "TrenchboardModel" 110 "TrenchboardModel" "hasPlates" "[Z") ∈ GW := mGW (tb5 (List.mem_of_getElem? (i := 165) rfl)) rfl
theorem tw_5_166 : (Cond.fieldLink "TrenchboardModel" 113 "TrenchboardModel" "isExempt" "[Z") ∈ GW := mGW (tb5 (List.mem_of_getElem? (i := 166) rfl)) rfl
theorem tw_5_167 : (Cond.fieldLink "TrenchboardModel" 116 "TrenchboardModel" "doAgree" "[Z") ∈ GW := mGW (tb5 (List.mem_of_getElem? (i := 167) rfl)) rfl
theorem tw_5_168 : (Cond.fieldLink "TrenchboardModel" 179 "TrenchboardModel" "fills" "I") ∈ GW := mGW (tb5 (List.mem_of_getElem? (i := 168) rfl)) rfl
theorem tw_5_169 : (Cond.fieldLink "TrenchboardModel" 119 "TrenchboardModel" "fillAt" "[I") ∈ GW := mGW (tb5 (List.mem_of_getElem? (i := 169) rfl)) rfl
theorem tw_5_170 : (Cond.fieldLink "TrenchboardModel" 122 "TrenchboardModel" "fillBy" "[I") ∈ GW := mGW (tb5 (List.mem_of_getElem? (i := 170) rfl)) rfl
theorem tw_5_171 : (Cond.fieldLink "TrenchboardModel" 125 "TrenchboardModel" "fillDay" "[I") ∈ GW := mGW (tb5 (List.mem_of_getElem? (i := 171) rfl)) rfl
theorem tw_5_172 : (Cond.fieldLink "TrenchboardModel" 128 "TrenchboardModel" "fillDensity" "[I") ∈ GW := mGW (tb5 (List.mem_of_getElem? (i := 172) rfl)) rfl
theorem tw_5_173 : (Cond.fieldLink "TrenchboardModel" 131 "TrenchboardModel" "isCored" "[Z") ∈ GW := mGW (tb5 (List.mem_of_getElem? (i := 173) rfl)) rfl
theorem tw_5_174 : (Cond.fieldLink "TrenchboardModel" 134 "TrenchboardModel" "faults" "[I") ∈ GW := mGW (tb5 (List.mem_of_getElem? (i := 174) rfl)) rfl
theorem tw_5_175 : (Cond.fieldLink "TrenchboardModel" 137 "TrenchboardModel" "cores" "[I") ∈ GW := mGW (tb5 (List.mem_of_getElem? (i := 175) rfl)) rfl
theorem tw_5_176 : (Cond.fieldLink "TrenchboardModel" 140 "TrenchboardModel" "moneys" "[J") ∈ GW := mGW (tb5 (List.mem_of_getElem? (i := 176) rfl)) rfl
theorem tw_5_177 : (Cond.fieldLink "TrenchboardModel" 144 "TrenchboardModel" "thrown" "I") ∈ GW := mGW (tb5 (List.mem_of_getElem? (i := 177) rfl)) rfl
theorem tw_5_178 : (Cond.lays "TrenchboardModel" "TrenchboardModel" "hour" "I") ∈ GW := mGW (tb5 (List.mem_of_getElem? (i := 178) rfl)) rfl
theorem tw_5_180 : (Cond.lays "TrenchboardModel" "TrenchboardModel" "streets" "I") ∈ GW := mGW (tb5 (List.mem_of_getElem? (i := 180) rfl)) rfl
theorem tw_5_182 : (Cond.laysFinal "TrenchboardModel" "TrenchboardModel" "lengths" "[I") ∈ GW := mGW (tb5 (List.mem_of_getElem? (i := 182) rfl)) rfl
theorem tw_5_184 : (Cond.laysFinal "TrenchboardModel" "TrenchboardModel" "grades" "[I") ∈ GW := mGW (tb5 (List.mem_of_getElem? (i := 184) rfl)) rfl
theorem tw_5_186 : (Cond.laysFinal "TrenchboardModel" "TrenchboardModel" "flows" "[I") ∈ GW := mGW (tb5 (List.mem_of_getElem? (i := 186) rfl)) rfl
theorem tw_5_188 : (Cond.laysFinal "TrenchboardModel" "TrenchboardModel" "arounds" "[I") ∈ GW := mGW (tb5 (List.mem_of_getElem? (i := 188) rfl)) rfl
theorem tw_5_190 : (Cond.laysFinal "TrenchboardModel" "TrenchboardModel" "surfaced" "[I") ∈ GW := mGW (tb5 (List.mem_of_getElem? (i := 190) rfl)) rfl
theorem tw_5_192 : (Cond.laysFinal "TrenchboardModel" "TrenchboardModel" "fillsThen" "[I") ∈ GW := mGW (tb5 (List.mem_of_getElem? (i := 192) rfl)) rfl
theorem tw_5_194 : (Cond.laysFinal "TrenchboardModel" "TrenchboardModel" "embargoFrom" "[I") ∈ GW := mGW (tb5 (List.mem_of_getElem? (i := 194) rfl)) rfl
theorem tw_5_196 : (Cond.laysFinal "TrenchboardModel" "TrenchboardModel" "embargoTo" "[I") ∈ GW := mGW (tb5 (List.mem_of_getElem? (i := 196) rfl)) rfl
theorem tw_5_198 : (Cond.laysFinal "TrenchboardModel" "TrenchboardModel" "queues" "[I") ∈ GW := mGW (tb5 (List.mem_of_getElem? (i := 198) rfl)) rfl
theorem tw_5_200 : (Cond.laysFinal "TrenchboardModel" "TrenchboardModel" "comes" "[I") ∈ GW := mGW (tb5 (List.mem_of_getElem? (i := 200) rfl)) rfl
theorem tw_5_202 : (Cond.laysFinal "TrenchboardModel" "TrenchboardModel" "isSure" "[Z") ∈ GW := mGW (tb5 (List.mem_of_getElem? (i := 202) rfl)) rfl
theorem tw_5_204 : (Cond.laysFinal "TrenchboardModel" "TrenchboardModel" "openBy" "[I") ∈ GW := mGW (tb5 (List.mem_of_getElem? (i := 204) rfl)) rfl
theorem tw_5_206 : (Cond.lays "TrenchboardModel" "TrenchboardModel" "things" "I") ∈ GW := mGW (tb5 (List.mem_of_getElem? (i := 206) rfl)) rfl
theorem tw_5_208 : (Cond.laysFinal "TrenchboardModel" "TrenchboardModel" "owners" "[I") ∈ GW := mGW (tb5 (List.mem_of_getElem? (i := 208) rfl)) rfl
theorem tw_5_210 : (Cond.laysFinal "TrenchboardModel" "TrenchboardModel" "thingStreet" "[I") ∈ GW := mGW (tb5 (List.mem_of_getElem? (i := 210) rfl)) rfl
theorem tw_5_212 : (Cond.laysFinal "TrenchboardModel" "TrenchboardModel" "thingFrom" "[I") ∈ GW := mGW (tb5 (List.mem_of_getElem? (i := 212) rfl)) rfl
theorem tw_5_214 : (Cond.laysFinal "TrenchboardModel" "TrenchboardModel" "thingTo" "[I") ∈ GW := mGW (tb5 (List.mem_of_getElem? (i := 214) rfl)) rfl
theorem tw_5_216 : (Cond.laysFinal "TrenchboardModel" "TrenchboardModel" "thingDepth" "[I") ∈ GW := mGW (tb5 (List.mem_of_getElem? (i := 216) rfl)) rfl
theorem tw_5_218 : (Cond.laysFinal "TrenchboardModel" "TrenchboardModel" "hasRecord" "[Z") ∈ GW := mGW (tb5 (List.mem_of_getElem? (i := 218) rfl)) rfl
theorem tw_5_220 : (Cond.laysFinal "TrenchboardModel" "TrenchboardModel" "recordFrom" "[I") ∈ GW := mGW (tb5 (List.mem_of_getElem? (i := 220) rfl)) rfl
theorem tw_5_222 : (Cond.laysFinal "TrenchboardModel" "TrenchboardModel" "recordTo" "[I") ∈ GW := mGW (tb5 (List.mem_of_getElem? (i := 222) rfl)) rfl
theorem tw_5_224 : (Cond.lays "TrenchboardModel" "TrenchboardModel" "works" "I") ∈ GW := mGW (tb5 (List.mem_of_getElem? (i := 224) rfl)) rfl
theorem tw_5_226 : (Cond.laysFinal "TrenchboardModel" "TrenchboardModel" "promoters" "[I") ∈ GW := mGW (tb5 (List.mem_of_getElem? (i := 226) rfl)) rfl
theorem tw_5_228 : (Cond.laysFinal "TrenchboardModel" "TrenchboardModel" "workStreet" "[I") ∈ GW := mGW (tb5 (List.mem_of_getElem? (i := 228) rfl)) rfl
theorem tw_5_230 : (Cond.laysFinal "TrenchboardModel" "TrenchboardModel" "workFrom" "[I") ∈ GW := mGW (tb5 (List.mem_of_getElem? (i := 230) rfl)) rfl
theorem tw_5_232 : (Cond.laysFinal "TrenchboardModel" "TrenchboardModel" "workTo" "[I") ∈ GW := mGW (tb5 (List.mem_of_getElem? (i := 232) rfl)) rfl
theorem tw_5_234 : (Cond.laysFinal "TrenchboardModel" "TrenchboardModel" "workDepth" "[I") ∈ GW := mGW (tb5 (List.mem_of_getElem? (i := 234) rfl)) rfl
theorem tw_5_236 : (Cond.laysFinal "TrenchboardModel" "TrenchboardModel" "kinds" "[I") ∈ GW := mGW (tb5 (List.mem_of_getElem? (i := 236) rfl)) rfl
theorem tw_5_238 : (Cond.laysFinal "TrenchboardModel" "TrenchboardModel" "firstDay" "[I") ∈ GW := mGW (tb5 (List.mem_of_getElem? (i := 238) rfl)) rfl
theorem tw_6_0 : (Cond.laysFinal "TrenchboardModel" "TrenchboardModel" "manyDays" "[I") ∈ GW := mGW (tb6 (List.mem_of_getElem? (i := 0) rfl)) rfl
theorem tw_6_2 : (Cond.laysFinal "TrenchboardModel" "TrenchboardModel" "askedOn" "[I") ∈ GW := mGW (tb6 (List.mem_of_getElem? (i := 2) rfl)) rfl
theorem tw_6_4 : (Cond.laysFinal "TrenchboardModel" "TrenchboardModel" "states" "[I") ∈ GW := mGW (tb6 (List.mem_of_getElem? (i := 4) rfl)) rfl
theorem tw_6_6 : (Cond.laysFinal "TrenchboardModel" "TrenchboardModel" "conditions" "[I") ∈ GW := mGW (tb6 (List.mem_of_getElem? (i := 6) rfl)) rfl
theorem tw_6_8 : (Cond.laysFinal "TrenchboardModel" "TrenchboardModel" "versions" "[I") ∈ GW := mGW (tb6 (List.mem_of_getElem? (i := 8) rfl)) rfl
theorem tw_6_10 : (Cond.laysFinal "TrenchboardModel" "TrenchboardModel" "finds" "[I") ∈ GW := mGW (tb6 (List.mem_of_getElem? (i := 10) rfl)) rfl
theorem tw_6_12 : (Cond.laysFinal "TrenchboardModel" "TrenchboardModel" "hasPlates" "[Z") ∈ GW := mGW (tb6 (List.mem_of_getElem? (i := 12) rfl)) rfl
theorem tw_6_14 : (Cond.laysFinal "TrenchboardModel" "TrenchboardModel" "isExempt" "[Z") ∈ GW := mGW (tb6 (List.mem_of_getElem? (i := 14) rfl)) rfl
theorem tw_6_16 : (Cond.laysFinal "TrenchboardModel" "TrenchboardModel" "doAgree" "[Z") ∈ GW := mGW (tb6 (List.mem_of_getElem? (i := 16) rfl)) rfl
theorem tw_6_18 : (Cond.lays "TrenchboardModel" "TrenchboardModel" "fills" "I") ∈ GW := mGW (tb6 (List.mem_of_getElem? (i := 18) rfl)) rfl
theorem tw_6_20 : (Cond.laysFinal "TrenchboardModel" "TrenchboardModel" "fillAt" "[I") ∈ GW := mGW (tb6 (List.mem_of_getElem? (i := 20) rfl)) rfl
theorem tw_6_22 : (Cond.laysFinal "TrenchboardModel" "TrenchboardModel" "fillBy" "[I") ∈ GW := mGW (tb6 (List.mem_of_getElem? (i := 22) rfl)) rfl
theorem tw_6_24 : (Cond.laysFinal "TrenchboardModel" "TrenchboardModel" "fillDay" "[I") ∈ GW := mGW (tb6 (List.mem_of_getElem? (i := 24) rfl)) rfl
theorem tw_6_26 : (Cond.laysFinal "TrenchboardModel" "TrenchboardModel" "fillDensity" "[I") ∈ GW := mGW (tb6 (List.mem_of_getElem? (i := 26) rfl)) rfl
theorem tw_6_28 : (Cond.laysFinal "TrenchboardModel" "TrenchboardModel" "isCored" "[Z") ∈ GW := mGW (tb6 (List.mem_of_getElem? (i := 28) rfl)) rfl
theorem tw_6_30 : (Cond.laysFinal "TrenchboardModel" "TrenchboardModel" "faults" "[I") ∈ GW := mGW (tb6 (List.mem_of_getElem? (i := 30) rfl)) rfl
theorem tw_6_32 : (Cond.laysFinal "TrenchboardModel" "TrenchboardModel" "cores" "[I") ∈ GW := mGW (tb6 (List.mem_of_getElem? (i := 32) rfl)) rfl
theorem tw_6_34 : (Cond.laysFinal "TrenchboardModel" "TrenchboardModel" "moneys" "[J") ∈ GW := mGW (tb6 (List.mem_of_getElem? (i := 34) rfl)) rfl
theorem tw_6_36 : (Cond.lays "TrenchboardModel" "TrenchboardModel" "thrown" "I") ∈ GW := mGW (tb6 (List.mem_of_getElem? (i := 36) rfl)) rfl
theorem tw_6_38 : (Cond.superclass "TrenchboardModel" "java/lang/Object") ∈ lw_tbl := tb6 (List.mem_of_getElem? (i := 38) rfl)
theorem tw_6_39 : (Cond.arrayClass Jvm.ClassFile.FieldType.boolean) ∈ GW := mGW (tb6 (List.mem_of_getElem? (i := 39) rfl)) rfl
theorem tw_6_40 : (Cond.arrayClass Jvm.ClassFile.FieldType.long) ∈ GW := mGW (tb6 (List.mem_of_getElem? (i := 40) rfl)) rfl
theorem tw_6_41 : (Cond.methodLink "TrenchboardLaw" 136 yX9_thrown) ∈ GW := mGW (tb6 (List.mem_of_getElem? (i := 41) rfl)) rfl
theorem tw_6_42 : (Cond.instanceMethod yX9_thrown) ∈ GW := mGW (tb6 (List.mem_of_getElem? (i := 42) rfl)) rfl
theorem tw_6_43 : (Cond.selects "TrenchboardModel" yX9_thrown yX9_thrown) ∈ GW := mGW (tb6 (List.mem_of_getElem? (i := 43) rfl)) rfl
theorem tw_6_44 : (Cond.code yX9_thrown prog_11_method_2_code 1 (Option.some Jvm.ClassFile.FieldType.int)) ∈ GW := mGW (tb6 (List.mem_of_getElem? (i := 44) rfl)) rfl
theorem tw_6_45 : (Cond.methodLink "TrenchboardLaw" 135 yX9_street) ∈ GW := mGW (tb6 (List.mem_of_getElem? (i := 45) rfl)) rfl
theorem tw_6_46 : (Cond.instanceMethod yX9_street) ∈ GW := mGW (tb6 (List.mem_of_getElem? (i := 46) rfl)) rfl
theorem tw_6_47 : (Cond.selects "TrenchboardModel" yX9_street yX9_street) ∈ GW := mGW (tb6 (List.mem_of_getElem? (i := 47) rfl)) rfl
theorem tw_6_48 : (Cond.code yX9_street prog_11_method_13_code 6 (Option.some Jvm.ClassFile.FieldType.int)) ∈ GW := mGW (tb6 (List.mem_of_getElem? (i := 48) rfl)) rfl
theorem tw_6_49 : (Cond.methodLink "TrenchboardModel" 151 yX9_isIn) ∈ GW := mGW (tb6 (List.mem_of_getElem? (i := 49) rfl)) rfl
theorem tw_6_50 : (Cond.static yX9_isIn) ∈ GW := mGW (tb6 (List.mem_of_getElem? (i := 50) rfl)) rfl
theorem tw_6_51 : (Cond.code yX9_isIn prog_11_method_4_code 3 (Option.some Jvm.ClassFile.FieldType.boolean)) ∈ GW := mGW (tb6 (List.mem_of_getElem? (i := 51) rfl)) rfl
theorem tw_6_52 : (Cond.methodLink "TrenchboardModel" 155 yX9_isStreet) ∈ GW := mGW (tb6 (List.mem_of_getElem? (i := 52) rfl)) rfl
theorem tw_6_54 : (Cond.instanceMethod yX9_isStreet) ∈ GW := mGW (tb6 (List.mem_of_getElem? (i := 54) rfl)) rfl
theorem tw_6_55 : (Cond.code yX9_isStreet prog_11_method_5_code 2 (Option.some Jvm.ClassFile.FieldType.boolean)) ∈ GW := mGW (tb6 (List.mem_of_getElem? (i := 55) rfl)) rfl
theorem tw_6_56 : (Cond.methodLink "TrenchboardModel" 168 yX9_goes) ∈ GW := mGW (tb6 (List.mem_of_getElem? (i := 56) rfl)) rfl
theorem tw_6_58 : (Cond.instanceMethod yX9_goes) ∈ GW := mGW (tb6 (List.mem_of_getElem? (i := 58) rfl)) rfl
theorem tw_6_59 : (Cond.code yX9_goes prog_11_method_3_code 2 (Option.some Jvm.ClassFile.FieldType.boolean)) ∈ GW := mGW (tb6 (List.mem_of_getElem? (i := 59) rfl)) rfl
theorem tw_6_60 : (Cond.methodLink "TrenchboardLaw" 143 yX9_surface) ∈ GW := mGW (tb6 (List.mem_of_getElem? (i := 60) rfl)) rfl
theorem tw_6_61 : (Cond.instanceMethod yX9_surface) ∈ GW := mGW (tb6 (List.mem_of_getElem? (i := 61) rfl)) rfl
theorem tw_6_62 : (Cond.selects "TrenchboardModel" yX9_surface yX9_surface) ∈ GW := mGW (tb6 (List.mem_of_getElem? (i := 62) rfl)) rfl
theorem tw_6_63 : (Cond.code yX9_surface prog_11_method_15_code 3 (Option.some Jvm.ClassFile.FieldType.int)) ∈ GW := mGW (tb6 (List.mem_of_getElem? (i := 63) rfl)) rfl
theorem tw_6_64 : (Cond.methodLink "TrenchboardModel" 171 yX9_openIn) ∈ GW := mGW (tb6 (List.mem_of_getElem? (i := 64) rfl)) rfl
theorem tw_6_66 : (Cond.instanceMethod yX9_openIn) ∈ GW := mGW (tb6 (List.mem_of_getElem? (i := 66) rfl)) rfl
theorem tw_6_67 : (Cond.code yX9_openIn prog_11_method_14_code 4 (Option.some Jvm.ClassFile.FieldType.int)) ∈ GW := mGW (tb6 (List.mem_of_getElem? (i := 67) rfl)) rfl
theorem tw_6_68 : (Cond.methodLink "TrenchboardModel" 175 yX9_today) ∈ GW := mGW (tb6 (List.mem_of_getElem? (i := 68) rfl)) rfl
theorem tw_6_70 : (Cond.instanceMethod yX9_today) ∈ GW := mGW (tb6 (List.mem_of_getElem? (i := 70) rfl)) rfl
theorem tw_6_71 : (Cond.code yX9_today prog_11_method_10_code 1 (Option.some Jvm.ClassFile.FieldType.int)) ∈ GW := mGW (tb6 (List.mem_of_getElem? (i := 71) rfl)) rfl
theorem tw_6_72 : (Cond.methodLink "TrenchboardLaw" 147 yX9_embargo) ∈ GW := mGW (tb6 (List.mem_of_getElem? (i := 72) rfl)) rfl
theorem tw_6_73 : (Cond.instanceMethod yX9_embargo) ∈ GW := mGW (tb6 (List.mem_of_getElem? (i := 73) rfl)) rfl
theorem tw_6_74 : (Cond.selects "TrenchboardModel" yX9_embargo yX9_embargo) ∈ GW := mGW (tb6 (List.mem_of_getElem? (i := 74) rfl)) rfl
theorem tw_6_75 : (Cond.code yX9_embargo prog_11_method_16_code 7 (Option.some Jvm.ClassFile.FieldType.int)) ∈ GW := mGW (tb6 (List.mem_of_getElem? (i := 75) rfl)) rfl
theorem tw_6_76 : (Cond.methodLink "TrenchboardModel" 182 yX9_hasDay) ∈ GW := mGW (tb6 (List.mem_of_getElem? (i := 76) rfl)) rfl
theorem tw_6_78 : (Cond.instanceMethod yX9_hasDay) ∈ GW := mGW (tb6 (List.mem_of_getElem? (i := 78) rfl)) rfl
theorem tw_6_79 : (Cond.code yX9_hasDay prog_11_method_28_code 4 (Option.some Jvm.ClassFile.FieldType.boolean)) ∈ GW := mGW (tb6 (List.mem_of_getElem? (i := 79) rfl)) rfl
theorem tw_6_80 : (Cond.methodLink "TrenchboardModel" 211 yX9_lastOf) ∈ GW := mGW (tb6 (List.mem_of_getElem? (i := 80) rfl)) rfl
theorem tw_6_82 : (Cond.instanceMethod yX9_lastOf) ∈ GW := mGW (tb6 (List.mem_of_getElem? (i := 82) rfl)) rfl
theorem tw_6_83 : (Cond.code yX9_lastOf prog_11_method_27_code 3 (Option.some Jvm.ClassFile.FieldType.int)) ∈ GW := mGW (tb6 (List.mem_of_getElem? (i := 83) rfl)) rfl
theorem tw_6_84 : (Cond.methodLink "TrenchboardModel" 208 yX9_lastDay) ∈ GW := mGW (tb6 (List.mem_of_getElem? (i := 84) rfl)) rfl
theorem tw_6_86 : (Cond.instanceMethod yX9_lastDay) ∈ GW := mGW (tb6 (List.mem_of_getElem? (i := 86) rfl)) rfl
theorem tw_6_87 : (Cond.code yX9_lastDay prog_11_method_26_code 2 (Option.some Jvm.ClassFile.FieldType.int)) ∈ GW := mGW (tb6 (List.mem_of_getElem? (i := 87) rfl)) rfl
theorem tw_6_88 : (Cond.methodLink "TrenchboardLaw" 151 yX9_thing) ∈ GW := mGW (tb6 (List.mem_of_getElem? (i := 88) rfl)) rfl
theorem tw_6_89 : (Cond.instanceMethod yX9_thing) ∈ GW := mGW (tb6 (List.mem_of_getElem? (i := 89) rfl)) rfl
theorem tw_6_90 : (Cond.selects "TrenchboardModel" yX9_thing yX9_thing) ∈ GW := mGW (tb6 (List.mem_of_getElem? (i := 90) rfl)) rfl
theorem tw_6_91 : (Cond.code yX9_thing prog_11_method_17_code 9 (Option.some Jvm.ClassFile.FieldType.int)) ∈ GW := mGW (tb6 (List.mem_of_getElem? (i := 91) rfl)) rfl
theorem tw_6_92 : (Cond.methodLink "TrenchboardModel" 185 yX9_isPromoter) ∈ GW := mGW (tb6 (List.mem_of_getElem? (i := 92) rfl)) rfl
theorem tw_6_93 : (Cond.static yX9_isPromoter) ∈ GW := mGW (tb6 (List.mem_of_getElem? (i := 93) rfl)) rfl
theorem tw_6_94 : (Cond.code yX9_isPromoter prog_11_method_9_code 1 (Option.some Jvm.ClassFile.FieldType.boolean)) ∈ GW := mGW (tb6 (List.mem_of_getElem? (i := 94) rfl)) rfl
theorem tw_6_95 : (Cond.methodLink "TrenchboardModel" 188 yX9_isMetre) ∈ GW := mGW (tb6 (List.mem_of_getElem? (i := 95) rfl)) rfl
theorem tw_6_97 : (Cond.instanceMethod yX9_isMetre) ∈ GW := mGW (tb6 (List.mem_of_getElem? (i := 97) rfl)) rfl
theorem tw_6_98 : (Cond.code yX9_isMetre prog_11_method_6_code 3 (Option.some Jvm.ClassFile.FieldType.boolean)) ∈ GW := mGW (tb6 (List.mem_of_getElem? (i := 98) rfl)) rfl
theorem tw_6_99 : (Cond.methodLink "TrenchboardLaw" 154 yX9_record) ∈ GW := mGW (tb6 (List.mem_of_getElem? (i := 99) rfl)) rfl
theorem tw_6_100 : (Cond.instanceMethod yX9_record) ∈ GW := mGW (tb6 (List.mem_of_getElem? (i := 100) rfl)) rfl
theorem tw_6_101 : (Cond.selects "TrenchboardModel" yX9_record yX9_record) ∈ GW := mGW (tb6 (List.mem_of_getElem? (i := 101) rfl)) rfl
theorem tw_6_102 : (Cond.code yX9_record prog_11_method_21_code 7 (Option.some Jvm.ClassFile.FieldType.int)) ∈ GW := mGW (tb6 (List.mem_of_getElem? (i := 102) rfl)) rfl
theorem tw_6_103 : (Cond.methodLink "TrenchboardModel" 195 yX9_isThing) ∈ GW := mGW (tb6 (List.mem_of_getElem? (i := 103) rfl)) rfl
theorem tw_6_105 : (Cond.instanceMethod yX9_isThing) ∈ GW := mGW (tb6 (List.mem_of_getElem? (i := 105) rfl)) rfl
theorem tw_6_106 : (Cond.code yX9_isThing prog_11_method_7_code 2 (Option.some Jvm.ClassFile.FieldType.boolean)) ∈ GW := mGW (tb6 (List.mem_of_getElem? (i := 106) rfl)) rfl
theorem tw_6_107 : (Cond.methodLink "TrenchboardModel" 198 yX9_records) ∈ GW := mGW (tb6 (List.mem_of_getElem? (i := 107) rfl)) rfl
theorem tw_6_109 : (Cond.instanceMethod yX9_records) ∈ GW := mGW (tb6 (List.mem_of_getElem? (i := 109) rfl)) rfl
theorem tw_6_110 : (Cond.code yX9_records prog_11_method_20_code 5 (Option.none : Option Jvm.ClassFile.FieldType)) ∈ GW := mGW (tb6 (List.mem_of_getElem? (i := 110) rfl)) rfl
theorem tw_6_111 : (Cond.methodLink "TrenchboardModel" 202 yX9_suspects) ∈ GW := mGW (tb6 (List.mem_of_getElem? (i := 111) rfl)) rfl
theorem tw_6_113 : (Cond.instanceMethod yX9_suspects) ∈ GW := mGW (tb6 (List.mem_of_getElem? (i := 113) rfl)) rfl
theorem tw_6_114 : (Cond.code yX9_suspects prog_11_method_19_code 4 (Option.some Jvm.ClassFile.FieldType.int)) ∈ GW := mGW (tb6 (List.mem_of_getElem? (i := 114) rfl)) rfl
theorem tw_6_115 : (Cond.methodLink "TrenchboardModel" 192 yX9_isSuspectBy) ∈ GW := mGW (tb6 (List.mem_of_getElem? (i := 115) rfl)) rfl
theorem tw_6_117 : (Cond.instanceMethod yX9_isSuspectBy) ∈ GW := mGW (tb6 (List.mem_of_getElem? (i := 117) rfl)) rfl
theorem tw_6_118 : (Cond.code yX9_isSuspectBy prog_11_method_18_code 4 (Option.some Jvm.ClassFile.FieldType.boolean)) ∈ GW := mGW (tb6 (List.mem_of_getElem? (i := 118) rfl)) rfl
theorem tw_6_119 : (Cond.methodLink "TrenchboardLaw" 157 yX9_lose) ∈ GW := mGW (tb6 (List.mem_of_getElem? (i := 119) rfl)) rfl
theorem tw_6_120 : (Cond.instanceMethod yX9_lose) ∈ GW := mGW (tb6 (List.mem_of_getElem? (i := 120) rfl)) rfl
theorem tw_6_121 : (Cond.selects "TrenchboardModel" yX9_lose yX9_lose) ∈ GW := mGW (tb6 (List.mem_of_getElem? (i := 121) rfl)) rfl
theorem tw_6_122 : (Cond.code yX9_lose prog_11_method_22_code 3 (Option.some Jvm.ClassFile.FieldType.boolean)) ∈ GW := mGW (tb6 (List.mem_of_getElem? (i := 122) rfl)) rfl
theorem tw_6_123 : (Cond.methodLink "TrenchboardLaw" 160 yX9_survey) ∈ GW := mGW (tb6 (List.mem_of_getElem? (i := 123) rfl)) rfl
theorem tw_6_124 : (Cond.instanceMethod yX9_survey) ∈ GW := mGW (tb6 (List.mem_of_getElem? (i := 124) rfl)) rfl
theorem tw_6_125 : (Cond.selects "TrenchboardModel" yX9_survey yX9_survey) ∈ GW := mGW (tb6 (List.mem_of_getElem? (i := 125) rfl)) rfl
theorem tw_6_126 : (Cond.code yX9_survey prog_11_method_23_code 5 (Option.some Jvm.ClassFile.FieldType.int)) ∈ GW := mGW (tb6 (List.mem_of_getElem? (i := 126) rfl)) rfl
theorem tw_6_127 : (Cond.methodLink "TrenchboardLaw" 164 yX9_trial) ∈ GW := mGW (tb6 (List.mem_of_getElem? (i := 127) rfl)) rfl
theorem tw_6_128 : (Cond.instanceMethod yX9_trial) ∈ GW := mGW (tb6 (List.mem_of_getElem? (i := 128) rfl)) rfl
theorem tw_6_129 : (Cond.selects "TrenchboardModel" yX9_trial yX9_trial) ∈ GW := mGW (tb6 (List.mem_of_getElem? (i := 129) rfl)) rfl
theorem tw_6_130 : (Cond.code yX9_trial prog_11_method_25_code 5 (Option.some Jvm.ClassFile.FieldType.int)) ∈ GW := mGW (tb6 (List.mem_of_getElem? (i := 130) rfl)) rfl
theorem tw_6_131 : (Cond.methodLink "TrenchboardModel" 205 yX9_lies) ∈ GW := mGW (tb6 (List.mem_of_getElem? (i := 131) rfl)) rfl
theorem tw_6_133 : (Cond.instanceMethod yX9_lies) ∈ GW := mGW (tb6 (List.mem_of_getElem? (i := 133) rfl)) rfl
theorem tw_6_134 : (Cond.code yX9_lies prog_11_method_24_code 4 (Option.some Jvm.ClassFile.FieldType.boolean)) ∈ GW := mGW (tb6 (List.mem_of_getElem? (i := 134) rfl)) rfl
theorem tw_6_135 : (Cond.methodLink "TrenchboardLaw" 168 yX9_ask) ∈ GW := mGW (tb6 (List.mem_of_getElem? (i := 135) rfl)) rfl
theorem tw_6_136 : (Cond.instanceMethod yX9_ask) ∈ GW := mGW (tb6 (List.mem_of_getElem? (i := 136) rfl)) rfl
theorem tw_6_137 : (Cond.selects "TrenchboardModel" yX9_ask yX9_ask) ∈ GW := mGW (tb6 (List.mem_of_getElem? (i := 137) rfl)) rfl
theorem tw_6_138 : (Cond.code yX9_ask prog_11_method_35_code 11 (Option.some Jvm.ClassFile.FieldType.int)) ∈ GW := mGW (tb6 (List.mem_of_getElem? (i := 138) rfl)) rfl
theorem tw_6_139 : (Cond.methodLink "TrenchboardModel" 226 yX9_notice) ∈ GW := mGW (tb6 (List.mem_of_getElem? (i := 139) rfl)) rfl
theorem tw_6_140 : (Cond.static yX9_notice) ∈ GW := mGW (tb6 (List.mem_of_getElem? (i := 140) rfl)) rfl
theorem tw_6_141 : (Cond.code yX9_notice prog_11_method_34_code 3 (Option.some Jvm.ClassFile.FieldType.int)) ∈ GW := mGW (tb6 (List.mem_of_getElem? (i := 141) rfl)) rfl
theorem tw_6_142 : (Cond.methodLink "TrenchboardLaw" 171 yX9_grant) ∈ GW := mGW (tb6 (List.mem_of_getElem? (i := 142) rfl)) rfl
theorem tw_6_143 : (Cond.instanceMethod yX9_grant) ∈ GW := mGW (tb6 (List.mem_of_getElem? (i := 143) rfl)) rfl
theorem tw_6_144 : (Cond.selects "TrenchboardModel" yX9_grant yX9_grant) ∈ GW := mGW (tb6 (List.mem_of_getElem? (i := 144) rfl)) rfl
theorem tw_6_145 : (Cond.code yX9_grant prog_11_method_37_code 4 (Option.some Jvm.ClassFile.FieldType.int)) ∈ GW := mGW (tb6 (List.mem_of_getElem? (i := 145) rfl)) rfl
theorem tw_6_146 : (Cond.methodLink "TrenchboardModel" 234 yX9_areWorks) ∈ GW := mGW (tb6 (List.mem_of_getElem? (i := 146) rfl)) rfl
theorem tw_6_148 : (Cond.instanceMethod yX9_areWorks) ∈ GW := mGW (tb6 (List.mem_of_getElem? (i := 148) rfl)) rfl
theorem tw_6_149 : (Cond.code yX9_areWorks prog_11_method_8_code 2 (Option.some Jvm.ClassFile.FieldType.boolean)) ∈ GW := mGW (tb6 (List.mem_of_getElem? (i := 149) rfl)) rfl
theorem tw_6_150 : (Cond.methodLink "TrenchboardModel" 237 yX9_barsOf) ∈ GW := mGW (tb6 (List.mem_of_getElem? (i := 150) rfl)) rfl
theorem tw_6_152 : (Cond.instanceMethod yX9_barsOf) ∈ GW := mGW (tb6 (List.mem_of_getElem? (i := 152) rfl)) rfl
theorem tw_6_153 : (Cond.code yX9_barsOf prog_11_method_33_code 5 (Option.some Jvm.ClassFile.FieldType.int)) ∈ GW := mGW (tb6 (List.mem_of_getElem? (i := 153) rfl)) rfl
theorem tw_6_154 : (Cond.methodLink "TrenchboardModel" 223 yX9_meetsOn) ∈ GW := mGW (tb6 (List.mem_of_getElem? (i := 154) rfl)) rfl
theorem tw_6_156 : (Cond.instanceMethod yX9_meetsOn) ∈ GW := mGW (tb6 (List.mem_of_getElem? (i := 156) rfl)) rfl
theorem tw_6_157 : (Cond.code yX9_meetsOn prog_11_method_32_code 4 (Option.some Jvm.ClassFile.FieldType.boolean)) ∈ GW := mGW (tb6 (List.mem_of_getElem? (i := 157) rfl)) rfl
theorem tw_6_158 : (Cond.methodLink "TrenchboardModel" 214 yX9_isOn) ∈ GW := mGW (tb6 (List.mem_of_getElem? (i := 158) rfl)) rfl
theorem tw_6_160 : (Cond.instanceMethod yX9_isOn) ∈ GW := mGW (tb6 (List.mem_of_getElem? (i := 160) rfl)) rfl
theorem tw_6_161 : (Cond.code yX9_isOn prog_11_method_29_code 2 (Option.some Jvm.ClassFile.FieldType.boolean)) ∈ GW := mGW (tb6 (List.mem_of_getElem? (i := 161) rfl)) rfl
theorem tw_6_162 : (Cond.methodLink "TrenchboardModel" 220 yX9_doMeet) ∈ GW := mGW (tb6 (List.mem_of_getElem? (i := 162) rfl)) rfl
theorem tw_6_164 : (Cond.instanceMethod yX9_doMeet) ∈ GW := mGW (tb6 (List.mem_of_getElem? (i := 164) rfl)) rfl
theorem tw_6_165 : (Cond.code yX9_doMeet prog_11_method_31_code 4 (Option.some Jvm.ClassFile.FieldType.boolean)) ∈ GW := mGW (tb6 (List.mem_of_getElem? (i := 165) rfl)) rfl
theorem tw_6_166 : (Cond.methodLink "TrenchboardModel" 217 yX9_areNear) ∈ GW := mGW (tb6 (List.mem_of_getElem? (i := 166) rfl)) rfl
theorem tw_6_168 : (Cond.instanceMethod yX9_areNear) ∈ GW := mGW (tb6 (List.mem_of_getElem? (i := 168) rfl)) rfl
theorem tw_6_169 : (Cond.code yX9_areNear prog_11_method_30_code 6 (Option.some Jvm.ClassFile.FieldType.boolean)) ∈ GW := mGW (tb6 (List.mem_of_getElem? (i := 169) rfl)) rfl
theorem tw_6_170 : (Cond.methodLink "TrenchboardModel" 240 yX9_grants) ∈ GW := mGW (tb6 (List.mem_of_getElem? (i := 170) rfl)) rfl
theorem tw_6_172 : (Cond.instanceMethod yX9_grants) ∈ GW := mGW (tb6 (List.mem_of_getElem? (i := 172) rfl)) rfl
theorem tw_6_173 : (Cond.code yX9_grants prog_11_method_36_code 5 (Option.some Jvm.ClassFile.FieldType.int)) ∈ GW := mGW (tb6 (List.mem_of_getElem? (i := 173) rfl)) rfl
theorem tw_6_174 : (Cond.methodLink "TrenchboardModel" 230 yX9_pays) ∈ GW := mGW (tb6 (List.mem_of_getElem? (i := 174) rfl)) rfl
theorem tw_6_176 : (Cond.instanceMethod yX9_pays) ∈ GW := mGW (tb6 (List.mem_of_getElem? (i := 176) rfl)) rfl
theorem tw_6_177 : (Cond.code yX9_pays prog_11_method_12_code 4 (Option.none : Option Jvm.ClassFile.FieldType)) ∈ GW := mGW (tb6 (List.mem_of_getElem? (i := 177) rfl)) rfl
theorem tw_6_178 : (Cond.methodLink "TrenchboardLaw" 174 yX9_refuse) ∈ GW := mGW (tb6 (List.mem_of_getElem? (i := 178) rfl)) rfl
theorem tw_6_179 : (Cond.instanceMethod yX9_refuse) ∈ GW := mGW (tb6 (List.mem_of_getElem? (i := 179) rfl)) rfl
theorem tw_6_180 : (Cond.selects "TrenchboardModel" yX9_refuse yX9_refuse) ∈ GW := mGW (tb6 (List.mem_of_getElem? (i := 180) rfl)) rfl
theorem tw_6_181 : (Cond.code yX9_refuse prog_11_method_38_code 4 (Option.some Jvm.ClassFile.FieldType.int)) ∈ GW := mGW (tb6 (List.mem_of_getElem? (i := 181) rfl)) rfl
theorem tw_6_182 : (Cond.methodLink "TrenchboardLaw" 177 yX9_vary) ∈ GW := mGW (tb6 (List.mem_of_getElem? (i := 182) rfl)) rfl
theorem tw_6_183 : (Cond.instanceMethod yX9_vary) ∈ GW := mGW (tb6 (List.mem_of_getElem? (i := 183) rfl)) rfl
theorem tw_6_184 : (Cond.selects "TrenchboardModel" yX9_vary yX9_vary) ∈ GW := mGW (tb6 (List.mem_of_getElem? (i := 184) rfl)) rfl
theorem tw_6_185 : (Cond.code yX9_vary prog_11_method_39_code 4 (Option.some Jvm.ClassFile.FieldType.int)) ∈ GW := mGW (tb6 (List.mem_of_getElem? (i := 185) rfl)) rfl
theorem tw_6_186 : (Cond.methodLink "TrenchboardLaw" 180 yX9_exempt) ∈ GW := mGW (tb6 (List.mem_of_getElem? (i := 186) rfl)) rfl
theorem tw_6_187 : (Cond.instanceMethod yX9_exempt) ∈ GW := mGW (tb6 (List.mem_of_getElem? (i := 187) rfl)) rfl
theorem tw_6_188 : (Cond.selects "TrenchboardModel" yX9_exempt yX9_exempt) ∈ GW := mGW (tb6 (List.mem_of_getElem? (i := 188) rfl)) rfl
theorem tw_6_189 : (Cond.code yX9_exempt prog_11_method_40_code 2 (Option.some Jvm.ClassFile.FieldType.boolean)) ∈ GW := mGW (tb6 (List.mem_of_getElem? (i := 189) rfl)) rfl
theorem tw_6_190 : (Cond.methodLink "TrenchboardLaw" 183 yX9_agree) ∈ GW := mGW (tb6 (List.mem_of_getElem? (i := 190) rfl)) rfl
theorem tw_6_191 : (Cond.instanceMethod yX9_agree) ∈ GW := mGW (tb6 (List.mem_of_getElem? (i := 191) rfl)) rfl
theorem tw_6_192 : (Cond.selects "TrenchboardModel" yX9_agree yX9_agree) ∈ GW := mGW (tb6 (List.mem_of_getElem? (i := 192) rfl)) rfl
theorem tw_6_193 : (Cond.code yX9_agree prog_11_method_41_code 4 (Option.some Jvm.ClassFile.FieldType.boolean)) ∈ GW := mGW (tb6 (List.mem_of_getElem? (i := 193) rfl)) rfl
theorem tw_6_194 : (Cond.methodLink "TrenchboardLaw" 186 yX9_start) ∈ GW := mGW (tb6 (List.mem_of_getElem? (i := 194) rfl)) rfl
theorem tw_6_195 : (Cond.instanceMethod yX9_start) ∈ GW := mGW (tb6 (List.mem_of_getElem? (i := 195) rfl)) rfl
theorem tw_6_196 : (Cond.selects "TrenchboardModel" yX9_start yX9_start) ∈ GW := mGW (tb6 (List.mem_of_getElem? (i := 196) rfl)) rfl
theorem tw_6_197 : (Cond.code yX9_start prog_11_method_42_code 3 (Option.some Jvm.ClassFile.FieldType.int)) ∈ GW := mGW (tb6 (List.mem_of_getElem? (i := 197) rfl)) rfl
theorem tw_6_198 : (Cond.methodLink "TrenchboardLaw" 189 yX9_open) ∈ GW := mGW (tb6 (List.mem_of_getElem? (i := 198) rfl)) rfl
theorem tw_6_199 : (Cond.instanceMethod yX9_open) ∈ GW := mGW (tb6 (List.mem_of_getElem? (i := 199) rfl)) rfl
theorem tw_6_200 : (Cond.selects "TrenchboardModel" yX9_open yX9_open) ∈ GW := mGW (tb6 (List.mem_of_getElem? (i := 200) rfl)) rfl
theorem tw_6_201 : (Cond.code yX9_open prog_11_method_46_code 7 (Option.some Jvm.ClassFile.FieldType.int)) ∈ GW := mGW (tb6 (List.mem_of_getElem? (i := 201) rfl)) rfl
theorem tw_6_202 : (Cond.methodLink "TrenchboardModel" 250 yX9_isOf) ∈ GW := mGW (tb6 (List.mem_of_getElem? (i := 202) rfl)) rfl
theorem tw_6_204 : (Cond.instanceMethod yX9_isOf) ∈ GW := mGW (tb6 (List.mem_of_getElem? (i := 204) rfl)) rfl
theorem tw_6_205 : (Cond.code yX9_isOf prog_11_method_45_code 3 (Option.some Jvm.ClassFile.FieldType.boolean)) ∈ GW := mGW (tb6 (List.mem_of_getElem? (i := 205) rfl)) rfl
theorem tw_6_206 : (Cond.methodLink "TrenchboardModel" 253 yX9_isOff) ∈ GW := mGW (tb6 (List.mem_of_getElem? (i := 206) rfl)) rfl
theorem tw_6_208 : (Cond.instanceMethod yX9_isOff) ∈ GW := mGW (tb6 (List.mem_of_getElem? (i := 208) rfl)) rfl
theorem tw_6_209 : (Cond.code yX9_isOff prog_11_method_44_code 5 (Option.some Jvm.ClassFile.FieldType.boolean)) ∈ GW := mGW (tb6 (List.mem_of_getElem? (i := 209) rfl)) rfl
theorem tw_6_210 : (Cond.methodLink "TrenchboardModel" 243 yX9_isBusy) ∈ GW := mGW (tb6 (List.mem_of_getElem? (i := 210) rfl)) rfl
theorem tw_6_212 : (Cond.instanceMethod yX9_isBusy) ∈ GW := mGW (tb6 (List.mem_of_getElem? (i := 212) rfl)) rfl
theorem tw_6_213 : (Cond.code yX9_isBusy prog_11_method_11_code 1 (Option.some Jvm.ClassFile.FieldType.boolean)) ∈ GW := mGW (tb6 (List.mem_of_getElem? (i := 213) rfl)) rfl
theorem tw_6_214 : (Cond.methodLink "TrenchboardModel" 247 yX9_isSuspect) ∈ GW := mGW (tb6 (List.mem_of_getElem? (i := 214) rfl)) rfl
theorem tw_6_216 : (Cond.instanceMethod yX9_isSuspect) ∈ GW := mGW (tb6 (List.mem_of_getElem? (i := 216) rfl)) rfl
theorem tw_6_217 : (Cond.code yX9_isSuspect prog_11_method_43_code 5 (Option.some Jvm.ClassFile.FieldType.boolean)) ∈ GW := mGW (tb6 (List.mem_of_getElem? (i := 217) rfl)) rfl
theorem tw_6_218 : (Cond.methodLink "TrenchboardLaw" 192 yX9_fill) ∈ GW := mGW (tb6 (List.mem_of_getElem? (i := 218) rfl)) rfl
theorem tw_6_219 : (Cond.instanceMethod yX9_fill) ∈ GW := mGW (tb6 (List.mem_of_getElem? (i := 219) rfl)) rfl
theorem tw_6_220 : (Cond.selects "TrenchboardModel" yX9_fill yX9_fill) ∈ GW := mGW (tb6 (List.mem_of_getElem? (i := 220) rfl)) rfl
theorem tw_6_221 : (Cond.code yX9_fill prog_11_method_48_code 6 (Option.some Jvm.ClassFile.FieldType.int)) ∈ GW := mGW (tb6 (List.mem_of_getElem? (i := 221) rfl)) rfl
theorem tw_6_222 : (Cond.methodLink "TrenchboardModel" 256 yX9_fillsOf) ∈ GW := mGW (tb6 (List.mem_of_getElem? (i := 222) rfl)) rfl
theorem tw_6_224 : (Cond.instanceMethod yX9_fillsOf) ∈ GW := mGW (tb6 (List.mem_of_getElem? (i := 224) rfl)) rfl
theorem tw_6_225 : (Cond.code yX9_fillsOf prog_11_method_47_code 4 (Option.some Jvm.ClassFile.FieldType.int)) ∈ GW := mGW (tb6 (List.mem_of_getElem? (i := 225) rfl)) rfl
theorem tw_6_226 : (Cond.methodLink "TrenchboardLaw" 195 yX9_plate) ∈ GW := mGW (tb6 (List.mem_of_getElem? (i := 226) rfl)) rfl
theorem tw_6_227 : (Cond.instanceMethod yX9_plate) ∈ GW := mGW (tb6 (List.mem_of_getElem? (i := 227) rfl)) rfl
theorem tw_6_228 : (Cond.selects "TrenchboardModel" yX9_plate yX9_plate) ∈ GW := mGW (tb6 (List.mem_of_getElem? (i := 228) rfl)) rfl
theorem tw_6_229 : (Cond.code yX9_plate prog_11_method_49_code 3 (Option.some Jvm.ClassFile.FieldType.boolean)) ∈ GW := mGW (tb6 (List.mem_of_getElem? (i := 229) rfl)) rfl
theorem tw_6_230 : (Cond.methodLink "TrenchboardLaw" 198 yX9_extend) ∈ GW := mGW (tb6 (List.mem_of_getElem? (i := 230) rfl)) rfl
theorem tw_6_231 : (Cond.instanceMethod yX9_extend) ∈ GW := mGW (tb6 (List.mem_of_getElem? (i := 231) rfl)) rfl
theorem tw_6_232 : (Cond.selects "TrenchboardModel" yX9_extend yX9_extend) ∈ GW := mGW (tb6 (List.mem_of_getElem? (i := 232) rfl)) rfl
theorem tw_6_233 : (Cond.code yX9_extend prog_11_method_50_code 5 (Option.some Jvm.ClassFile.FieldType.int)) ∈ GW := mGW (tb6 (List.mem_of_getElem? (i := 233) rfl)) rfl
theorem tw_6_234 : (Cond.methodLink "TrenchboardLaw" 201 yX9_stop) ∈ GW := mGW (tb6 (List.mem_of_getElem? (i := 234) rfl)) rfl
theorem tw_6_235 : (Cond.instanceMethod yX9_stop) ∈ GW := mGW (tb6 (List.mem_of_getElem? (i := 235) rfl)) rfl
theorem tw_6_236 : (Cond.selects "TrenchboardModel" yX9_stop yX9_stop) ∈ GW := mGW (tb6 (List.mem_of_getElem? (i := 236) rfl)) rfl
theorem tw_6_237 : (Cond.code yX9_stop prog_11_method_52_code 4 (Option.some Jvm.ClassFile.FieldType.int)) ∈ GW := mGW (tb6 (List.mem_of_getElem? (i := 237) rfl)) rfl
theorem tw_6_238 : (Cond.methodLink "TrenchboardModel" 259 yX9_openOf) ∈ GW := mGW (tb6 (List.mem_of_getElem? (i := 238) rfl)) rfl
theorem tw_7_0 : (Cond.instanceMethod yX9_openOf) ∈ GW := mGW (tb7 (List.mem_of_getElem? (i := 0) rfl)) rfl
theorem tw_7_1 : (Cond.code yX9_openOf prog_11_method_51_code 4 (Option.some Jvm.ClassFile.FieldType.int)) ∈ GW := mGW (tb7 (List.mem_of_getElem? (i := 1) rfl)) rfl
theorem tw_7_2 : (Cond.methodLink "TrenchboardLaw" 204 yX9_pass) ∈ GW := mGW (tb7 (List.mem_of_getElem? (i := 2) rfl)) rfl
theorem tw_7_3 : (Cond.instanceMethod yX9_pass) ∈ GW := mGW (tb7 (List.mem_of_getElem? (i := 3) rfl)) rfl
theorem tw_7_4 : (Cond.selects "TrenchboardModel" yX9_pass yX9_pass) ∈ GW := mGW (tb7 (List.mem_of_getElem? (i := 4) rfl)) rfl
theorem tw_7_5 : (Cond.code yX9_pass prog_11_method_61_code 4 (Option.some Jvm.ClassFile.FieldType.int)) ∈ GW := mGW (tb7 (List.mem_of_getElem? (i := 5) rfl)) rfl
theorem tw_7_6 : (Cond.methodLink "TrenchboardModel" 283 yX9_goesBy) ∈ GW := mGW (tb7 (List.mem_of_getElem? (i := 6) rfl)) rfl
theorem tw_7_8 : (Cond.instanceMethod yX9_goesBy) ∈ GW := mGW (tb7 (List.mem_of_getElem? (i := 8) rfl)) rfl
theorem tw_7_9 : (Cond.code yX9_goesBy prog_11_method_60_code 2 (Option.none : Option Jvm.ClassFile.FieldType)) ∈ GW := mGW (tb7 (List.mem_of_getElem? (i := 9) rfl)) rfl
theorem tw_7_10 : (Cond.methodLink "TrenchboardModel" 274 yX9_settles) ∈ GW := mGW (tb7 (List.mem_of_getElem? (i := 10) rfl)) rfl
theorem tw_7_12 : (Cond.instanceMethod yX9_settles) ∈ GW := mGW (tb7 (List.mem_of_getElem? (i := 12) rfl)) rfl
theorem tw_7_13 : (Cond.code yX9_settles prog_11_method_53_code 3 (Option.none : Option Jvm.ClassFile.FieldType)) ∈ GW := mGW (tb7 (List.mem_of_getElem? (i := 13) rfl)) rfl
theorem tw_7_14 : (Cond.methodLink "TrenchboardModel" 265 yX9_grade) ∈ GW := mGW (tb7 (List.mem_of_getElem? (i := 14) rfl)) rfl
theorem tw_7_16 : (Cond.instanceMethod yX9_grade) ∈ GW := mGW (tb7 (List.mem_of_getElem? (i := 16) rfl)) rfl
theorem tw_7_17 : (Cond.code yX9_grade prog_11_method_54_code 2 (Option.some Jvm.ClassFile.FieldType.int)) ∈ GW := mGW (tb7 (List.mem_of_getElem? (i := 17) rfl)) rfl
theorem tw_7_18 : (Cond.methodLink "TrenchboardModel" 277 yX9_rents) ∈ GW := mGW (tb7 (List.mem_of_getElem? (i := 18) rfl)) rfl
theorem tw_7_20 : (Cond.instanceMethod yX9_rents) ∈ GW := mGW (tb7 (List.mem_of_getElem? (i := 20) rfl)) rfl
theorem tw_7_21 : (Cond.code yX9_rents prog_11_method_58_code 3 (Option.none : Option Jvm.ClassFile.FieldType)) ∈ GW := mGW (tb7 (List.mem_of_getElem? (i := 21) rfl)) rfl
theorem tw_7_22 : (Cond.methodLink "TrenchboardModel" 262 yX9_takes) ∈ GW := mGW (tb7 (List.mem_of_getElem? (i := 22) rfl)) rfl
theorem tw_7_24 : (Cond.instanceMethod yX9_takes) ∈ GW := mGW (tb7 (List.mem_of_getElem? (i := 24) rfl)) rfl
theorem tw_7_25 : (Cond.code yX9_takes prog_11_method_55_code 2 (Option.some Jvm.ClassFile.FieldType.boolean)) ∈ GW := mGW (tb7 (List.mem_of_getElem? (i := 25) rfl)) rfl
theorem tw_7_26 : (Cond.methodLink "TrenchboardModel" 268 yX9_shares) ∈ GW := mGW (tb7 (List.mem_of_getElem? (i := 26) rfl)) rfl
theorem tw_7_28 : (Cond.instanceMethod yX9_shares) ∈ GW := mGW (tb7 (List.mem_of_getElem? (i := 28) rfl)) rfl
theorem tw_7_29 : (Cond.code yX9_shares prog_11_method_57_code 4 (Option.some Jvm.ClassFile.FieldType.boolean)) ∈ GW := mGW (tb7 (List.mem_of_getElem? (i := 29) rfl)) rfl
theorem tw_7_30 : (Cond.methodLink "TrenchboardModel" 280 yX9_waits) ∈ GW := mGW (tb7 (List.mem_of_getElem? (i := 30) rfl)) rfl
theorem tw_7_32 : (Cond.instanceMethod yX9_waits) ∈ GW := mGW (tb7 (List.mem_of_getElem? (i := 32) rfl)) rfl
theorem tw_7_33 : (Cond.code yX9_waits prog_11_method_59_code 4 (Option.none : Option Jvm.ClassFile.FieldType)) ∈ GW := mGW (tb7 (List.mem_of_getElem? (i := 33) rfl)) rfl
theorem tw_7_34 : (Cond.methodLink "TrenchboardModel" 271 yX9_isTaken) ∈ GW := mGW (tb7 (List.mem_of_getElem? (i := 34) rfl)) rfl
theorem tw_7_36 : (Cond.instanceMethod yX9_isTaken) ∈ GW := mGW (tb7 (List.mem_of_getElem? (i := 36) rfl)) rfl
theorem tw_7_37 : (Cond.code yX9_isTaken prog_11_method_56_code 4 (Option.some Jvm.ClassFile.FieldType.boolean)) ∈ GW := mGW (tb7 (List.mem_of_getElem? (i := 37) rfl)) rfl
theorem tw_7_38 : (Cond.methodLink "TrenchboardLaw" 207 yX9_defect) ∈ GW := mGW (tb7 (List.mem_of_getElem? (i := 38) rfl)) rfl
theorem tw_7_39 : (Cond.instanceMethod yX9_defect) ∈ GW := mGW (tb7 (List.mem_of_getElem? (i := 39) rfl)) rfl
theorem tw_7_40 : (Cond.selects "TrenchboardModel" yX9_defect yX9_defect) ∈ GW := mGW (tb7 (List.mem_of_getElem? (i := 40) rfl)) rfl
theorem tw_7_41 : (Cond.code yX9_defect prog_11_method_64_code 5 (Option.some Jvm.ClassFile.FieldType.int)) ∈ GW := mGW (tb7 (List.mem_of_getElem? (i := 41) rfl)) rfl
theorem tw_7_42 : (Cond.methodLink "TrenchboardModel" 286 yX9_asksMetre) ∈ GW := mGW (tb7 (List.mem_of_getElem? (i := 42) rfl)) rfl
theorem tw_7_44 : (Cond.instanceMethod yX9_asksMetre) ∈ GW := mGW (tb7 (List.mem_of_getElem? (i := 44) rfl)) rfl
theorem tw_7_45 : (Cond.code yX9_asksMetre prog_11_method_63_code 4 (Option.some Jvm.ClassFile.FieldType.boolean)) ∈ GW := mGW (tb7 (List.mem_of_getElem? (i := 45) rfl)) rfl
theorem tw_7_46 : (Cond.methodLink "TrenchboardModel" 289 yX9_liableFor) ∈ GW := mGW (tb7 (List.mem_of_getElem? (i := 46) rfl)) rfl
theorem tw_7_48 : (Cond.instanceMethod yX9_liableFor) ∈ GW := mGW (tb7 (List.mem_of_getElem? (i := 48) rfl)) rfl
theorem tw_7_49 : (Cond.code yX9_liableFor prog_11_method_62_code 8 (Option.some Jvm.ClassFile.FieldType.int)) ∈ GW := mGW (tb7 (List.mem_of_getElem? (i := 49) rfl)) rfl
theorem tw_7_50 : (Cond.methodLink "TrenchboardLaw" 210 yX9_core) ∈ GW := mGW (tb7 (List.mem_of_getElem? (i := 50) rfl)) rfl
theorem tw_7_51 : (Cond.instanceMethod yX9_core) ∈ GW := mGW (tb7 (List.mem_of_getElem? (i := 51) rfl)) rfl
theorem tw_7_52 : (Cond.selects "TrenchboardModel" yX9_core yX9_core) ∈ GW := mGW (tb7 (List.mem_of_getElem? (i := 52) rfl)) rfl
theorem tw_7_53 : (Cond.code yX9_core prog_11_method_66_code 6 (Option.some Jvm.ClassFile.FieldType.int)) ∈ GW := mGW (tb7 (List.mem_of_getElem? (i := 53) rfl)) rfl
theorem tw_7_54 : (Cond.methodLink "TrenchboardModel" 293 yX9_latest) ∈ GW := mGW (tb7 (List.mem_of_getElem? (i := 54) rfl)) rfl
theorem tw_7_56 : (Cond.instanceMethod yX9_latest) ∈ GW := mGW (tb7 (List.mem_of_getElem? (i := 56) rfl)) rfl
theorem tw_7_57 : (Cond.code yX9_latest prog_11_method_65_code 4 (Option.some Jvm.ClassFile.FieldType.int)) ∈ GW := mGW (tb7 (List.mem_of_getElem? (i := 57) rfl)) rfl
theorem tw_7_58 : (Cond.methodLink "TrenchboardLaw" 213 yX9_liable) ∈ GW := mGW (tb7 (List.mem_of_getElem? (i := 58) rfl)) rfl
theorem tw_7_59 : (Cond.instanceMethod yX9_liable) ∈ GW := mGW (tb7 (List.mem_of_getElem? (i := 59) rfl)) rfl
theorem tw_7_60 : (Cond.selects "TrenchboardModel" yX9_liable yX9_liable) ∈ GW := mGW (tb7 (List.mem_of_getElem? (i := 60) rfl)) rfl
theorem tw_7_61 : (Cond.code yX9_liable prog_11_method_67_code 4 (Option.some Jvm.ClassFile.FieldType.int)) ∈ GW := mGW (tb7 (List.mem_of_getElem? (i := 61) rfl)) rfl
theorem tw_7_62 : (Cond.methodLink "TrenchboardLaw" 216 yX9_liableAnew) ∈ GW := mGW (tb7 (List.mem_of_getElem? (i := 62) rfl)) rfl
theorem tw_7_63 : (Cond.instanceMethod yX9_liableAnew) ∈ GW := mGW (tb7 (List.mem_of_getElem? (i := 63) rfl)) rfl
theorem tw_7_64 : (Cond.selects "TrenchboardModel" yX9_liableAnew yX9_liableAnew) ∈ GW := mGW (tb7 (List.mem_of_getElem? (i := 64) rfl)) rfl
theorem tw_7_65 : (Cond.code yX9_liableAnew prog_11_method_68_code 4 (Option.some Jvm.ClassFile.FieldType.int)) ∈ GW := mGW (tb7 (List.mem_of_getElem? (i := 65) rfl)) rfl
theorem tw_7_66 : (Cond.methodLink "TrenchboardLaw" 219 yX9_bars) ∈ GW := mGW (tb7 (List.mem_of_getElem? (i := 66) rfl)) rfl
theorem tw_7_67 : (Cond.instanceMethod yX9_bars) ∈ GW := mGW (tb7 (List.mem_of_getElem? (i := 67) rfl)) rfl
theorem tw_7_68 : (Cond.selects "TrenchboardModel" yX9_bars yX9_bars) ∈ GW := mGW (tb7 (List.mem_of_getElem? (i := 68) rfl)) rfl
theorem tw_7_69 : (Cond.code yX9_bars prog_11_method_69_code 2 (Option.some Jvm.ClassFile.FieldType.int)) ∈ GW := mGW (tb7 (List.mem_of_getElem? (i := 69) rfl)) rfl
theorem tw_7_70 : (Cond.methodLink "TrenchboardLaw" 222 yX9_meets) ∈ GW := mGW (tb7 (List.mem_of_getElem? (i := 70) rfl)) rfl
theorem tw_7_71 : (Cond.instanceMethod yX9_meets) ∈ GW := mGW (tb7 (List.mem_of_getElem? (i := 71) rfl)) rfl
theorem tw_7_72 : (Cond.selects "TrenchboardModel" yX9_meets yX9_meets) ∈ GW := mGW (tb7 (List.mem_of_getElem? (i := 72) rfl)) rfl
theorem tw_7_73 : (Cond.code yX9_meets prog_11_method_70_code 4 (Option.some Jvm.ClassFile.FieldType.int)) ∈ GW := mGW (tb7 (List.mem_of_getElem? (i := 73) rfl)) rfl
theorem tw_7_74 : (Cond.methodLink "TrenchboardLaw" 225 yX9_of) ∈ GW := mGW (tb7 (List.mem_of_getElem? (i := 74) rfl)) rfl
theorem tw_7_75 : (Cond.instanceMethod yX9_of) ∈ GW := mGW (tb7 (List.mem_of_getElem? (i := 75) rfl)) rfl
theorem tw_7_76 : (Cond.selects "TrenchboardModel" yX9_of yX9_of) ∈ GW := mGW (tb7 (List.mem_of_getElem? (i := 76) rfl)) rfl
theorem tw_7_77 : (Cond.code yX9_of prog_11_method_71_code 3 (Option.some Jvm.ClassFile.FieldType.int)) ∈ GW := mGW (tb7 (List.mem_of_getElem? (i := 77) rfl)) rfl
theorem tw_7_78 : (Cond.methodLink "TrenchboardLaw" 228 yX9_metre) ∈ GW := mGW (tb7 (List.mem_of_getElem? (i := 78) rfl)) rfl
theorem tw_7_79 : (Cond.instanceMethod yX9_metre) ∈ GW := mGW (tb7 (List.mem_of_getElem? (i := 79) rfl)) rfl
theorem tw_7_80 : (Cond.selects "TrenchboardModel" yX9_metre yX9_metre) ∈ GW := mGW (tb7 (List.mem_of_getElem? (i := 80) rfl)) rfl
theorem tw_7_81 : (Cond.code yX9_metre prog_11_method_72_code 5 (Option.some Jvm.ClassFile.FieldType.int)) ∈ GW := mGW (tb7 (List.mem_of_getElem? (i := 81) rfl)) rfl
theorem tw_7_82 : (Cond.methodLink "TrenchboardLaw" 231 yX9_search) ∈ GW := mGW (tb7 (List.mem_of_getElem? (i := 82) rfl)) rfl
theorem tw_7_83 : (Cond.instanceMethod yX9_search) ∈ GW := mGW (tb7 (List.mem_of_getElem? (i := 83) rfl)) rfl
theorem tw_7_84 : (Cond.selects "TrenchboardModel" yX9_search yX9_search) ∈ GW := mGW (tb7 (List.mem_of_getElem? (i := 84) rfl)) rfl
theorem tw_7_85 : (Cond.code yX9_search prog_11_method_73_code 8 (Option.some Jvm.ClassFile.FieldType.int)) ∈ GW := mGW (tb7 (List.mem_of_getElem? (i := 85) rfl)) rfl
theorem tw_7_86 : (Cond.methodLink "TrenchboardLaw" 234 yX9_queue) ∈ GW := mGW (tb7 (List.mem_of_getElem? (i := 86) rfl)) rfl
theorem tw_7_87 : (Cond.instanceMethod yX9_queue) ∈ GW := mGW (tb7 (List.mem_of_getElem? (i := 87) rfl)) rfl
theorem tw_7_88 : (Cond.selects "TrenchboardModel" yX9_queue yX9_queue) ∈ GW := mGW (tb7 (List.mem_of_getElem? (i := 88) rfl)) rfl
theorem tw_7_89 : (Cond.code yX9_queue prog_11_method_74_code 2 (Option.some Jvm.ClassFile.FieldType.int)) ∈ GW := mGW (tb7 (List.mem_of_getElem? (i := 89) rfl)) rfl
theorem tw_7_90 : (Cond.methodLink "TrenchboardLaw" 237 yX9_due) ∈ GW := mGW (tb7 (List.mem_of_getElem? (i := 90) rfl)) rfl
theorem tw_7_91 : (Cond.instanceMethod yX9_due) ∈ GW := mGW (tb7 (List.mem_of_getElem? (i := 91) rfl)) rfl
theorem tw_7_92 : (Cond.selects "TrenchboardModel" yX9_due yX9_due) ∈ GW := mGW (tb7 (List.mem_of_getElem? (i := 92) rfl)) rfl
theorem tw_7_93 : (Cond.code yX9_due prog_11_method_75_code 5 (Option.some Jvm.ClassFile.FieldType.int)) ∈ GW := mGW (tb7 (List.mem_of_getElem? (i := 93) rfl)) rfl
theorem tw_7_94 : (Cond.methodLink "TrenchboardLaw" 240 yX9_money) ∈ GW := mGW (tb7 (List.mem_of_getElem? (i := 94) rfl)) rfl
theorem tw_7_95 : (Cond.instanceMethod yX9_money) ∈ GW := mGW (tb7 (List.mem_of_getElem? (i := 95) rfl)) rfl
theorem tw_7_96 : (Cond.selects "TrenchboardModel" yX9_money yX9_money) ∈ GW := mGW (tb7 (List.mem_of_getElem? (i := 96) rfl)) rfl
theorem tw_7_97 : (Cond.code yX9_money prog_11_method_76_code 2 (Option.some Jvm.ClassFile.FieldType.long)) ∈ GW := mGW (tb7 (List.mem_of_getElem? (i := 97) rfl)) rfl
theorem tw_7_98 : (Cond.methodLink "TrenchboardLaw" 243 yX9_moneyAnew) ∈ GW := mGW (tb7 (List.mem_of_getElem? (i := 98) rfl)) rfl
theorem tw_7_99 : (Cond.instanceMethod yX9_moneyAnew) ∈ GW := mGW (tb7 (List.mem_of_getElem? (i := 99) rfl)) rfl
theorem tw_7_100 : (Cond.selects "TrenchboardModel" yX9_moneyAnew yX9_moneyAnew) ∈ GW := mGW (tb7 (List.mem_of_getElem? (i := 100) rfl)) rfl
theorem tw_7_101 : (Cond.code yX9_moneyAnew prog_11_method_77_code 2 (Option.some Jvm.ClassFile.FieldType.long)) ∈ GW := mGW (tb7 (List.mem_of_getElem? (i := 101) rfl)) rfl
theorem tw_7_102 : (Cond.sameMethod "java/lang/Throwable" "java/lang/Throwable" "fillInStackTrace" "(I)Ljava/lang/Throwable;") ∈ lw_tbl := tb7 (List.mem_of_getElem? (i := 102) rfl)
theorem tw_7_103 : (Cond.castable "Trenchboard$Street" "java/lang/Object") ∈ lw_tbl := tb7 (List.mem_of_getElem? (i := 103) rfl)
theorem tw_7_104 : (Cond.castable "Trenchboard$Thing" "java/lang/Object") ∈ lw_tbl := tb7 (List.mem_of_getElem? (i := 104) rfl)
theorem tw_7_105 : (Cond.castable "Trenchboard$Works" "java/lang/Object") ∈ lw_tbl := tb7 (List.mem_of_getElem? (i := 105) rfl)
theorem tw_7_106 : (Cond.castable "Trenchboard$Party" "java/lang/Object") ∈ lw_tbl := tb7 (List.mem_of_getElem? (i := 106) rfl)
theorem tw_7_107 : (Cond.castable "Trenchboard$Metre" "java/lang/Object") ∈ lw_tbl := tb7 (List.mem_of_getElem? (i := 107) rfl)
theorem tw_7_108 : (Cond.castable "Trenchboard" "java/lang/Object") ∈ lw_tbl := tb7 (List.mem_of_getElem? (i := 108) rfl)
theorem tw_7_109 : (Cond.castable "Trenchboard$Ledger" "java/lang/Object") ∈ lw_tbl := tb7 (List.mem_of_getElem? (i := 109) rfl)
theorem tw_7_110 : (Cond.castable "java/util/ArrayList" "java/lang/Object") ∈ lw_tbl := tb7 (List.mem_of_getElem? (i := 110) rfl)
theorem tw_7_111 : (Cond.castable "TrenchboardModel" "java/lang/Object") ∈ lw_tbl := tb7 (List.mem_of_getElem? (i := 111) rfl)
theorem tw_7_112 : (Cond.castable "java/lang/IndexOutOfBoundsException" "java/lang/Object") ∈ lw_tbl := tb7 (List.mem_of_getElem? (i := 112) rfl)
theorem tw_7_113 : (Cond.castable "java/lang/IllegalArgumentException" "java/lang/Object") ∈ lw_tbl := tb7 (List.mem_of_getElem? (i := 113) rfl)
theorem tw_7_114 : (Cond.castable "java/lang/IllegalStateException" "java/lang/Object") ∈ lw_tbl := tb7 (List.mem_of_getElem? (i := 114) rfl)
theorem tw_7_115 : (Cond.castable "Trenchboard$Telling" "java/lang/Object") ∈ lw_tbl := tb7 (List.mem_of_getElem? (i := 115) rfl)
theorem tw_7_116 : (Cond.castable "Trenchboard$Fill" "java/lang/Object") ∈ lw_tbl := tb7 (List.mem_of_getElem? (i := 116) rfl)
theorem tw_7_117 : (Cond.castable "java/lang/Throwable" "java/lang/Object") ∈ lw_tbl := tb7 (List.mem_of_getElem? (i := 117) rfl)
theorem tw_7_118 : (Cond.castable "java/lang/String" "java/lang/Object") ∈ lw_tbl := tb7 (List.mem_of_getElem? (i := 118) rfl)
theorem tw_7_119 : (Cond.sameMethod "[Ljava/lang/Object;" "java/lang/Object" "getClass" "()Ljava/lang/Class;") ∈ lw_tbl := tb7 (List.mem_of_getElem? (i := 119) rfl)
theorem tw_7_120 : (Cond.selects "[Ljava/lang/Object;" ⟨"java/lang/Object", "getClass", "()Ljava/lang/Class;"⟩ ⟨"java/lang/Object", "getClass", "()Ljava/lang/Class;"⟩) ∈ GW := mGW (tb7 (List.mem_of_getElem? (i := 120) rfl)) rfl
theorem tw_7_121 : (Cond.declares ⟨"java/lang/Object", "getClass", "()Ljava/lang/Class;"⟩) ∈ lw_tbl := tb7 (List.mem_of_getElem? (i := 121) rfl)
theorem tw_7_122 : (Cond.castable "[LTrenchboard$Street;" "java/lang/Object") ∈ lw_tbl := tb7 (List.mem_of_getElem? (i := 122) rfl)
theorem tw_7_123 : (Cond.castable "[LTrenchboard$Thing;" "java/lang/Object") ∈ lw_tbl := tb7 (List.mem_of_getElem? (i := 123) rfl)
theorem tw_7_124 : (Cond.castable "[LTrenchboard$Works;" "java/lang/Object") ∈ lw_tbl := tb7 (List.mem_of_getElem? (i := 124) rfl)
theorem tw_7_125 : (Cond.castable "[LTrenchboard$Party;" "java/lang/Object") ∈ lw_tbl := tb7 (List.mem_of_getElem? (i := 125) rfl)
theorem tw_7_126 : (Cond.castable "[I" "java/lang/Object") ∈ lw_tbl := tb7 (List.mem_of_getElem? (i := 126) rfl)
theorem tw_7_127 : (Cond.castable "[B" "java/lang/Object") ∈ lw_tbl := tb7 (List.mem_of_getElem? (i := 127) rfl)
theorem tw_7_128 : (Cond.castable "[LTrenchboard$Metre;" "java/lang/Object") ∈ lw_tbl := tb7 (List.mem_of_getElem? (i := 128) rfl)
theorem tw_7_129 : (Cond.castable "[Ljava/lang/Object;" "java/lang/Object") ∈ lw_tbl := tb7 (List.mem_of_getElem? (i := 129) rfl)
theorem tw_7_130 : (Cond.castable "[Z" "java/lang/Object") ∈ lw_tbl := tb7 (List.mem_of_getElem? (i := 130) rfl)
theorem tw_7_131 : (Cond.castable "[J" "java/lang/Object") ∈ lw_tbl := tb7 (List.mem_of_getElem? (i := 131) rfl)
theorem tw_1_33 : Cond.code Lib.objectInit ⟨#[0xb1]⟩ 1 none ∈ GW := mGW (tb1 (List.mem_of_getElem? (i := 33) rfl)) rfl
theorem tw_0_0 : Cond.selects "Trenchboard" yX8_streetAt yX8_streetAt ∈ GW := mGW (tb0 (List.mem_of_getElem? (i := 0) rfl)) rfl
theorem tw_0_2 : Cond.selects "Trenchboard" yX8_today yX8_today ∈ GW := mGW (tb0 (List.mem_of_getElem? (i := 2) rfl)) rfl
theorem tw_0_3 : Cond.selects "Trenchboard" yX8_tell yX8_tell ∈ GW := mGW (tb0 (List.mem_of_getElem? (i := 3) rfl)) rfl
theorem tw_0_4 : Cond.selects "java/util/ArrayList" yJx4a65c_add_72be8 yJx4a65c_add_72be8 ∈ GW := mGW (tb0 (List.mem_of_getElem? (i := 4) rfl)) rfl
theorem tw_0_5 : Cond.selects "java/util/ArrayList" yJx4a65c_grow_d5877 yJx4a65c_grow_d5877 ∈ GW := mGW (tb0 (List.mem_of_getElem? (i := 5) rfl)) rfl
theorem tw_0_6 : Cond.selects "java/util/ArrayList" yJx4a65c_grow_92f84 yJx4a65c_grow_92f84 ∈ GW := mGW (tb0 (List.mem_of_getElem? (i := 6) rfl)) rfl
theorem tw_0_7 : Cond.selects "Trenchboard" yX8_thingAt yX8_thingAt ∈ GW := mGW (tb0 (List.mem_of_getElem? (i := 7) rfl)) rfl
theorem tw_0_8 : Cond.selects "Trenchboard" yX8_worksAt yX8_worksAt ∈ GW := mGW (tb0 (List.mem_of_getElem? (i := 8) rfl)) rfl
theorem tw_0_9 : Cond.selects "Trenchboard" yX8_whatBars yX8_whatBars ∈ GW := mGW (tb0 (List.mem_of_getElem? (i := 9) rfl)) rfl
theorem tw_0_10 : Cond.selects "Trenchboard" yX8_firstMet yX8_firstMet ∈ GW := mGW (tb0 (List.mem_of_getElem? (i := 10) rfl)) rfl
theorem tw_0_11 : Cond.selects "Trenchboard" yX8_permit yX8_permit ∈ GW := mGW (tb0 (List.mem_of_getElem? (i := 11) rfl)) rfl
theorem tw_0_12 : Cond.selects "Trenchboard" yX8_pay yX8_pay ∈ GW := mGW (tb0 (List.mem_of_getElem? (i := 12) rfl)) rfl
theorem tw_0_13 : Cond.selects "Trenchboard" yX8_partyAt yX8_partyAt ∈ GW := mGW (tb0 (List.mem_of_getElem? (i := 13) rfl)) rfl
theorem tw_0_14 : Cond.selects "Trenchboard" yX8_isBusy yX8_isBusy ∈ GW := mGW (tb0 (List.mem_of_getElem? (i := 14) rfl)) rfl
theorem tw_0_15 : Cond.selects "Trenchboard" yX8_isSuspect yX8_isSuspect ∈ GW := mGW (tb0 (List.mem_of_getElem? (i := 15) rfl)) rfl
theorem tw_0_16 : Cond.selects "Trenchboard" yX8_suspects yX8_suspects ∈ GW := mGW (tb0 (List.mem_of_getElem? (i := 16) rfl)) rfl
theorem tw_0_17 : Cond.selects "Trenchboard" yX8_strikeThings yX8_strikeThings ∈ GW := mGW (tb0 (List.mem_of_getElem? (i := 17) rfl)) rfl
theorem tw_0_18 : Cond.selects "Trenchboard" yX8_countFill yX8_countFill ∈ GW := mGW (tb0 (List.mem_of_getElem? (i := 18) rfl)) rfl
theorem tw_0_19 : Cond.selects "Trenchboard" yX8_goOneHour yX8_goOneHour ∈ GW := mGW (tb0 (List.mem_of_getElem? (i := 19) rfl)) rfl
theorem tw_0_20 : Cond.selects "Trenchboard" yX8_settleAsked yX8_settleAsked ∈ GW := mGW (tb0 (List.mem_of_getElem? (i := 20) rfl)) rfl
theorem tw_0_21 : Cond.selects "Trenchboard" yX8_fineLate yX8_fineLate ∈ GW := mGW (tb0 (List.mem_of_getElem? (i := 21) rfl)) rfl
theorem tw_0_22 : Cond.selects "Trenchboard" yX8_takeStreets yX8_takeStreets ∈ GW := mGW (tb0 (List.mem_of_getElem? (i := 22) rfl)) rfl
theorem tw_0_23 : Cond.selects "Trenchboard" yX8_chargeTakers yX8_chargeTakers ∈ GW := mGW (tb0 (List.mem_of_getElem? (i := 23) rfl)) rfl
theorem tw_0_24 : Cond.selects "Trenchboard" yX8_moveQueues yX8_moveQueues ∈ GW := mGW (tb0 (List.mem_of_getElem? (i := 24) rfl)) rfl
theorem tw_0_25 : Cond.selects "Trenchboard" yX8_whoIsLiable yX8_whoIsLiable ∈ GW := mGW (tb0 (List.mem_of_getElem? (i := 25) rfl)) rfl
theorem tw_0_26 : Cond.selects "Trenchboard" yX8_countFault yX8_countFault ∈ GW := mGW (tb0 (List.mem_of_getElem? (i := 26) rfl)) rfl
theorem tw_0_27 : Cond.selects "Trenchboard" yX8_countCore yX8_countCore ∈ GW := mGW (tb0 (List.mem_of_getElem? (i := 27) rfl)) rfl
theorem tw_0_28 : Cond.selects "TrenchboardModel" yX9_isStreet yX9_isStreet ∈ GW := mGW (tb0 (List.mem_of_getElem? (i := 28) rfl)) rfl
theorem tw_0_29 : Cond.selects "TrenchboardModel" yX9_goes yX9_goes ∈ GW := mGW (tb0 (List.mem_of_getElem? (i := 29) rfl)) rfl
theorem tw_0_30 : Cond.selects "TrenchboardModel" yX9_openIn yX9_openIn ∈ GW := mGW (tb0 (List.mem_of_getElem? (i := 30) rfl)) rfl
theorem tw_0_31 : Cond.selects "TrenchboardModel" yX9_today yX9_today ∈ GW := mGW (tb0 (List.mem_of_getElem? (i := 31) rfl)) rfl
theorem tw_0_32 : Cond.selects "TrenchboardModel" yX9_hasDay yX9_hasDay ∈ GW := mGW (tb0 (List.mem_of_getElem? (i := 32) rfl)) rfl
theorem tw_0_33 : Cond.selects "TrenchboardModel" yX9_lastOf yX9_lastOf ∈ GW := mGW (tb0 (List.mem_of_getElem? (i := 33) rfl)) rfl
theorem tw_0_34 : Cond.selects "TrenchboardModel" yX9_lastDay yX9_lastDay ∈ GW := mGW (tb0 (List.mem_of_getElem? (i := 34) rfl)) rfl
theorem tw_0_35 : Cond.selects "TrenchboardModel" yX9_isMetre yX9_isMetre ∈ GW := mGW (tb0 (List.mem_of_getElem? (i := 35) rfl)) rfl
theorem tw_0_36 : Cond.selects "TrenchboardModel" yX9_isThing yX9_isThing ∈ GW := mGW (tb0 (List.mem_of_getElem? (i := 36) rfl)) rfl
theorem tw_0_37 : Cond.selects "TrenchboardModel" yX9_records yX9_records ∈ GW := mGW (tb0 (List.mem_of_getElem? (i := 37) rfl)) rfl
theorem tw_0_38 : Cond.selects "TrenchboardModel" yX9_suspects yX9_suspects ∈ GW := mGW (tb0 (List.mem_of_getElem? (i := 38) rfl)) rfl
theorem tw_0_39 : Cond.selects "TrenchboardModel" yX9_isSuspectBy yX9_isSuspectBy ∈ GW := mGW (tb0 (List.mem_of_getElem? (i := 39) rfl)) rfl
theorem tw_0_40 : Cond.selects "TrenchboardModel" yX9_lies yX9_lies ∈ GW := mGW (tb0 (List.mem_of_getElem? (i := 40) rfl)) rfl
theorem tw_0_41 : Cond.selects "TrenchboardModel" yX9_areWorks yX9_areWorks ∈ GW := mGW (tb0 (List.mem_of_getElem? (i := 41) rfl)) rfl
theorem tw_0_42 : Cond.selects "TrenchboardModel" yX9_barsOf yX9_barsOf ∈ GW := mGW (tb0 (List.mem_of_getElem? (i := 42) rfl)) rfl
theorem tw_0_43 : Cond.selects "TrenchboardModel" yX9_meetsOn yX9_meetsOn ∈ GW := mGW (tb0 (List.mem_of_getElem? (i := 43) rfl)) rfl
theorem tw_0_44 : Cond.selects "TrenchboardModel" yX9_isOn yX9_isOn ∈ GW := mGW (tb0 (List.mem_of_getElem? (i := 44) rfl)) rfl
theorem tw_0_45 : Cond.selects "TrenchboardModel" yX9_doMeet yX9_doMeet ∈ GW := mGW (tb0 (List.mem_of_getElem? (i := 45) rfl)) rfl
theorem tw_0_46 : Cond.selects "TrenchboardModel" yX9_areNear yX9_areNear ∈ GW := mGW (tb0 (List.mem_of_getElem? (i := 46) rfl)) rfl
theorem tw_0_47 : Cond.selects "TrenchboardModel" yX9_grants yX9_grants ∈ GW := mGW (tb0 (List.mem_of_getElem? (i := 47) rfl)) rfl
theorem tw_0_48 : Cond.selects "TrenchboardModel" yX9_pays yX9_pays ∈ GW := mGW (tb0 (List.mem_of_getElem? (i := 48) rfl)) rfl
theorem tw_0_49 : Cond.selects "TrenchboardModel" yX9_isOf yX9_isOf ∈ GW := mGW (tb0 (List.mem_of_getElem? (i := 49) rfl)) rfl
theorem tw_0_50 : Cond.selects "TrenchboardModel" yX9_isOff yX9_isOff ∈ GW := mGW (tb0 (List.mem_of_getElem? (i := 50) rfl)) rfl
theorem tw_0_51 : Cond.selects "TrenchboardModel" yX9_isBusy yX9_isBusy ∈ GW := mGW (tb0 (List.mem_of_getElem? (i := 51) rfl)) rfl
theorem tw_0_52 : Cond.selects "TrenchboardModel" yX9_isSuspect yX9_isSuspect ∈ GW := mGW (tb0 (List.mem_of_getElem? (i := 52) rfl)) rfl
theorem tw_0_53 : Cond.selects "TrenchboardModel" yX9_fillsOf yX9_fillsOf ∈ GW := mGW (tb0 (List.mem_of_getElem? (i := 53) rfl)) rfl
theorem tw_0_54 : Cond.selects "TrenchboardModel" yX9_openOf yX9_openOf ∈ GW := mGW (tb0 (List.mem_of_getElem? (i := 54) rfl)) rfl
theorem tw_0_55 : Cond.selects "TrenchboardModel" yX9_goesBy yX9_goesBy ∈ GW := mGW (tb0 (List.mem_of_getElem? (i := 55) rfl)) rfl
theorem tw_0_56 : Cond.selects "TrenchboardModel" yX9_settles yX9_settles ∈ GW := mGW (tb0 (List.mem_of_getElem? (i := 56) rfl)) rfl
theorem tw_0_57 : Cond.selects "TrenchboardModel" yX9_grade yX9_grade ∈ GW := mGW (tb0 (List.mem_of_getElem? (i := 57) rfl)) rfl
theorem tw_0_58 : Cond.selects "TrenchboardModel" yX9_rents yX9_rents ∈ GW := mGW (tb0 (List.mem_of_getElem? (i := 58) rfl)) rfl
theorem tw_0_59 : Cond.selects "TrenchboardModel" yX9_takes yX9_takes ∈ GW := mGW (tb0 (List.mem_of_getElem? (i := 59) rfl)) rfl
theorem tw_0_60 : Cond.selects "TrenchboardModel" yX9_shares yX9_shares ∈ GW := mGW (tb0 (List.mem_of_getElem? (i := 60) rfl)) rfl
theorem tw_0_61 : Cond.selects "TrenchboardModel" yX9_waits yX9_waits ∈ GW := mGW (tb0 (List.mem_of_getElem? (i := 61) rfl)) rfl
theorem tw_0_62 : Cond.selects "TrenchboardModel" yX9_isTaken yX9_isTaken ∈ GW := mGW (tb0 (List.mem_of_getElem? (i := 62) rfl)) rfl
theorem tw_0_63 : Cond.selects "TrenchboardModel" yX9_asksMetre yX9_asksMetre ∈ GW := mGW (tb0 (List.mem_of_getElem? (i := 63) rfl)) rfl
theorem tw_0_64 : Cond.selects "TrenchboardModel" yX9_liableFor yX9_liableFor ∈ GW := mGW (tb0 (List.mem_of_getElem? (i := 64) rfl)) rfl
theorem tw_0_65 : Cond.selects "TrenchboardModel" yX9_latest yX9_latest ∈ GW := mGW (tb0 (List.mem_of_getElem? (i := 65) rfl)) rfl
theorem fwX0 : ∀ w ∈ u_ws RX0 TX0 6, w ∈ GW := by
  intro w h
  obtain ⟨j, hj, rfl⟩ := List.mem_map.mp h
  have hj := List.mem_range.mp hj
  rcases (show j = 0 ∨ j = 1 ∨ j = 2 ∨ j = 3 ∨ j = 4 ∨ j = 5 by omega) with rfl | rfl | rfl | rfl | rfl | rfl
  · exact tw_4_121
  · exact tw_4_123
  · exact tw_4_125
  · exact tw_4_127
  · exact tw_4_129
  · exact tw_4_131
theorem fwX1 : ∀ w ∈ u_ws RX1 TX1 2, w ∈ GW := by
  intro w h
  obtain ⟨j, hj, rfl⟩ := List.mem_map.mp h
  have hj := List.mem_range.mp hj
  rcases (show j = 0 ∨ j = 1 by omega) with rfl | rfl
  · exact tw_1_50
  · exact tw_1_52
theorem fwX2 : ∀ w ∈ u_ws RX2 TX2 4, w ∈ GW := by
  intro w h
  obtain ⟨j, hj, rfl⟩ := List.mem_map.mp h
  have hj := List.mem_range.mp hj
  rcases (show j = 0 ∨ j = 1 ∨ j = 2 ∨ j = 3 by omega) with rfl | rfl | rfl | rfl
  · exact tw_2_28
  · exact tw_2_30
  · exact tw_2_32
  · exact tw_2_34
theorem fwX3 : ∀ w ∈ u_ws RX3 TX3 4, w ∈ GW := by
  intro w h
  obtain ⟨j, hj, rfl⟩ := List.mem_map.mp h
  have hj := List.mem_range.mp hj
  rcases (show j = 0 ∨ j = 1 ∨ j = 2 ∨ j = 3 by omega) with rfl | rfl | rfl | rfl
  · exact tw_1_91
  · exact tw_1_93
  · exact tw_1_95
  · exact tw_1_97
theorem fwX4 : ∀ w ∈ u_ws RX4 TX4 12, w ∈ GW := by
  intro w h
  obtain ⟨j, hj, rfl⟩ := List.mem_map.mp h
  have hj := List.mem_range.mp hj
  rcases (show j = 0 ∨ j = 1 ∨ j = 2 ∨ j = 3 ∨ j = 4 ∨ j = 5 ∨ j = 6 ∨ j = 7 ∨ j = 8 ∨ j = 9 ∨ j = 10 ∨ j = 11 by omega) with rfl | rfl | rfl | rfl | rfl | rfl | rfl | rfl | rfl | rfl | rfl | rfl
  · exact tw_2_57
  · exact tw_2_59
  · exact tw_2_61
  · exact tw_2_63
  · exact tw_2_65
  · exact tw_2_67
  · exact tw_2_69
  · exact tw_2_71
  · exact tw_2_73
  · exact tw_2_75
  · exact tw_2_77
  · exact tw_2_79
theorem fwX5 : ∀ w ∈ u_ws RX5 TX5 4, w ∈ GW := by
  intro w h
  obtain ⟨j, hj, rfl⟩ := List.mem_map.mp h
  have hj := List.mem_range.mp hj
  rcases (show j = 0 ∨ j = 1 ∨ j = 2 ∨ j = 3 by omega) with rfl | rfl | rfl | rfl
  · exact tw_2_115
  · exact tw_2_117
  · exact tw_2_119
  · exact tw_2_121
theorem fwX6 : ∀ w ∈ u_ws RX6 TX6 8, w ∈ GW := by
  intro w h
  obtain ⟨j, hj, rfl⟩ := List.mem_map.mp h
  have hj := List.mem_range.mp hj
  rcases (show j = 0 ∨ j = 1 ∨ j = 2 ∨ j = 3 ∨ j = 4 ∨ j = 5 ∨ j = 6 ∨ j = 7 by omega) with rfl | rfl | rfl | rfl | rfl | rfl | rfl | rfl
  · exact tw_3_0
  · exact tw_3_2
  · exact tw_3_4
  · exact tw_3_6
  · exact tw_3_8
  · exact tw_3_10
  · exact tw_3_12
  · exact tw_3_14
theorem fwX7 : ∀ w ∈ u_ws RX7 TX7 18, w ∈ GW := by
  intro w h
  obtain ⟨j, hj, rfl⟩ := List.mem_map.mp h
  have hj := List.mem_range.mp hj
  rcases (show j = 0 ∨ j = 1 ∨ j = 2 ∨ j = 3 ∨ j = 4 ∨ j = 5 ∨ j = 6 ∨ j = 7 ∨ j = 8 ∨ j = 9 ∨ j = 10 ∨ j = 11 ∨ j = 12 ∨ j = 13 ∨ j = 14 ∨ j = 15 ∨ j = 16 ∨ j = 17 by omega) with rfl | rfl | rfl | rfl | rfl | rfl | rfl | rfl | rfl | rfl | rfl | rfl | rfl | rfl | rfl | rfl | rfl | rfl
  · exact tw_3_123
  · exact tw_3_125
  · exact tw_3_127
  · exact tw_3_129
  · exact tw_3_131
  · exact tw_3_133
  · exact tw_3_135
  · exact tw_3_137
  · exact tw_3_139
  · exact tw_3_141
  · exact tw_3_143
  · exact tw_3_145
  · exact tw_3_147
  · exact tw_3_149
  · exact tw_3_151
  · exact tw_3_153
  · exact tw_3_155
  · exact tw_3_157
theorem fwX8 : ∀ w ∈ u_ws RX8 TX8 10, w ∈ GW := by
  intro w h
  obtain ⟨j, hj, rfl⟩ := List.mem_map.mp h
  have hj := List.mem_range.mp hj
  rcases (show j = 0 ∨ j = 1 ∨ j = 2 ∨ j = 3 ∨ j = 4 ∨ j = 5 ∨ j = 6 ∨ j = 7 ∨ j = 8 ∨ j = 9 by omega) with rfl | rfl | rfl | rfl | rfl | rfl | rfl | rfl | rfl | rfl
  · exact tw_1_110
  · exact tw_1_112
  · exact tw_1_114
  · exact tw_1_116
  · exact tw_1_118
  · exact tw_1_120
  · exact tw_1_122
  · exact tw_1_124
  · exact tw_1_126
  · exact tw_1_128
theorem fwX9 : ∀ w ∈ u_ws RX9 TX9 50, w ∈ GW := by
  intro w h
  obtain ⟨j, hj, rfl⟩ := List.mem_map.mp h
  have hj := List.mem_range.mp hj
  rcases (show j = 0 ∨ j = 1 ∨ j = 2 ∨ j = 3 ∨ j = 4 ∨ j = 5 ∨ j = 6 ∨ j = 7 ∨ j = 8 ∨ j = 9 ∨ j = 10 ∨ j = 11 ∨ j = 12 ∨ j = 13 ∨ j = 14 ∨ j = 15 ∨ j = 16 ∨ j = 17 ∨ j = 18 ∨ j = 19 ∨ j = 20 ∨ j = 21 ∨ j = 22 ∨ j = 23 ∨ j = 24 ∨ j = 25 ∨ j = 26 ∨ j = 27 ∨ j = 28 ∨ j = 29 ∨ j = 30 ∨ j = 31 ∨ j = 32 ∨ j = 33 ∨ j = 34 ∨ j = 35 ∨ j = 36 ∨ j = 37 ∨ j = 38 ∨ j = 39 ∨ j = 40 ∨ j = 41 ∨ j = 42 ∨ j = 43 ∨ j = 44 ∨ j = 45 ∨ j = 46 ∨ j = 47 ∨ j = 48 ∨ j = 49 by omega) with rfl | rfl | rfl | rfl | rfl | rfl | rfl | rfl | rfl | rfl | rfl | rfl | rfl | rfl | rfl | rfl | rfl | rfl | rfl | rfl | rfl | rfl | rfl | rfl | rfl | rfl | rfl | rfl | rfl | rfl | rfl | rfl | rfl | rfl | rfl | rfl | rfl | rfl | rfl | rfl | rfl | rfl | rfl | rfl | rfl | rfl | rfl | rfl | rfl | rfl
  · exact tw_5_178
  · exact tw_5_180
  · exact tw_5_182
  · exact tw_5_184
  · exact tw_5_186
  · exact tw_5_188
  · exact tw_5_190
  · exact tw_5_192
  · exact tw_5_194
  · exact tw_5_196
  · exact tw_5_198
  · exact tw_5_200
  · exact tw_5_202
  · exact tw_5_204
  · exact tw_5_206
  · exact tw_5_208
  · exact tw_5_210
  · exact tw_5_212
  · exact tw_5_214
  · exact tw_5_216
  · exact tw_5_218
  · exact tw_5_220
  · exact tw_5_222
  · exact tw_5_224
  · exact tw_5_226
  · exact tw_5_228
  · exact tw_5_230
  · exact tw_5_232
  · exact tw_5_234
  · exact tw_5_236
  · exact tw_5_238
  · exact tw_6_0
  · exact tw_6_2
  · exact tw_6_4
  · exact tw_6_6
  · exact tw_6_8
  · exact tw_6_10
  · exact tw_6_12
  · exact tw_6_14
  · exact tw_6_16
  · exact tw_6_18
  · exact tw_6_20
  · exact tw_6_22
  · exact tw_6_24
  · exact tw_6_26
  · exact tw_6_28
  · exact tw_6_30
  · exact tw_6_32
  · exact tw_6_34
  · exact tw_6_36
theorem fwJx4a65c : ∀ w ∈ u_ws RJx4a65c TJx4a65c 3, w ∈ GW := by
  intro w h
  obtain ⟨j, hj, rfl⟩ := List.mem_map.mp h
  have hj := List.mem_range.mp hj
  rcases (show j = 0 ∨ j = 1 ∨ j = 2 by omega) with rfl | rfl | rfl
  · exact tw_1_79
  · exact tw_1_75
  · exact tw_1_77
theorem goodW {c0 : Cond} {y : MethodName} {b : ByteArray} {n : Nat} {r : Option FieldType} (h : Cond.code y b n r ∈ GW) : GoodIn (c0 :: GW) (Wm y b n r) := fun w hw => by
  have hw' : w ∈ GW := by
    rcases List.mem_cons.mp hw with rfl | hw
    · exact h
    · exact hw
  exact ⟨List.mem_cons_of_mem _ hw', good_of_word (GW_good hw')⟩
theorem goodL {y : MethodName} {b : ByteArray} {n : Nat} {r : Option FieldType} (h : Cond.code y b n r ∈ GW) : GoodIn lw_tbl (Wm y b n r) := fun w hw => by
  have hw' : w ∈ GW := by
    rcases List.mem_cons.mp hw with rfl | hw
    · exact h
    · exact hw
  exact ⟨GW_tbl hw', good_of_word (GW_good hw')⟩
theorem hy_X0_init : yX0_init.cls ≠ "java/lang/invoke/MethodHandle" ∧ yX0_init.cls ≠ "java/lang/invoke/VarHandle" ∧ (parseMethodDescriptor yX0_init.desc).map (fun d => d.parameters.length) = some 5 := by decide +kernel
theorem hy_X1_init : yX1_init.cls ≠ "java/lang/invoke/MethodHandle" ∧ yX1_init.cls ≠ "java/lang/invoke/VarHandle" ∧ (parseMethodDescriptor yX1_init.desc).map (fun d => d.parameters.length) = some 0 := by decide +kernel
theorem hy_X1_enter : yX1_enter.cls ≠ "java/lang/invoke/MethodHandle" ∧ yX1_enter.cls ≠ "java/lang/invoke/VarHandle" ∧ (parseMethodDescriptor yX1_enter.desc).map (fun d => d.parameters.length) = some 3 := by decide +kernel
theorem hy_X1_balanceOf : yX1_balanceOf.cls ≠ "java/lang/invoke/MethodHandle" ∧ yX1_balanceOf.cls ≠ "java/lang/invoke/VarHandle" ∧ (parseMethodDescriptor yX1_balanceOf.desc).map (fun d => d.parameters.length) = some 1 := by decide +kernel
theorem hy_X2_init : yX2_init.cls ≠ "java/lang/invoke/MethodHandle" ∧ yX2_init.cls ≠ "java/lang/invoke/VarHandle" ∧ (parseMethodDescriptor yX2_init.desc).map (fun d => d.parameters.length) = some 0 := by decide +kernel
theorem hy_X2_latestAsDeepAs : yX2_latestAsDeepAs.cls ≠ "java/lang/invoke/MethodHandle" ∧ yX2_latestAsDeepAs.cls ≠ "java/lang/invoke/VarHandle" ∧ (parseMethodDescriptor yX2_latestAsDeepAs.desc).map (fun d => d.parameters.length) = some 1 := by decide +kernel
theorem hy_X3_init : yX3_init.cls ≠ "java/lang/invoke/MethodHandle" ∧ yX3_init.cls ≠ "java/lang/invoke/VarHandle" ∧ (parseMethodDescriptor yX3_init.desc).map (fun d => d.parameters.length) = some 0 := by decide +kernel
theorem hy_X4_init : yX4_init.cls ≠ "java/lang/invoke/MethodHandle" ∧ yX4_init.cls ≠ "java/lang/invoke/VarHandle" ∧ (parseMethodDescriptor yX4_init.desc).map (fun d => d.parameters.length) = some 5 := by decide +kernel
theorem hy_X4_metreAt : yX4_metreAt.cls ≠ "java/lang/invoke/MethodHandle" ∧ yX4_metreAt.cls ≠ "java/lang/invoke/VarHandle" ∧ (parseMethodDescriptor yX4_metreAt.desc).map (fun d => d.parameters.length) = some 1 := by decide +kernel
theorem hy_X4_hasOpenMetre : yX4_hasOpenMetre.cls ≠ "java/lang/invoke/MethodHandle" ∧ yX4_hasOpenMetre.cls ≠ "java/lang/invoke/VarHandle" ∧ (parseMethodDescriptor yX4_hasOpenMetre.desc).map (fun d => d.parameters.length) = some 0 := by decide +kernel
theorem hy_X4_hasEmbargoIn : yX4_hasEmbargoIn.cls ≠ "java/lang/invoke/MethodHandle" ∧ yX4_hasEmbargoIn.cls ≠ "java/lang/invoke/VarHandle" ∧ (parseMethodDescriptor yX4_hasEmbargoIn.desc).map (fun d => d.parameters.length) = some 2 := by decide +kernel
theorem hy_X4_isNewIn : yX4_isNewIn.cls ≠ "java/lang/invoke/MethodHandle" ∧ yX4_isNewIn.cls ≠ "java/lang/invoke/VarHandle" ∧ (parseMethodDescriptor yX4_isNewIn.desc).map (fun d => d.parameters.length) = some 2 := by decide +kernel
theorem hy_X4_weight : yX4_weight.cls ≠ "java/lang/invoke/MethodHandle" ∧ yX4_weight.cls ≠ "java/lang/invoke/VarHandle" ∧ (parseMethodDescriptor yX4_weight.desc).map (fun d => d.parameters.length) = some 0 := by decide +kernel
theorem hy_X4_noticeOf : yX4_noticeOf.cls ≠ "java/lang/invoke/MethodHandle" ∧ yX4_noticeOf.cls ≠ "java/lang/invoke/VarHandle" ∧ (parseMethodDescriptor yX4_noticeOf.desc).map (fun d => d.parameters.length) = some 1 := by decide +kernel
theorem hy_X4_sendFlow : yX4_sendFlow.cls ≠ "java/lang/invoke/MethodHandle" ∧ yX4_sendFlow.cls ≠ "java/lang/invoke/VarHandle" ∧ (parseMethodDescriptor yX4_sendFlow.desc).map (fun d => d.parameters.length) = some 0 := by decide +kernel
theorem hy_X4_letThrough : yX4_letThrough.cls ≠ "java/lang/invoke/MethodHandle" ∧ yX4_letThrough.cls ≠ "java/lang/invoke/VarHandle" ∧ (parseMethodDescriptor yX4_letThrough.desc).map (fun d => d.parameters.length) = some 0 := by decide +kernel
theorem hy_X5_init : yX5_init.cls ≠ "java/lang/invoke/MethodHandle" ∧ yX5_init.cls ≠ "java/lang/invoke/VarHandle" ∧ (parseMethodDescriptor yX5_init.desc).map (fun d => d.parameters.length) = some 4 := by decide +kernel
theorem hy_X5_isFillOf : yX5_isFillOf.cls ≠ "java/lang/invoke/MethodHandle" ∧ yX5_isFillOf.cls ≠ "java/lang/invoke/VarHandle" ∧ (parseMethodDescriptor yX5_isFillOf.desc).map (fun d => d.parameters.length) = some 2 := by decide +kernel
theorem hy_X5_isSurfaceOf : yX5_isSurfaceOf.cls ≠ "java/lang/invoke/MethodHandle" ∧ yX5_isSurfaceOf.cls ≠ "java/lang/invoke/VarHandle" ∧ (parseMethodDescriptor yX5_isSurfaceOf.desc).map (fun d => d.parameters.length) = some 1 := by decide +kernel
theorem hy_X6_init : yX6_init.cls ≠ "java/lang/invoke/MethodHandle" ∧ yX6_init.cls ≠ "java/lang/invoke/VarHandle" ∧ (parseMethodDescriptor yX6_init.desc).map (fun d => d.parameters.length) = some 5 := by decide +kernel
theorem hy_X6_putRecord : yX6_putRecord.cls ≠ "java/lang/invoke/MethodHandle" ∧ yX6_putRecord.cls ≠ "java/lang/invoke/VarHandle" ∧ (parseMethodDescriptor yX6_putRecord.desc).map (fun d => d.parameters.length) = some 3 := by decide +kernel
theorem hy_X6_suspectMetres : yX6_suspectMetres.cls ≠ "java/lang/invoke/MethodHandle" ∧ yX6_suspectMetres.cls ≠ "java/lang/invoke/VarHandle" ∧ (parseMethodDescriptor yX6_suspectMetres.desc).map (fun d => d.parameters.length) = some 0 := by decide +kernel
theorem hy_X6_liesAt : yX6_liesAt.cls ≠ "java/lang/invoke/MethodHandle" ∧ yX6_liesAt.cls ≠ "java/lang/invoke/VarHandle" ∧ (parseMethodDescriptor yX6_liesAt.desc).map (fun d => d.parameters.length) = some 2 := by decide +kernel
theorem hy_X6_liesInSureMetre : yX6_liesInSureMetre.cls ≠ "java/lang/invoke/MethodHandle" ∧ yX6_liesInSureMetre.cls ≠ "java/lang/invoke/VarHandle" ∧ (parseMethodDescriptor yX6_liesInSureMetre.desc).map (fun d => d.parameters.length) = some 0 := by decide +kernel
theorem hy_X7_init : yX7_init.cls ≠ "java/lang/invoke/MethodHandle" ∧ yX7_init.cls ≠ "java/lang/invoke/VarHandle" ∧ (parseMethodDescriptor yX7_init.desc).map (fun d => d.parameters.length) = some 5 := by decide +kernel
theorem hy_X7_placeAt : yX7_placeAt.cls ≠ "java/lang/invoke/MethodHandle" ∧ yX7_placeAt.cls ≠ "java/lang/invoke/VarHandle" ∧ (parseMethodDescriptor yX7_placeAt.desc).map (fun d => d.parameters.length) = some 3 := by decide +kernel
theorem hy_X7_planFor : yX7_planFor.cls ≠ "java/lang/invoke/MethodHandle" ∧ yX7_planFor.cls ≠ "java/lang/invoke/VarHandle" ∧ (parseMethodDescriptor yX7_planFor.desc).map (fun d => d.parameters.length) = some 2 := by decide +kernel
theorem hy_X7_bit : yX7_bit.cls ≠ "java/lang/invoke/MethodHandle" ∧ yX7_bit.cls ≠ "java/lang/invoke/VarHandle" ∧ (parseMethodDescriptor yX7_bit.desc).map (fun d => d.parameters.length) = some 0 := by decide +kernel
theorem hy_X7_agreesWith : yX7_agreesWith.cls ≠ "java/lang/invoke/MethodHandle" ∧ yX7_agreesWith.cls ≠ "java/lang/invoke/VarHandle" ∧ (parseMethodDescriptor yX7_agreesWith.desc).map (fun d => d.parameters.length) = some 1 := by decide +kernel
theorem hy_X7_isStanding : yX7_isStanding.cls ≠ "java/lang/invoke/MethodHandle" ∧ yX7_isStanding.cls ≠ "java/lang/invoke/VarHandle" ∧ (parseMethodDescriptor yX7_isStanding.desc).map (fun d => d.parameters.length) = some 0 := by decide +kernel
theorem hy_X7_isOver : yX7_isOver.cls ≠ "java/lang/invoke/MethodHandle" ∧ yX7_isOver.cls ≠ "java/lang/invoke/VarHandle" ∧ (parseMethodDescriptor yX7_isOver.desc).map (fun d => d.parameters.length) = some 0 := by decide +kernel
theorem hy_X7_hasCondition : yX7_hasCondition.cls ≠ "java/lang/invoke/MethodHandle" ∧ yX7_hasCondition.cls ≠ "java/lang/invoke/VarHandle" ∧ (parseMethodDescriptor yX7_hasCondition.desc).map (fun d => d.parameters.length) = some 1 := by decide +kernel
theorem hy_X7_takesStreet : yX7_takesStreet.cls ≠ "java/lang/invoke/MethodHandle" ∧ yX7_takesStreet.cls ≠ "java/lang/invoke/VarHandle" ∧ (parseMethodDescriptor yX7_takesStreet.desc).map (fun d => d.parameters.length) = some 0 := by decide +kernel
theorem hy_X7_endOn : yX7_endOn.cls ≠ "java/lang/invoke/MethodHandle" ∧ yX7_endOn.cls ≠ "java/lang/invoke/VarHandle" ∧ (parseMethodDescriptor yX7_endOn.desc).map (fun d => d.parameters.length) = some 1 := by decide +kernel
theorem hy_X7_settledOn : yX7_settledOn.cls ≠ "java/lang/invoke/MethodHandle" ∧ yX7_settledOn.cls ≠ "java/lang/invoke/VarHandle" ∧ (parseMethodDescriptor yX7_settledOn.desc).map (fun d => d.parameters.length) = some 0 := by decide +kernel
theorem hy_X7_permitCost : yX7_permitCost.cls ≠ "java/lang/invoke/MethodHandle" ∧ yX7_permitCost.cls ≠ "java/lang/invoke/VarHandle" ∧ (parseMethodDescriptor yX7_permitCost.desc).map (fun d => d.parameters.length) = some 0 := by decide +kernel
theorem hy_X7_daysLiable : yX7_daysLiable.cls ≠ "java/lang/invoke/MethodHandle" ∧ yX7_daysLiable.cls ≠ "java/lang/invoke/VarHandle" ∧ (parseMethodDescriptor yX7_daysLiable.desc).map (fun d => d.parameters.length) = some 0 := by decide +kernel
theorem hy_X7_ownMetreAt : yX7_ownMetreAt.cls ≠ "java/lang/invoke/MethodHandle" ∧ yX7_ownMetreAt.cls ≠ "java/lang/invoke/VarHandle" ∧ (parseMethodDescriptor yX7_ownMetreAt.desc).map (fun d => d.parameters.length) = some 1 := by decide +kernel
theorem hy_X7_mayMeet : yX7_mayMeet.cls ≠ "java/lang/invoke/MethodHandle" ∧ yX7_mayMeet.cls ≠ "java/lang/invoke/VarHandle" ∧ (parseMethodDescriptor yX7_mayMeet.desc).map (fun d => d.parameters.length) = some 2 := by decide +kernel
theorem hy_X7_areNear : yX7_areNear.cls ≠ "java/lang/invoke/MethodHandle" ∧ yX7_areNear.cls ≠ "java/lang/invoke/VarHandle" ∧ (parseMethodDescriptor yX7_areNear.desc).map (fun d => d.parameters.length) = some 2 := by decide +kernel
theorem hy_X8_init : yX8_init.cls ≠ "java/lang/invoke/MethodHandle" ∧ yX8_init.cls ≠ "java/lang/invoke/VarHandle" ∧ (parseMethodDescriptor yX8_init.desc).map (fun d => d.parameters.length) = some 0 := by decide +kernel
theorem hy_X8_street : yX8_street.cls ≠ "java/lang/invoke/MethodHandle" ∧ yX8_street.cls ≠ "java/lang/invoke/VarHandle" ∧ (parseMethodDescriptor yX8_street.desc).map (fun d => d.parameters.length) = some 4 := by decide +kernel
theorem hy_X8_surface : yX8_surface.cls ≠ "java/lang/invoke/MethodHandle" ∧ yX8_surface.cls ≠ "java/lang/invoke/VarHandle" ∧ (parseMethodDescriptor yX8_surface.desc).map (fun d => d.parameters.length) = some 1 := by decide +kernel
theorem hy_X8_embargo : yX8_embargo.cls ≠ "java/lang/invoke/MethodHandle" ∧ yX8_embargo.cls ≠ "java/lang/invoke/VarHandle" ∧ (parseMethodDescriptor yX8_embargo.desc).map (fun d => d.parameters.length) = some 3 := by decide +kernel
theorem hy_X8_thing : yX8_thing.cls ≠ "java/lang/invoke/MethodHandle" ∧ yX8_thing.cls ≠ "java/lang/invoke/VarHandle" ∧ (parseMethodDescriptor yX8_thing.desc).map (fun d => d.parameters.length) = some 5 := by decide +kernel
theorem hy_X8_record : yX8_record.cls ≠ "java/lang/invoke/MethodHandle" ∧ yX8_record.cls ≠ "java/lang/invoke/VarHandle" ∧ (parseMethodDescriptor yX8_record.desc).map (fun d => d.parameters.length) = some 4 := by decide +kernel
theorem hy_X8_lose : yX8_lose.cls ≠ "java/lang/invoke/MethodHandle" ∧ yX8_lose.cls ≠ "java/lang/invoke/VarHandle" ∧ (parseMethodDescriptor yX8_lose.desc).map (fun d => d.parameters.length) = some 1 := by decide +kernel
theorem hy_X8_survey : yX8_survey.cls ≠ "java/lang/invoke/MethodHandle" ∧ yX8_survey.cls ≠ "java/lang/invoke/VarHandle" ∧ (parseMethodDescriptor yX8_survey.desc).map (fun d => d.parameters.length) = some 1 := by decide +kernel
theorem hy_X8_trial : yX8_trial.cls ≠ "java/lang/invoke/MethodHandle" ∧ yX8_trial.cls ≠ "java/lang/invoke/VarHandle" ∧ (parseMethodDescriptor yX8_trial.desc).map (fun d => d.parameters.length) = some 2 := by decide +kernel
theorem hy_X8_ask : yX8_ask.cls ≠ "java/lang/invoke/MethodHandle" ∧ yX8_ask.cls ≠ "java/lang/invoke/VarHandle" ∧ (parseMethodDescriptor yX8_ask.desc).map (fun d => d.parameters.length) = some 8 := by decide +kernel
theorem hy_X8_grant : yX8_grant.cls ≠ "java/lang/invoke/MethodHandle" ∧ yX8_grant.cls ≠ "java/lang/invoke/VarHandle" ∧ (parseMethodDescriptor yX8_grant.desc).map (fun d => d.parameters.length) = some 2 := by decide +kernel
theorem hy_X8_refuse : yX8_refuse.cls ≠ "java/lang/invoke/MethodHandle" ∧ yX8_refuse.cls ≠ "java/lang/invoke/VarHandle" ∧ (parseMethodDescriptor yX8_refuse.desc).map (fun d => d.parameters.length) = some 1 := by decide +kernel
theorem hy_X8_vary : yX8_vary.cls ≠ "java/lang/invoke/MethodHandle" ∧ yX8_vary.cls ≠ "java/lang/invoke/VarHandle" ∧ (parseMethodDescriptor yX8_vary.desc).map (fun d => d.parameters.length) = some 2 := by decide +kernel
theorem hy_X8_exempt : yX8_exempt.cls ≠ "java/lang/invoke/MethodHandle" ∧ yX8_exempt.cls ≠ "java/lang/invoke/VarHandle" ∧ (parseMethodDescriptor yX8_exempt.desc).map (fun d => d.parameters.length) = some 1 := by decide +kernel
theorem hy_X8_agree : yX8_agree.cls ≠ "java/lang/invoke/MethodHandle" ∧ yX8_agree.cls ≠ "java/lang/invoke/VarHandle" ∧ (parseMethodDescriptor yX8_agree.desc).map (fun d => d.parameters.length) = some 2 := by decide +kernel
theorem hy_X8_start : yX8_start.cls ≠ "java/lang/invoke/MethodHandle" ∧ yX8_start.cls ≠ "java/lang/invoke/VarHandle" ∧ (parseMethodDescriptor yX8_start.desc).map (fun d => d.parameters.length) = some 1 := by decide +kernel
theorem hy_X8_open : yX8_open.cls ≠ "java/lang/invoke/MethodHandle" ∧ yX8_open.cls ≠ "java/lang/invoke/VarHandle" ∧ (parseMethodDescriptor yX8_open.desc).map (fun d => d.parameters.length) = some 2 := by decide +kernel
theorem hy_X8_fill : yX8_fill.cls ≠ "java/lang/invoke/MethodHandle" ∧ yX8_fill.cls ≠ "java/lang/invoke/VarHandle" ∧ (parseMethodDescriptor yX8_fill.desc).map (fun d => d.parameters.length) = some 3 := by decide +kernel
theorem hy_X8_plate : yX8_plate.cls ≠ "java/lang/invoke/MethodHandle" ∧ yX8_plate.cls ≠ "java/lang/invoke/VarHandle" ∧ (parseMethodDescriptor yX8_plate.desc).map (fun d => d.parameters.length) = some 1 := by decide +kernel
theorem hy_X8_extend : yX8_extend.cls ≠ "java/lang/invoke/MethodHandle" ∧ yX8_extend.cls ≠ "java/lang/invoke/VarHandle" ∧ (parseMethodDescriptor yX8_extend.desc).map (fun d => d.parameters.length) = some 1 := by decide +kernel
theorem hy_X8_stop : yX8_stop.cls ≠ "java/lang/invoke/MethodHandle" ∧ yX8_stop.cls ≠ "java/lang/invoke/VarHandle" ∧ (parseMethodDescriptor yX8_stop.desc).map (fun d => d.parameters.length) = some 1 := by decide +kernel
theorem hy_X8_pass : yX8_pass.cls ≠ "java/lang/invoke/MethodHandle" ∧ yX8_pass.cls ≠ "java/lang/invoke/VarHandle" ∧ (parseMethodDescriptor yX8_pass.desc).map (fun d => d.parameters.length) = some 1 := by decide +kernel
theorem hy_X8_defect : yX8_defect.cls ≠ "java/lang/invoke/MethodHandle" ∧ yX8_defect.cls ≠ "java/lang/invoke/VarHandle" ∧ (parseMethodDescriptor yX8_defect.desc).map (fun d => d.parameters.length) = some 3 := by decide +kernel
theorem hy_X8_core : yX8_core.cls ≠ "java/lang/invoke/MethodHandle" ∧ yX8_core.cls ≠ "java/lang/invoke/VarHandle" ∧ (parseMethodDescriptor yX8_core.desc).map (fun d => d.parameters.length) = some 2 := by decide +kernel
theorem hy_X8_liable : yX8_liable.cls ≠ "java/lang/invoke/MethodHandle" ∧ yX8_liable.cls ≠ "java/lang/invoke/VarHandle" ∧ (parseMethodDescriptor yX8_liable.desc).map (fun d => d.parameters.length) = some 3 := by decide +kernel
theorem hy_X8_liableAnew : yX8_liableAnew.cls ≠ "java/lang/invoke/MethodHandle" ∧ yX8_liableAnew.cls ≠ "java/lang/invoke/VarHandle" ∧ (parseMethodDescriptor yX8_liableAnew.desc).map (fun d => d.parameters.length) = some 3 := by decide +kernel
theorem hy_X8_bars : yX8_bars.cls ≠ "java/lang/invoke/MethodHandle" ∧ yX8_bars.cls ≠ "java/lang/invoke/VarHandle" ∧ (parseMethodDescriptor yX8_bars.desc).map (fun d => d.parameters.length) = some 1 := by decide +kernel
theorem hy_X8_meets : yX8_meets.cls ≠ "java/lang/invoke/MethodHandle" ∧ yX8_meets.cls ≠ "java/lang/invoke/VarHandle" ∧ (parseMethodDescriptor yX8_meets.desc).map (fun d => d.parameters.length) = some 2 := by decide +kernel
theorem hy_X8_of : yX8_of.cls ≠ "java/lang/invoke/MethodHandle" ∧ yX8_of.cls ≠ "java/lang/invoke/VarHandle" ∧ (parseMethodDescriptor yX8_of.desc).map (fun d => d.parameters.length) = some 2 := by decide +kernel
theorem hy_X8_metre : yX8_metre.cls ≠ "java/lang/invoke/MethodHandle" ∧ yX8_metre.cls ≠ "java/lang/invoke/VarHandle" ∧ (parseMethodDescriptor yX8_metre.desc).map (fun d => d.parameters.length) = some 3 := by decide +kernel
theorem hy_X8_search : yX8_search.cls ≠ "java/lang/invoke/MethodHandle" ∧ yX8_search.cls ≠ "java/lang/invoke/VarHandle" ∧ (parseMethodDescriptor yX8_search.desc).map (fun d => d.parameters.length) = some 3 := by decide +kernel
theorem hy_X8_queue : yX8_queue.cls ≠ "java/lang/invoke/MethodHandle" ∧ yX8_queue.cls ≠ "java/lang/invoke/VarHandle" ∧ (parseMethodDescriptor yX8_queue.desc).map (fun d => d.parameters.length) = some 1 := by decide +kernel
theorem hy_X8_due : yX8_due.cls ≠ "java/lang/invoke/MethodHandle" ∧ yX8_due.cls ≠ "java/lang/invoke/VarHandle" ∧ (parseMethodDescriptor yX8_due.desc).map (fun d => d.parameters.length) = some 1 := by decide +kernel
theorem hy_X8_money : yX8_money.cls ≠ "java/lang/invoke/MethodHandle" ∧ yX8_money.cls ≠ "java/lang/invoke/VarHandle" ∧ (parseMethodDescriptor yX8_money.desc).map (fun d => d.parameters.length) = some 1 := by decide +kernel
theorem hy_X8_moneyAnew : yX8_moneyAnew.cls ≠ "java/lang/invoke/MethodHandle" ∧ yX8_moneyAnew.cls ≠ "java/lang/invoke/VarHandle" ∧ (parseMethodDescriptor yX8_moneyAnew.desc).map (fun d => d.parameters.length) = some 1 := by decide +kernel
theorem hy_X8_streetAt : yX8_streetAt.cls ≠ "java/lang/invoke/MethodHandle" ∧ yX8_streetAt.cls ≠ "java/lang/invoke/VarHandle" ∧ (parseMethodDescriptor yX8_streetAt.desc).map (fun d => d.parameters.length) = some 1 := by decide +kernel
theorem hy_X8_thingAt : yX8_thingAt.cls ≠ "java/lang/invoke/MethodHandle" ∧ yX8_thingAt.cls ≠ "java/lang/invoke/VarHandle" ∧ (parseMethodDescriptor yX8_thingAt.desc).map (fun d => d.parameters.length) = some 1 := by decide +kernel
theorem hy_X8_worksAt : yX8_worksAt.cls ≠ "java/lang/invoke/MethodHandle" ∧ yX8_worksAt.cls ≠ "java/lang/invoke/VarHandle" ∧ (parseMethodDescriptor yX8_worksAt.desc).map (fun d => d.parameters.length) = some 1 := by decide +kernel
theorem hy_X8_partyAt : yX8_partyAt.cls ≠ "java/lang/invoke/MethodHandle" ∧ yX8_partyAt.cls ≠ "java/lang/invoke/VarHandle" ∧ (parseMethodDescriptor yX8_partyAt.desc).map (fun d => d.parameters.length) = some 1 := by decide +kernel
theorem hy_X8_isPromoter : yX8_isPromoter.cls ≠ "java/lang/invoke/MethodHandle" ∧ yX8_isPromoter.cls ≠ "java/lang/invoke/VarHandle" ∧ (parseMethodDescriptor yX8_isPromoter.desc).map (fun d => d.parameters.length) = some 1 := by decide +kernel
theorem hy_X8_numberOf : yX8_numberOf.cls ≠ "java/lang/invoke/MethodHandle" ∧ yX8_numberOf.cls ≠ "java/lang/invoke/VarHandle" ∧ (parseMethodDescriptor yX8_numberOf.desc).map (fun d => d.parameters.length) = some 1 := by decide +kernel
theorem hy_X8_today : yX8_today.cls ≠ "java/lang/invoke/MethodHandle" ∧ yX8_today.cls ≠ "java/lang/invoke/VarHandle" ∧ (parseMethodDescriptor yX8_today.desc).map (fun d => d.parameters.length) = some 0 := by decide +kernel
theorem hy_X8_isBusy : yX8_isBusy.cls ≠ "java/lang/invoke/MethodHandle" ∧ yX8_isBusy.cls ≠ "java/lang/invoke/VarHandle" ∧ (parseMethodDescriptor yX8_isBusy.desc).map (fun d => d.parameters.length) = some 0 := by decide +kernel
theorem hy_X8_overlap : yX8_overlap.cls ≠ "java/lang/invoke/MethodHandle" ∧ yX8_overlap.cls ≠ "java/lang/invoke/VarHandle" ∧ (parseMethodDescriptor yX8_overlap.desc).map (fun d => d.parameters.length) = some 4 := by decide +kernel
theorem hy_X8_tell : yX8_tell.cls ≠ "java/lang/invoke/MethodHandle" ∧ yX8_tell.cls ≠ "java/lang/invoke/VarHandle" ∧ (parseMethodDescriptor yX8_tell.desc).map (fun d => d.parameters.length) = some 1 := by decide +kernel
theorem hy_X8_countFill : yX8_countFill.cls ≠ "java/lang/invoke/MethodHandle" ∧ yX8_countFill.cls ≠ "java/lang/invoke/VarHandle" ∧ (parseMethodDescriptor yX8_countFill.desc).map (fun d => d.parameters.length) = some 1 := by decide +kernel
theorem hy_X8_countFault : yX8_countFault.cls ≠ "java/lang/invoke/MethodHandle" ∧ yX8_countFault.cls ≠ "java/lang/invoke/VarHandle" ∧ (parseMethodDescriptor yX8_countFault.desc).map (fun d => d.parameters.length) = some 1 := by decide +kernel
theorem hy_X8_countCore : yX8_countCore.cls ≠ "java/lang/invoke/MethodHandle" ∧ yX8_countCore.cls ≠ "java/lang/invoke/VarHandle" ∧ (parseMethodDescriptor yX8_countCore.desc).map (fun d => d.parameters.length) = some 1 := by decide +kernel
theorem hy_X8_pay : yX8_pay.cls ≠ "java/lang/invoke/MethodHandle" ∧ yX8_pay.cls ≠ "java/lang/invoke/VarHandle" ∧ (parseMethodDescriptor yX8_pay.desc).map (fun d => d.parameters.length) = some 3 := by decide +kernel
theorem hy_X8_suspects : yX8_suspects.cls ≠ "java/lang/invoke/MethodHandle" ∧ yX8_suspects.cls ≠ "java/lang/invoke/VarHandle" ∧ (parseMethodDescriptor yX8_suspects.desc).map (fun d => d.parameters.length) = some 3 := by decide +kernel
theorem hy_X8_isSuspect : yX8_isSuspect.cls ≠ "java/lang/invoke/MethodHandle" ∧ yX8_isSuspect.cls ≠ "java/lang/invoke/VarHandle" ∧ (parseMethodDescriptor yX8_isSuspect.desc).map (fun d => d.parameters.length) = some 2 := by decide +kernel
theorem hy_X8_strikeThings : yX8_strikeThings.cls ≠ "java/lang/invoke/MethodHandle" ∧ yX8_strikeThings.cls ≠ "java/lang/invoke/VarHandle" ∧ (parseMethodDescriptor yX8_strikeThings.desc).map (fun d => d.parameters.length) = some 2 := by decide +kernel
theorem hy_X8_permit : yX8_permit.cls ≠ "java/lang/invoke/MethodHandle" ∧ yX8_permit.cls ≠ "java/lang/invoke/VarHandle" ∧ (parseMethodDescriptor yX8_permit.desc).map (fun d => d.parameters.length) = some 2 := by decide +kernel
theorem hy_X8_whatBars : yX8_whatBars.cls ≠ "java/lang/invoke/MethodHandle" ∧ yX8_whatBars.cls ≠ "java/lang/invoke/VarHandle" ∧ (parseMethodDescriptor yX8_whatBars.desc).map (fun d => d.parameters.length) = some 1 := by decide +kernel
theorem hy_X8_firstMet : yX8_firstMet.cls ≠ "java/lang/invoke/MethodHandle" ∧ yX8_firstMet.cls ≠ "java/lang/invoke/VarHandle" ∧ (parseMethodDescriptor yX8_firstMet.desc).map (fun d => d.parameters.length) = some 4 := by decide +kernel
theorem hy_X8_goOneHour : yX8_goOneHour.cls ≠ "java/lang/invoke/MethodHandle" ∧ yX8_goOneHour.cls ≠ "java/lang/invoke/VarHandle" ∧ (parseMethodDescriptor yX8_goOneHour.desc).map (fun d => d.parameters.length) = some 0 := by decide +kernel
theorem hy_X8_settleAsked : yX8_settleAsked.cls ≠ "java/lang/invoke/MethodHandle" ∧ yX8_settleAsked.cls ≠ "java/lang/invoke/VarHandle" ∧ (parseMethodDescriptor yX8_settleAsked.desc).map (fun d => d.parameters.length) = some 0 := by decide +kernel
theorem hy_X8_fineLate : yX8_fineLate.cls ≠ "java/lang/invoke/MethodHandle" ∧ yX8_fineLate.cls ≠ "java/lang/invoke/VarHandle" ∧ (parseMethodDescriptor yX8_fineLate.desc).map (fun d => d.parameters.length) = some 0 := by decide +kernel
theorem hy_X8_takeStreets : yX8_takeStreets.cls ≠ "java/lang/invoke/MethodHandle" ∧ yX8_takeStreets.cls ≠ "java/lang/invoke/VarHandle" ∧ (parseMethodDescriptor yX8_takeStreets.desc).map (fun d => d.parameters.length) = some 0 := by decide +kernel
theorem hy_X8_chargeTakers : yX8_chargeTakers.cls ≠ "java/lang/invoke/MethodHandle" ∧ yX8_chargeTakers.cls ≠ "java/lang/invoke/VarHandle" ∧ (parseMethodDescriptor yX8_chargeTakers.desc).map (fun d => d.parameters.length) = some 0 := by decide +kernel
theorem hy_X8_moveQueues : yX8_moveQueues.cls ≠ "java/lang/invoke/MethodHandle" ∧ yX8_moveQueues.cls ≠ "java/lang/invoke/VarHandle" ∧ (parseMethodDescriptor yX8_moveQueues.desc).map (fun d => d.parameters.length) = some 0 := by decide +kernel
theorem hy_X8_whoIsLiable : yX8_whoIsLiable.cls ≠ "java/lang/invoke/MethodHandle" ∧ yX8_whoIsLiable.cls ≠ "java/lang/invoke/VarHandle" ∧ (parseMethodDescriptor yX8_whoIsLiable.desc).map (fun d => d.parameters.length) = some 3 := by decide +kernel
theorem hy_X9_init : yX9_init.cls ≠ "java/lang/invoke/MethodHandle" ∧ yX9_init.cls ≠ "java/lang/invoke/VarHandle" ∧ (parseMethodDescriptor yX9_init.desc).map (fun d => d.parameters.length) = some 0 := by decide +kernel
theorem hy_X9_thrown : yX9_thrown.cls ≠ "java/lang/invoke/MethodHandle" ∧ yX9_thrown.cls ≠ "java/lang/invoke/VarHandle" ∧ (parseMethodDescriptor yX9_thrown.desc).map (fun d => d.parameters.length) = some 0 := by decide +kernel
theorem hy_X9_goes : yX9_goes.cls ≠ "java/lang/invoke/MethodHandle" ∧ yX9_goes.cls ≠ "java/lang/invoke/VarHandle" ∧ (parseMethodDescriptor yX9_goes.desc).map (fun d => d.parameters.length) = some 1 := by decide +kernel
theorem hy_X9_isIn : yX9_isIn.cls ≠ "java/lang/invoke/MethodHandle" ∧ yX9_isIn.cls ≠ "java/lang/invoke/VarHandle" ∧ (parseMethodDescriptor yX9_isIn.desc).map (fun d => d.parameters.length) = some 3 := by decide +kernel
theorem hy_X9_isStreet : yX9_isStreet.cls ≠ "java/lang/invoke/MethodHandle" ∧ yX9_isStreet.cls ≠ "java/lang/invoke/VarHandle" ∧ (parseMethodDescriptor yX9_isStreet.desc).map (fun d => d.parameters.length) = some 1 := by decide +kernel
theorem hy_X9_isMetre : yX9_isMetre.cls ≠ "java/lang/invoke/MethodHandle" ∧ yX9_isMetre.cls ≠ "java/lang/invoke/VarHandle" ∧ (parseMethodDescriptor yX9_isMetre.desc).map (fun d => d.parameters.length) = some 2 := by decide +kernel
theorem hy_X9_isThing : yX9_isThing.cls ≠ "java/lang/invoke/MethodHandle" ∧ yX9_isThing.cls ≠ "java/lang/invoke/VarHandle" ∧ (parseMethodDescriptor yX9_isThing.desc).map (fun d => d.parameters.length) = some 1 := by decide +kernel
theorem hy_X9_areWorks : yX9_areWorks.cls ≠ "java/lang/invoke/MethodHandle" ∧ yX9_areWorks.cls ≠ "java/lang/invoke/VarHandle" ∧ (parseMethodDescriptor yX9_areWorks.desc).map (fun d => d.parameters.length) = some 1 := by decide +kernel
theorem hy_X9_isPromoter : yX9_isPromoter.cls ≠ "java/lang/invoke/MethodHandle" ∧ yX9_isPromoter.cls ≠ "java/lang/invoke/VarHandle" ∧ (parseMethodDescriptor yX9_isPromoter.desc).map (fun d => d.parameters.length) = some 1 := by decide +kernel
theorem hy_X9_today : yX9_today.cls ≠ "java/lang/invoke/MethodHandle" ∧ yX9_today.cls ≠ "java/lang/invoke/VarHandle" ∧ (parseMethodDescriptor yX9_today.desc).map (fun d => d.parameters.length) = some 0 := by decide +kernel
theorem hy_X9_isBusy : yX9_isBusy.cls ≠ "java/lang/invoke/MethodHandle" ∧ yX9_isBusy.cls ≠ "java/lang/invoke/VarHandle" ∧ (parseMethodDescriptor yX9_isBusy.desc).map (fun d => d.parameters.length) = some 0 := by decide +kernel
theorem hy_X9_pays : yX9_pays.cls ≠ "java/lang/invoke/MethodHandle" ∧ yX9_pays.cls ≠ "java/lang/invoke/VarHandle" ∧ (parseMethodDescriptor yX9_pays.desc).map (fun d => d.parameters.length) = some 3 := by decide +kernel
theorem hy_X9_street : yX9_street.cls ≠ "java/lang/invoke/MethodHandle" ∧ yX9_street.cls ≠ "java/lang/invoke/VarHandle" ∧ (parseMethodDescriptor yX9_street.desc).map (fun d => d.parameters.length) = some 4 := by decide +kernel
theorem hy_X9_openIn : yX9_openIn.cls ≠ "java/lang/invoke/MethodHandle" ∧ yX9_openIn.cls ≠ "java/lang/invoke/VarHandle" ∧ (parseMethodDescriptor yX9_openIn.desc).map (fun d => d.parameters.length) = some 1 := by decide +kernel
theorem hy_X9_surface : yX9_surface.cls ≠ "java/lang/invoke/MethodHandle" ∧ yX9_surface.cls ≠ "java/lang/invoke/VarHandle" ∧ (parseMethodDescriptor yX9_surface.desc).map (fun d => d.parameters.length) = some 1 := by decide +kernel
theorem hy_X9_embargo : yX9_embargo.cls ≠ "java/lang/invoke/MethodHandle" ∧ yX9_embargo.cls ≠ "java/lang/invoke/VarHandle" ∧ (parseMethodDescriptor yX9_embargo.desc).map (fun d => d.parameters.length) = some 3 := by decide +kernel
theorem hy_X9_thing : yX9_thing.cls ≠ "java/lang/invoke/MethodHandle" ∧ yX9_thing.cls ≠ "java/lang/invoke/VarHandle" ∧ (parseMethodDescriptor yX9_thing.desc).map (fun d => d.parameters.length) = some 5 := by decide +kernel
theorem hy_X9_isSuspectBy : yX9_isSuspectBy.cls ≠ "java/lang/invoke/MethodHandle" ∧ yX9_isSuspectBy.cls ≠ "java/lang/invoke/VarHandle" ∧ (parseMethodDescriptor yX9_isSuspectBy.desc).map (fun d => d.parameters.length) = some 3 := by decide +kernel
theorem hy_X9_suspects : yX9_suspects.cls ≠ "java/lang/invoke/MethodHandle" ∧ yX9_suspects.cls ≠ "java/lang/invoke/VarHandle" ∧ (parseMethodDescriptor yX9_suspects.desc).map (fun d => d.parameters.length) = some 1 := by decide +kernel
theorem hy_X9_records : yX9_records.cls ≠ "java/lang/invoke/MethodHandle" ∧ yX9_records.cls ≠ "java/lang/invoke/VarHandle" ∧ (parseMethodDescriptor yX9_records.desc).map (fun d => d.parameters.length) = some 4 := by decide +kernel
theorem hy_X9_record : yX9_record.cls ≠ "java/lang/invoke/MethodHandle" ∧ yX9_record.cls ≠ "java/lang/invoke/VarHandle" ∧ (parseMethodDescriptor yX9_record.desc).map (fun d => d.parameters.length) = some 4 := by decide +kernel
theorem hy_X9_lose : yX9_lose.cls ≠ "java/lang/invoke/MethodHandle" ∧ yX9_lose.cls ≠ "java/lang/invoke/VarHandle" ∧ (parseMethodDescriptor yX9_lose.desc).map (fun d => d.parameters.length) = some 1 := by decide +kernel
theorem hy_X9_survey : yX9_survey.cls ≠ "java/lang/invoke/MethodHandle" ∧ yX9_survey.cls ≠ "java/lang/invoke/VarHandle" ∧ (parseMethodDescriptor yX9_survey.desc).map (fun d => d.parameters.length) = some 1 := by decide +kernel
theorem hy_X9_lies : yX9_lies.cls ≠ "java/lang/invoke/MethodHandle" ∧ yX9_lies.cls ≠ "java/lang/invoke/VarHandle" ∧ (parseMethodDescriptor yX9_lies.desc).map (fun d => d.parameters.length) = some 3 := by decide +kernel
theorem hy_X9_trial : yX9_trial.cls ≠ "java/lang/invoke/MethodHandle" ∧ yX9_trial.cls ≠ "java/lang/invoke/VarHandle" ∧ (parseMethodDescriptor yX9_trial.desc).map (fun d => d.parameters.length) = some 2 := by decide +kernel
theorem hy_X9_lastDay : yX9_lastDay.cls ≠ "java/lang/invoke/MethodHandle" ∧ yX9_lastDay.cls ≠ "java/lang/invoke/VarHandle" ∧ (parseMethodDescriptor yX9_lastDay.desc).map (fun d => d.parameters.length) = some 1 := by decide +kernel
theorem hy_X9_lastOf : yX9_lastOf.cls ≠ "java/lang/invoke/MethodHandle" ∧ yX9_lastOf.cls ≠ "java/lang/invoke/VarHandle" ∧ (parseMethodDescriptor yX9_lastOf.desc).map (fun d => d.parameters.length) = some 1 := by decide +kernel
theorem hy_X9_hasDay : yX9_hasDay.cls ≠ "java/lang/invoke/MethodHandle" ∧ yX9_hasDay.cls ≠ "java/lang/invoke/VarHandle" ∧ (parseMethodDescriptor yX9_hasDay.desc).map (fun d => d.parameters.length) = some 3 := by decide +kernel
theorem hy_X9_isOn : yX9_isOn.cls ≠ "java/lang/invoke/MethodHandle" ∧ yX9_isOn.cls ≠ "java/lang/invoke/VarHandle" ∧ (parseMethodDescriptor yX9_isOn.desc).map (fun d => d.parameters.length) = some 1 := by decide +kernel
theorem hy_X9_areNear : yX9_areNear.cls ≠ "java/lang/invoke/MethodHandle" ∧ yX9_areNear.cls ≠ "java/lang/invoke/VarHandle" ∧ (parseMethodDescriptor yX9_areNear.desc).map (fun d => d.parameters.length) = some 2 := by decide +kernel
theorem hy_X9_doMeet : yX9_doMeet.cls ≠ "java/lang/invoke/MethodHandle" ∧ yX9_doMeet.cls ≠ "java/lang/invoke/VarHandle" ∧ (parseMethodDescriptor yX9_doMeet.desc).map (fun d => d.parameters.length) = some 2 := by decide +kernel
theorem hy_X9_meetsOn : yX9_meetsOn.cls ≠ "java/lang/invoke/MethodHandle" ∧ yX9_meetsOn.cls ≠ "java/lang/invoke/VarHandle" ∧ (parseMethodDescriptor yX9_meetsOn.desc).map (fun d => d.parameters.length) = some 1 := by decide +kernel
theorem hy_X9_barsOf : yX9_barsOf.cls ≠ "java/lang/invoke/MethodHandle" ∧ yX9_barsOf.cls ≠ "java/lang/invoke/VarHandle" ∧ (parseMethodDescriptor yX9_barsOf.desc).map (fun d => d.parameters.length) = some 1 := by decide +kernel
theorem hy_X9_notice : yX9_notice.cls ≠ "java/lang/invoke/MethodHandle" ∧ yX9_notice.cls ≠ "java/lang/invoke/VarHandle" ∧ (parseMethodDescriptor yX9_notice.desc).map (fun d => d.parameters.length) = some 2 := by decide +kernel
theorem hy_X9_ask : yX9_ask.cls ≠ "java/lang/invoke/MethodHandle" ∧ yX9_ask.cls ≠ "java/lang/invoke/VarHandle" ∧ (parseMethodDescriptor yX9_ask.desc).map (fun d => d.parameters.length) = some 8 := by decide +kernel
theorem hy_X9_grants : yX9_grants.cls ≠ "java/lang/invoke/MethodHandle" ∧ yX9_grants.cls ≠ "java/lang/invoke/VarHandle" ∧ (parseMethodDescriptor yX9_grants.desc).map (fun d => d.parameters.length) = some 2 := by decide +kernel
theorem hy_X9_grant : yX9_grant.cls ≠ "java/lang/invoke/MethodHandle" ∧ yX9_grant.cls ≠ "java/lang/invoke/VarHandle" ∧ (parseMethodDescriptor yX9_grant.desc).map (fun d => d.parameters.length) = some 2 := by decide +kernel
theorem hy_X9_refuse : yX9_refuse.cls ≠ "java/lang/invoke/MethodHandle" ∧ yX9_refuse.cls ≠ "java/lang/invoke/VarHandle" ∧ (parseMethodDescriptor yX9_refuse.desc).map (fun d => d.parameters.length) = some 1 := by decide +kernel
theorem hy_X9_vary : yX9_vary.cls ≠ "java/lang/invoke/MethodHandle" ∧ yX9_vary.cls ≠ "java/lang/invoke/VarHandle" ∧ (parseMethodDescriptor yX9_vary.desc).map (fun d => d.parameters.length) = some 2 := by decide +kernel
theorem hy_X9_exempt : yX9_exempt.cls ≠ "java/lang/invoke/MethodHandle" ∧ yX9_exempt.cls ≠ "java/lang/invoke/VarHandle" ∧ (parseMethodDescriptor yX9_exempt.desc).map (fun d => d.parameters.length) = some 1 := by decide +kernel
theorem hy_X9_agree : yX9_agree.cls ≠ "java/lang/invoke/MethodHandle" ∧ yX9_agree.cls ≠ "java/lang/invoke/VarHandle" ∧ (parseMethodDescriptor yX9_agree.desc).map (fun d => d.parameters.length) = some 2 := by decide +kernel
theorem hy_X9_start : yX9_start.cls ≠ "java/lang/invoke/MethodHandle" ∧ yX9_start.cls ≠ "java/lang/invoke/VarHandle" ∧ (parseMethodDescriptor yX9_start.desc).map (fun d => d.parameters.length) = some 1 := by decide +kernel
theorem hy_X9_isSuspect : yX9_isSuspect.cls ≠ "java/lang/invoke/MethodHandle" ∧ yX9_isSuspect.cls ≠ "java/lang/invoke/VarHandle" ∧ (parseMethodDescriptor yX9_isSuspect.desc).map (fun d => d.parameters.length) = some 2 := by decide +kernel
theorem hy_X9_isOff : yX9_isOff.cls ≠ "java/lang/invoke/MethodHandle" ∧ yX9_isOff.cls ≠ "java/lang/invoke/VarHandle" ∧ (parseMethodDescriptor yX9_isOff.desc).map (fun d => d.parameters.length) = some 2 := by decide +kernel
theorem hy_X9_isOf : yX9_isOf.cls ≠ "java/lang/invoke/MethodHandle" ∧ yX9_isOf.cls ≠ "java/lang/invoke/VarHandle" ∧ (parseMethodDescriptor yX9_isOf.desc).map (fun d => d.parameters.length) = some 2 := by decide +kernel
theorem hy_X9_open : yX9_open.cls ≠ "java/lang/invoke/MethodHandle" ∧ yX9_open.cls ≠ "java/lang/invoke/VarHandle" ∧ (parseMethodDescriptor yX9_open.desc).map (fun d => d.parameters.length) = some 2 := by decide +kernel
theorem hy_X9_fillsOf : yX9_fillsOf.cls ≠ "java/lang/invoke/MethodHandle" ∧ yX9_fillsOf.cls ≠ "java/lang/invoke/VarHandle" ∧ (parseMethodDescriptor yX9_fillsOf.desc).map (fun d => d.parameters.length) = some 1 := by decide +kernel
theorem hy_X9_fill : yX9_fill.cls ≠ "java/lang/invoke/MethodHandle" ∧ yX9_fill.cls ≠ "java/lang/invoke/VarHandle" ∧ (parseMethodDescriptor yX9_fill.desc).map (fun d => d.parameters.length) = some 3 := by decide +kernel
theorem hy_X9_plate : yX9_plate.cls ≠ "java/lang/invoke/MethodHandle" ∧ yX9_plate.cls ≠ "java/lang/invoke/VarHandle" ∧ (parseMethodDescriptor yX9_plate.desc).map (fun d => d.parameters.length) = some 1 := by decide +kernel
theorem hy_X9_extend : yX9_extend.cls ≠ "java/lang/invoke/MethodHandle" ∧ yX9_extend.cls ≠ "java/lang/invoke/VarHandle" ∧ (parseMethodDescriptor yX9_extend.desc).map (fun d => d.parameters.length) = some 1 := by decide +kernel
theorem hy_X9_openOf : yX9_openOf.cls ≠ "java/lang/invoke/MethodHandle" ∧ yX9_openOf.cls ≠ "java/lang/invoke/VarHandle" ∧ (parseMethodDescriptor yX9_openOf.desc).map (fun d => d.parameters.length) = some 1 := by decide +kernel
theorem hy_X9_stop : yX9_stop.cls ≠ "java/lang/invoke/MethodHandle" ∧ yX9_stop.cls ≠ "java/lang/invoke/VarHandle" ∧ (parseMethodDescriptor yX9_stop.desc).map (fun d => d.parameters.length) = some 1 := by decide +kernel
theorem hy_X9_settles : yX9_settles.cls ≠ "java/lang/invoke/MethodHandle" ∧ yX9_settles.cls ≠ "java/lang/invoke/VarHandle" ∧ (parseMethodDescriptor yX9_settles.desc).map (fun d => d.parameters.length) = some 0 := by decide +kernel
theorem hy_X9_grade : yX9_grade.cls ≠ "java/lang/invoke/MethodHandle" ∧ yX9_grade.cls ≠ "java/lang/invoke/VarHandle" ∧ (parseMethodDescriptor yX9_grade.desc).map (fun d => d.parameters.length) = some 1 := by decide +kernel
theorem hy_X9_takes : yX9_takes.cls ≠ "java/lang/invoke/MethodHandle" ∧ yX9_takes.cls ≠ "java/lang/invoke/VarHandle" ∧ (parseMethodDescriptor yX9_takes.desc).map (fun d => d.parameters.length) = some 1 := by decide +kernel
theorem hy_X9_isTaken : yX9_isTaken.cls ≠ "java/lang/invoke/MethodHandle" ∧ yX9_isTaken.cls ≠ "java/lang/invoke/VarHandle" ∧ (parseMethodDescriptor yX9_isTaken.desc).map (fun d => d.parameters.length) = some 1 := by decide +kernel
theorem hy_X9_shares : yX9_shares.cls ≠ "java/lang/invoke/MethodHandle" ∧ yX9_shares.cls ≠ "java/lang/invoke/VarHandle" ∧ (parseMethodDescriptor yX9_shares.desc).map (fun d => d.parameters.length) = some 1 := by decide +kernel
theorem hy_X9_rents : yX9_rents.cls ≠ "java/lang/invoke/MethodHandle" ∧ yX9_rents.cls ≠ "java/lang/invoke/VarHandle" ∧ (parseMethodDescriptor yX9_rents.desc).map (fun d => d.parameters.length) = some 0 := by decide +kernel
theorem hy_X9_waits : yX9_waits.cls ≠ "java/lang/invoke/MethodHandle" ∧ yX9_waits.cls ≠ "java/lang/invoke/VarHandle" ∧ (parseMethodDescriptor yX9_waits.desc).map (fun d => d.parameters.length) = some 0 := by decide +kernel
theorem hy_X9_goesBy : yX9_goesBy.cls ≠ "java/lang/invoke/MethodHandle" ∧ yX9_goesBy.cls ≠ "java/lang/invoke/VarHandle" ∧ (parseMethodDescriptor yX9_goesBy.desc).map (fun d => d.parameters.length) = some 0 := by decide +kernel
theorem hy_X9_pass : yX9_pass.cls ≠ "java/lang/invoke/MethodHandle" ∧ yX9_pass.cls ≠ "java/lang/invoke/VarHandle" ∧ (parseMethodDescriptor yX9_pass.desc).map (fun d => d.parameters.length) = some 1 := by decide +kernel
theorem hy_X9_liableFor : yX9_liableFor.cls ≠ "java/lang/invoke/MethodHandle" ∧ yX9_liableFor.cls ≠ "java/lang/invoke/VarHandle" ∧ (parseMethodDescriptor yX9_liableFor.desc).map (fun d => d.parameters.length) = some 3 := by decide +kernel
theorem hy_X9_asksMetre : yX9_asksMetre.cls ≠ "java/lang/invoke/MethodHandle" ∧ yX9_asksMetre.cls ≠ "java/lang/invoke/VarHandle" ∧ (parseMethodDescriptor yX9_asksMetre.desc).map (fun d => d.parameters.length) = some 3 := by decide +kernel
theorem hy_X9_defect : yX9_defect.cls ≠ "java/lang/invoke/MethodHandle" ∧ yX9_defect.cls ≠ "java/lang/invoke/VarHandle" ∧ (parseMethodDescriptor yX9_defect.desc).map (fun d => d.parameters.length) = some 3 := by decide +kernel
theorem hy_X9_latest : yX9_latest.cls ≠ "java/lang/invoke/MethodHandle" ∧ yX9_latest.cls ≠ "java/lang/invoke/VarHandle" ∧ (parseMethodDescriptor yX9_latest.desc).map (fun d => d.parameters.length) = some 1 := by decide +kernel
theorem hy_X9_core : yX9_core.cls ≠ "java/lang/invoke/MethodHandle" ∧ yX9_core.cls ≠ "java/lang/invoke/VarHandle" ∧ (parseMethodDescriptor yX9_core.desc).map (fun d => d.parameters.length) = some 2 := by decide +kernel
theorem hy_X9_liable : yX9_liable.cls ≠ "java/lang/invoke/MethodHandle" ∧ yX9_liable.cls ≠ "java/lang/invoke/VarHandle" ∧ (parseMethodDescriptor yX9_liable.desc).map (fun d => d.parameters.length) = some 3 := by decide +kernel
theorem hy_X9_liableAnew : yX9_liableAnew.cls ≠ "java/lang/invoke/MethodHandle" ∧ yX9_liableAnew.cls ≠ "java/lang/invoke/VarHandle" ∧ (parseMethodDescriptor yX9_liableAnew.desc).map (fun d => d.parameters.length) = some 3 := by decide +kernel
theorem hy_X9_bars : yX9_bars.cls ≠ "java/lang/invoke/MethodHandle" ∧ yX9_bars.cls ≠ "java/lang/invoke/VarHandle" ∧ (parseMethodDescriptor yX9_bars.desc).map (fun d => d.parameters.length) = some 1 := by decide +kernel
theorem hy_X9_meets : yX9_meets.cls ≠ "java/lang/invoke/MethodHandle" ∧ yX9_meets.cls ≠ "java/lang/invoke/VarHandle" ∧ (parseMethodDescriptor yX9_meets.desc).map (fun d => d.parameters.length) = some 2 := by decide +kernel
theorem hy_X9_of : yX9_of.cls ≠ "java/lang/invoke/MethodHandle" ∧ yX9_of.cls ≠ "java/lang/invoke/VarHandle" ∧ (parseMethodDescriptor yX9_of.desc).map (fun d => d.parameters.length) = some 2 := by decide +kernel
theorem hy_X9_metre : yX9_metre.cls ≠ "java/lang/invoke/MethodHandle" ∧ yX9_metre.cls ≠ "java/lang/invoke/VarHandle" ∧ (parseMethodDescriptor yX9_metre.desc).map (fun d => d.parameters.length) = some 3 := by decide +kernel
theorem hy_X9_search : yX9_search.cls ≠ "java/lang/invoke/MethodHandle" ∧ yX9_search.cls ≠ "java/lang/invoke/VarHandle" ∧ (parseMethodDescriptor yX9_search.desc).map (fun d => d.parameters.length) = some 3 := by decide +kernel
theorem hy_X9_queue : yX9_queue.cls ≠ "java/lang/invoke/MethodHandle" ∧ yX9_queue.cls ≠ "java/lang/invoke/VarHandle" ∧ (parseMethodDescriptor yX9_queue.desc).map (fun d => d.parameters.length) = some 1 := by decide +kernel
theorem hy_X9_due : yX9_due.cls ≠ "java/lang/invoke/MethodHandle" ∧ yX9_due.cls ≠ "java/lang/invoke/VarHandle" ∧ (parseMethodDescriptor yX9_due.desc).map (fun d => d.parameters.length) = some 1 := by decide +kernel
theorem hy_X9_money : yX9_money.cls ≠ "java/lang/invoke/MethodHandle" ∧ yX9_money.cls ≠ "java/lang/invoke/VarHandle" ∧ (parseMethodDescriptor yX9_money.desc).map (fun d => d.parameters.length) = some 1 := by decide +kernel
theorem hy_X9_moneyAnew : yX9_moneyAnew.cls ≠ "java/lang/invoke/MethodHandle" ∧ yX9_moneyAnew.cls ≠ "java/lang/invoke/VarHandle" ∧ (parseMethodDescriptor yX9_moneyAnew.desc).map (fun d => d.parameters.length) = some 1 := by decide +kernel
theorem hy_J9_max_7cf53 : yJ9_max_7cf53.cls ≠ "java/lang/invoke/MethodHandle" ∧ yJ9_max_7cf53.cls ≠ "java/lang/invoke/VarHandle" ∧ (parseMethodDescriptor yJ9_max_7cf53.desc).map (fun d => d.parameters.length) = some 2 := by decide +kernel
theorem hy_J9_min_7cf53 : yJ9_min_7cf53.cls ≠ "java/lang/invoke/MethodHandle" ∧ yJ9_min_7cf53.cls ≠ "java/lang/invoke/VarHandle" ∧ (parseMethodDescriptor yJ9_min_7cf53.desc).map (fun d => d.parameters.length) = some 2 := by decide +kernel
theorem hy_Jxa1e45_init_da8c8 : yJxa1e45_init_da8c8.cls ≠ "java/lang/invoke/MethodHandle" ∧ yJxa1e45_init_da8c8.cls ≠ "java/lang/invoke/VarHandle" ∧ (parseMethodDescriptor yJxa1e45_init_da8c8.desc).map (fun d => d.parameters.length) = some 0 := by decide +kernel
theorem hy_Jxc12de_init_da8c8 : yJxc12de_init_da8c8.cls ≠ "java/lang/invoke/MethodHandle" ∧ yJxc12de_init_da8c8.cls ≠ "java/lang/invoke/VarHandle" ∧ (parseMethodDescriptor yJxc12de_init_da8c8.desc).map (fun d => d.parameters.length) = some 0 := by decide +kernel
theorem hy_Jx4a65c_init_da8c8 : yJx4a65c_init_da8c8.cls ≠ "java/lang/invoke/MethodHandle" ∧ yJx4a65c_init_da8c8.cls ≠ "java/lang/invoke/VarHandle" ∧ (parseMethodDescriptor yJx4a65c_init_da8c8.desc).map (fun d => d.parameters.length) = some 0 := by decide +kernel
theorem hy_Jx4a65c_grow_92f84 : yJx4a65c_grow_92f84.cls ≠ "java/lang/invoke/MethodHandle" ∧ yJx4a65c_grow_92f84.cls ≠ "java/lang/invoke/VarHandle" ∧ (parseMethodDescriptor yJx4a65c_grow_92f84.desc).map (fun d => d.parameters.length) = some 1 := by decide +kernel
theorem hy_Jx4a65c_grow_d5877 : yJx4a65c_grow_d5877.cls ≠ "java/lang/invoke/MethodHandle" ∧ yJx4a65c_grow_d5877.cls ≠ "java/lang/invoke/VarHandle" ∧ (parseMethodDescriptor yJx4a65c_grow_d5877.desc).map (fun d => d.parameters.length) = some 0 := by decide +kernel
theorem hy_Jx4a65c_size_8abf5 : yJx4a65c_size_8abf5.cls ≠ "java/lang/invoke/MethodHandle" ∧ yJx4a65c_size_8abf5.cls ≠ "java/lang/invoke/VarHandle" ∧ (parseMethodDescriptor yJx4a65c_size_8abf5.desc).map (fun d => d.parameters.length) = some 0 := by decide +kernel
theorem hy_Jx4a65c_elementData_915e3 : yJx4a65c_elementData_915e3.cls ≠ "java/lang/invoke/MethodHandle" ∧ yJx4a65c_elementData_915e3.cls ≠ "java/lang/invoke/VarHandle" ∧ (parseMethodDescriptor yJx4a65c_elementData_915e3.desc).map (fun d => d.parameters.length) = some 1 := by decide +kernel
theorem hy_Jx4a65c_get_915e3 : yJx4a65c_get_915e3.cls ≠ "java/lang/invoke/MethodHandle" ∧ yJx4a65c_get_915e3.cls ≠ "java/lang/invoke/VarHandle" ∧ (parseMethodDescriptor yJx4a65c_get_915e3.desc).map (fun d => d.parameters.length) = some 1 := by decide +kernel
theorem hy_Jx4a65c_add_72be8 : yJx4a65c_add_72be8.cls ≠ "java/lang/invoke/MethodHandle" ∧ yJx4a65c_add_72be8.cls ≠ "java/lang/invoke/VarHandle" ∧ (parseMethodDescriptor yJx4a65c_add_72be8.desc).map (fun d => d.parameters.length) = some 3 := by decide +kernel
theorem hy_Jx4a65c_add_9ea2d : yJx4a65c_add_9ea2d.cls ≠ "java/lang/invoke/MethodHandle" ∧ yJx4a65c_add_9ea2d.cls ≠ "java/lang/invoke/VarHandle" ∧ (parseMethodDescriptor yJx4a65c_add_9ea2d.desc).map (fun d => d.parameters.length) = some 1 := by decide +kernel
theorem hy_J7_copyOf_1904c : yJ7_copyOf_1904c.cls ≠ "java/lang/invoke/MethodHandle" ∧ yJ7_copyOf_1904c.cls ≠ "java/lang/invoke/VarHandle" ∧ (parseMethodDescriptor yJ7_copyOf_1904c.desc).map (fun d => d.parameters.length) = some 2 := by decide +kernel
theorem hy_J7_copyOf_6403c : yJ7_copyOf_6403c.cls ≠ "java/lang/invoke/MethodHandle" ∧ yJ7_copyOf_6403c.cls ≠ "java/lang/invoke/VarHandle" ∧ (parseMethodDescriptor yJ7_copyOf_6403c.desc).map (fun d => d.parameters.length) = some 3 := by decide +kernel
theorem hy_J7_copyOf_59c91 : yJ7_copyOf_59c91.cls ≠ "java/lang/invoke/MethodHandle" ∧ yJ7_copyOf_59c91.cls ≠ "java/lang/invoke/VarHandle" ∧ (parseMethodDescriptor yJ7_copyOf_59c91.desc).map (fun d => d.parameters.length) = some 2 := by decide +kernel
theorem hy_J15_checkIndex_7cf53 : yJ15_checkIndex_7cf53.cls ≠ "java/lang/invoke/MethodHandle" ∧ yJ15_checkIndex_7cf53.cls ≠ "java/lang/invoke/VarHandle" ∧ (parseMethodDescriptor yJ15_checkIndex_7cf53.desc).map (fun d => d.parameters.length) = some 2 := by decide +kernel
theorem hy_J8_newLength_cabcc : yJ8_newLength_cabcc.cls ≠ "java/lang/invoke/MethodHandle" ∧ yJ8_newLength_cabcc.cls ≠ "java/lang/invoke/VarHandle" ∧ (parseMethodDescriptor yJ8_newLength_cabcc.desc).map (fun d => d.parameters.length) = some 3 := by decide +kernel
theorem hy_J8_hugeLength_7cf53 : yJ8_hugeLength_7cf53.cls ≠ "java/lang/invoke/MethodHandle" ∧ yJ8_hugeLength_7cf53.cls ≠ "java/lang/invoke/VarHandle" ∧ (parseMethodDescriptor yJ8_hugeLength_7cf53.desc).map (fun d => d.parameters.length) = some 2 := by decide +kernel
theorem hy_J3_checkIndex_8e157 : yJ3_checkIndex_8e157.cls ≠ "java/lang/invoke/MethodHandle" ∧ yJ3_checkIndex_8e157.cls ≠ "java/lang/invoke/VarHandle" ∧ (parseMethodDescriptor yJ3_checkIndex_8e157.desc).map (fun d => d.parameters.length) = some 3 := by decide +kernel
theorem hy_L_street : yL_street.cls ≠ "java/lang/invoke/MethodHandle" ∧ yL_street.cls ≠ "java/lang/invoke/VarHandle" ∧ (parseMethodDescriptor yL_street.desc).map (fun d => d.parameters.length) = some 6 := by decide +kernel
theorem hy_L_surface : yL_surface.cls ≠ "java/lang/invoke/MethodHandle" ∧ yL_surface.cls ≠ "java/lang/invoke/VarHandle" ∧ (parseMethodDescriptor yL_surface.desc).map (fun d => d.parameters.length) = some 3 := by decide +kernel
theorem hy_L_embargo : yL_embargo.cls ≠ "java/lang/invoke/MethodHandle" ∧ yL_embargo.cls ≠ "java/lang/invoke/VarHandle" ∧ (parseMethodDescriptor yL_embargo.desc).map (fun d => d.parameters.length) = some 5 := by decide +kernel
theorem hy_L_thing : yL_thing.cls ≠ "java/lang/invoke/MethodHandle" ∧ yL_thing.cls ≠ "java/lang/invoke/VarHandle" ∧ (parseMethodDescriptor yL_thing.desc).map (fun d => d.parameters.length) = some 7 := by decide +kernel
theorem hy_L_record : yL_record.cls ≠ "java/lang/invoke/MethodHandle" ∧ yL_record.cls ≠ "java/lang/invoke/VarHandle" ∧ (parseMethodDescriptor yL_record.desc).map (fun d => d.parameters.length) = some 6 := by decide +kernel
theorem hy_L_lose : yL_lose.cls ≠ "java/lang/invoke/MethodHandle" ∧ yL_lose.cls ≠ "java/lang/invoke/VarHandle" ∧ (parseMethodDescriptor yL_lose.desc).map (fun d => d.parameters.length) = some 3 := by decide +kernel
theorem hy_L_survey : yL_survey.cls ≠ "java/lang/invoke/MethodHandle" ∧ yL_survey.cls ≠ "java/lang/invoke/VarHandle" ∧ (parseMethodDescriptor yL_survey.desc).map (fun d => d.parameters.length) = some 3 := by decide +kernel
theorem hy_L_trial : yL_trial.cls ≠ "java/lang/invoke/MethodHandle" ∧ yL_trial.cls ≠ "java/lang/invoke/VarHandle" ∧ (parseMethodDescriptor yL_trial.desc).map (fun d => d.parameters.length) = some 4 := by decide +kernel
theorem hy_L_ask : yL_ask.cls ≠ "java/lang/invoke/MethodHandle" ∧ yL_ask.cls ≠ "java/lang/invoke/VarHandle" ∧ (parseMethodDescriptor yL_ask.desc).map (fun d => d.parameters.length) = some 10 := by decide +kernel
theorem hy_L_grant : yL_grant.cls ≠ "java/lang/invoke/MethodHandle" ∧ yL_grant.cls ≠ "java/lang/invoke/VarHandle" ∧ (parseMethodDescriptor yL_grant.desc).map (fun d => d.parameters.length) = some 4 := by decide +kernel
theorem hy_L_refuse : yL_refuse.cls ≠ "java/lang/invoke/MethodHandle" ∧ yL_refuse.cls ≠ "java/lang/invoke/VarHandle" ∧ (parseMethodDescriptor yL_refuse.desc).map (fun d => d.parameters.length) = some 3 := by decide +kernel
theorem hy_L_vary : yL_vary.cls ≠ "java/lang/invoke/MethodHandle" ∧ yL_vary.cls ≠ "java/lang/invoke/VarHandle" ∧ (parseMethodDescriptor yL_vary.desc).map (fun d => d.parameters.length) = some 4 := by decide +kernel
theorem hy_L_exempt : yL_exempt.cls ≠ "java/lang/invoke/MethodHandle" ∧ yL_exempt.cls ≠ "java/lang/invoke/VarHandle" ∧ (parseMethodDescriptor yL_exempt.desc).map (fun d => d.parameters.length) = some 3 := by decide +kernel
theorem hy_L_agree : yL_agree.cls ≠ "java/lang/invoke/MethodHandle" ∧ yL_agree.cls ≠ "java/lang/invoke/VarHandle" ∧ (parseMethodDescriptor yL_agree.desc).map (fun d => d.parameters.length) = some 4 := by decide +kernel
theorem hy_L_start : yL_start.cls ≠ "java/lang/invoke/MethodHandle" ∧ yL_start.cls ≠ "java/lang/invoke/VarHandle" ∧ (parseMethodDescriptor yL_start.desc).map (fun d => d.parameters.length) = some 3 := by decide +kernel
theorem hy_L_open : yL_open.cls ≠ "java/lang/invoke/MethodHandle" ∧ yL_open.cls ≠ "java/lang/invoke/VarHandle" ∧ (parseMethodDescriptor yL_open.desc).map (fun d => d.parameters.length) = some 4 := by decide +kernel
theorem hy_L_fill : yL_fill.cls ≠ "java/lang/invoke/MethodHandle" ∧ yL_fill.cls ≠ "java/lang/invoke/VarHandle" ∧ (parseMethodDescriptor yL_fill.desc).map (fun d => d.parameters.length) = some 5 := by decide +kernel
theorem hy_L_plate : yL_plate.cls ≠ "java/lang/invoke/MethodHandle" ∧ yL_plate.cls ≠ "java/lang/invoke/VarHandle" ∧ (parseMethodDescriptor yL_plate.desc).map (fun d => d.parameters.length) = some 3 := by decide +kernel
theorem hy_L_extend : yL_extend.cls ≠ "java/lang/invoke/MethodHandle" ∧ yL_extend.cls ≠ "java/lang/invoke/VarHandle" ∧ (parseMethodDescriptor yL_extend.desc).map (fun d => d.parameters.length) = some 3 := by decide +kernel
theorem hy_L_stop : yL_stop.cls ≠ "java/lang/invoke/MethodHandle" ∧ yL_stop.cls ≠ "java/lang/invoke/VarHandle" ∧ (parseMethodDescriptor yL_stop.desc).map (fun d => d.parameters.length) = some 3 := by decide +kernel
theorem hy_L_pass : yL_pass.cls ≠ "java/lang/invoke/MethodHandle" ∧ yL_pass.cls ≠ "java/lang/invoke/VarHandle" ∧ (parseMethodDescriptor yL_pass.desc).map (fun d => d.parameters.length) = some 3 := by decide +kernel
theorem hy_L_defect : yL_defect.cls ≠ "java/lang/invoke/MethodHandle" ∧ yL_defect.cls ≠ "java/lang/invoke/VarHandle" ∧ (parseMethodDescriptor yL_defect.desc).map (fun d => d.parameters.length) = some 5 := by decide +kernel
theorem hy_L_core : yL_core.cls ≠ "java/lang/invoke/MethodHandle" ∧ yL_core.cls ≠ "java/lang/invoke/VarHandle" ∧ (parseMethodDescriptor yL_core.desc).map (fun d => d.parameters.length) = some 4 := by decide +kernel
theorem hy_L_liable : yL_liable.cls ≠ "java/lang/invoke/MethodHandle" ∧ yL_liable.cls ≠ "java/lang/invoke/VarHandle" ∧ (parseMethodDescriptor yL_liable.desc).map (fun d => d.parameters.length) = some 5 := by decide +kernel
theorem hy_L_liableAnew : yL_liableAnew.cls ≠ "java/lang/invoke/MethodHandle" ∧ yL_liableAnew.cls ≠ "java/lang/invoke/VarHandle" ∧ (parseMethodDescriptor yL_liableAnew.desc).map (fun d => d.parameters.length) = some 5 := by decide +kernel
theorem hy_L_bars : yL_bars.cls ≠ "java/lang/invoke/MethodHandle" ∧ yL_bars.cls ≠ "java/lang/invoke/VarHandle" ∧ (parseMethodDescriptor yL_bars.desc).map (fun d => d.parameters.length) = some 3 := by decide +kernel
theorem hy_L_meets : yL_meets.cls ≠ "java/lang/invoke/MethodHandle" ∧ yL_meets.cls ≠ "java/lang/invoke/VarHandle" ∧ (parseMethodDescriptor yL_meets.desc).map (fun d => d.parameters.length) = some 4 := by decide +kernel
theorem hy_L_of : yL_of.cls ≠ "java/lang/invoke/MethodHandle" ∧ yL_of.cls ≠ "java/lang/invoke/VarHandle" ∧ (parseMethodDescriptor yL_of.desc).map (fun d => d.parameters.length) = some 4 := by decide +kernel
theorem hy_L_metre : yL_metre.cls ≠ "java/lang/invoke/MethodHandle" ∧ yL_metre.cls ≠ "java/lang/invoke/VarHandle" ∧ (parseMethodDescriptor yL_metre.desc).map (fun d => d.parameters.length) = some 5 := by decide +kernel
theorem hy_L_search : yL_search.cls ≠ "java/lang/invoke/MethodHandle" ∧ yL_search.cls ≠ "java/lang/invoke/VarHandle" ∧ (parseMethodDescriptor yL_search.desc).map (fun d => d.parameters.length) = some 5 := by decide +kernel
theorem hy_L_queue : yL_queue.cls ≠ "java/lang/invoke/MethodHandle" ∧ yL_queue.cls ≠ "java/lang/invoke/VarHandle" ∧ (parseMethodDescriptor yL_queue.desc).map (fun d => d.parameters.length) = some 3 := by decide +kernel
theorem hy_L_due : yL_due.cls ≠ "java/lang/invoke/MethodHandle" ∧ yL_due.cls ≠ "java/lang/invoke/VarHandle" ∧ (parseMethodDescriptor yL_due.desc).map (fun d => d.parameters.length) = some 3 := by decide +kernel
theorem hy_L_money : yL_money.cls ≠ "java/lang/invoke/MethodHandle" ∧ yL_money.cls ≠ "java/lang/invoke/VarHandle" ∧ (parseMethodDescriptor yL_money.desc).map (fun d => d.parameters.length) = some 3 := by decide +kernel
theorem hy_L_moneyAnew : yL_moneyAnew.cls ≠ "java/lang/invoke/MethodHandle" ∧ yL_moneyAnew.cls ≠ "java/lang/invoke/VarHandle" ∧ (parseMethodDescriptor yL_moneyAnew.desc).map (fun d => d.parameters.length) = some 3 := by decide +kernel
