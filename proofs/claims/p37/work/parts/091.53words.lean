/-- the good words of the tables: every method's list is its own code and these -/
def GW : List Cond := lw_tbl.filter goodWord
def Wm (y : MethodName) (b : ByteArray) (n : Nat) (r : Option FieldType) : List Cond := .code y b n r :: GW
theorem mGW {w : Cond} (h : w ∈ lw_tbl) (g : goodWord w = true) : w ∈ GW := List.mem_filter.mpr ⟨h, g⟩
theorem GW_good {w : Cond} (h : w ∈ GW) : goodWord w = true := (List.mem_filter.mp h).2
theorem GW_tbl {w : Cond} (h : w ∈ GW) : w ∈ lw_tbl := (List.mem_filter.mp h).1
theorem tb0 {w : Cond} (h : w ∈ k2_sels lw_privs) : w ∈ lw_tbl := List.mem_append_left _ h
theorem tb1 {w : Cond} (h : w ∈ tables_1_1) : w ∈ lw_tbl := List.mem_append_right _ (List.mem_append_left _ h)
theorem tb2 {w : Cond} (h : w ∈ tables_1_2) : w ∈ lw_tbl := List.mem_append_right _ (List.mem_append_right _ (List.mem_append_left _ h))
theorem tb3 {w : Cond} (h : w ∈ tables_1_3) : w ∈ lw_tbl := List.mem_append_right _ (List.mem_append_right _ (List.mem_append_right _ (List.mem_append_left _ h)))
theorem tb4 {w : Cond} (h : w ∈ tables_1_4) : w ∈ lw_tbl := List.mem_append_right _ (List.mem_append_right _ (List.mem_append_right _ (List.mem_append_right _ (List.mem_append_left _ h))))
theorem tb5 {w : Cond} (h : w ∈ tables_1_5) : w ∈ lw_tbl := List.mem_append_right _ (List.mem_append_right _ (List.mem_append_right _ (List.mem_append_right _ (List.mem_append_right _ (h)))))
theorem tw_1_0 : (Cond.initialized "TrenchboardLaw") ∈ GW := mGW (tb1 (List.mem_of_getElem? (i := 0) rfl)) rfl
theorem tw_1_1 : (Cond.initialized "Trenchboard") ∈ GW := mGW (tb1 (List.mem_of_getElem? (i := 1) rfl)) rfl
theorem tw_1_2 : (Cond.initialized "Trenchboard$Ledger") ∈ GW := mGW (tb1 (List.mem_of_getElem? (i := 2) rfl)) rfl
theorem tw_1_3 : (Cond.initialized "java/util/AbstractCollection") ∈ GW := mGW (tb1 (List.mem_of_getElem? (i := 3) rfl)) rfl
theorem tw_1_4 : (Cond.initialized "java/util/AbstractList") ∈ GW := mGW (tb1 (List.mem_of_getElem? (i := 4) rfl)) rfl
theorem tw_1_5 : (Cond.initialized "java/util/ArrayList") ∈ GW := mGW (tb1 (List.mem_of_getElem? (i := 5) rfl)) rfl
theorem tw_1_6 : (Cond.initialized "Trenchboard$Party") ∈ GW := mGW (tb1 (List.mem_of_getElem? (i := 6) rfl)) rfl
theorem tw_1_7 : (Cond.initialized "java/lang/Throwable") ∈ GW := mGW (tb1 (List.mem_of_getElem? (i := 7) rfl)) rfl
theorem tw_1_8 : (Cond.initialized "java/lang/Exception") ∈ GW := mGW (tb1 (List.mem_of_getElem? (i := 8) rfl)) rfl
theorem tw_1_9 : (Cond.initialized "java/lang/RuntimeException") ∈ GW := mGW (tb1 (List.mem_of_getElem? (i := 9) rfl)) rfl
theorem tw_1_10 : (Cond.initialized "java/lang/IndexOutOfBoundsException") ∈ GW := mGW (tb1 (List.mem_of_getElem? (i := 10) rfl)) rfl
theorem tw_1_11 : (Cond.initialized "java/lang/IllegalArgumentException") ∈ GW := mGW (tb1 (List.mem_of_getElem? (i := 11) rfl)) rfl
theorem tw_1_12 : (Cond.initialized "java/lang/IllegalStateException") ∈ GW := mGW (tb1 (List.mem_of_getElem? (i := 12) rfl)) rfl
theorem tw_1_13 : (Cond.initialized "Trenchboard$Street") ∈ GW := mGW (tb1 (List.mem_of_getElem? (i := 13) rfl)) rfl
theorem tw_1_14 : (Cond.initialized "java/lang/Math") ∈ GW := mGW (tb1 (List.mem_of_getElem? (i := 14) rfl)) rfl
theorem tw_1_15 : (Cond.initialized "Trenchboard$Metre") ∈ GW := mGW (tb1 (List.mem_of_getElem? (i := 15) rfl)) rfl
theorem tw_1_16 : (Cond.initialized "Trenchboard$Telling") ∈ GW := mGW (tb1 (List.mem_of_getElem? (i := 16) rfl)) rfl
theorem tw_1_17 : (Cond.initialized "jdk/internal/util/ArraysSupport") ∈ GW := mGW (tb1 (List.mem_of_getElem? (i := 17) rfl)) rfl
theorem tw_1_18 : (Cond.initialized "java/util/Arrays") ∈ GW := mGW (tb1 (List.mem_of_getElem? (i := 18) rfl)) rfl
theorem tw_1_19 : (Cond.initialized "java/lang/System") ∈ GW := mGW (tb1 (List.mem_of_getElem? (i := 19) rfl)) rfl
theorem tw_1_20 : (Cond.initialized "Trenchboard$Thing") ∈ GW := mGW (tb1 (List.mem_of_getElem? (i := 20) rfl)) rfl
theorem tw_1_21 : (Cond.initialized "Trenchboard$Works") ∈ GW := mGW (tb1 (List.mem_of_getElem? (i := 21) rfl)) rfl
theorem tw_1_22 : (Cond.initialized "Trenchboard$Fill") ∈ GW := mGW (tb1 (List.mem_of_getElem? (i := 22) rfl)) rfl
theorem tw_1_23 : (Cond.initialized "java/util/Objects") ∈ GW := mGW (tb1 (List.mem_of_getElem? (i := 23) rfl)) rfl
theorem tw_1_24 : (Cond.initialized "jdk/internal/util/Preconditions") ∈ GW := mGW (tb1 (List.mem_of_getElem? (i := 24) rfl)) rfl
theorem tw_1_25 : (Cond.classLink "TrenchboardLaw" 10 "Trenchboard") ∈ GW := mGW (tb1 (List.mem_of_getElem? (i := 25) rfl)) rfl
theorem tw_1_26 : (Cond.instantiable "Trenchboard" 10) ∈ GW := mGW (tb1 (List.mem_of_getElem? (i := 26) rfl)) rfl
theorem tw_1_27 : (Cond.methodLink "TrenchboardLaw" 161 yX8_init) ∈ GW := mGW (tb1 (List.mem_of_getElem? (i := 27) rfl)) rfl
theorem tw_1_28 : (Cond.instanceMethod yX8_init) ∈ GW := mGW (tb1 (List.mem_of_getElem? (i := 28) rfl)) rfl
theorem tw_1_29 : (Cond.code yX8_init prog_1_method_1_code 2 (Option.none : Option Jvm.ClassFile.FieldType)) ∈ GW := mGW (tb1 (List.mem_of_getElem? (i := 29) rfl)) rfl
theorem tw_1_30 : (Cond.methodLink "Trenchboard" 1 ⟨"java/lang/Object", "<init>", "()V"⟩) ∈ GW := mGW (tb1 (List.mem_of_getElem? (i := 30) rfl)) rfl
theorem tw_1_31 : (Cond.instanceMethod ⟨"java/lang/Object", "<init>", "()V"⟩) ∈ GW := mGW (tb1 (List.mem_of_getElem? (i := 31) rfl)) rfl
theorem tw_1_33 : (Cond.classLink "Trenchboard" 9 "Trenchboard$Street") ∈ GW := mGW (tb1 (List.mem_of_getElem? (i := 33) rfl)) rfl
theorem tw_1_34 : (Cond.arrayOver (Jvm.ClassFile.FieldType.object "Trenchboard$Street")) ∈ lw_tbl := tb1 (List.mem_of_getElem? (i := 34) rfl)
theorem tw_1_35 : (Cond.classLink "Trenchboard" 15 "Trenchboard$Thing") ∈ GW := mGW (tb1 (List.mem_of_getElem? (i := 35) rfl)) rfl
theorem tw_1_36 : (Cond.arrayOver (Jvm.ClassFile.FieldType.object "Trenchboard$Thing")) ∈ lw_tbl := tb1 (List.mem_of_getElem? (i := 36) rfl)
theorem tw_1_37 : (Cond.classLink "Trenchboard" 21 "Trenchboard$Works") ∈ GW := mGW (tb1 (List.mem_of_getElem? (i := 37) rfl)) rfl
theorem tw_1_38 : (Cond.arrayOver (Jvm.ClassFile.FieldType.object "Trenchboard$Works")) ∈ lw_tbl := tb1 (List.mem_of_getElem? (i := 38) rfl)
theorem tw_1_39 : (Cond.classLink "Trenchboard" 27 "Trenchboard$Party") ∈ GW := mGW (tb1 (List.mem_of_getElem? (i := 39) rfl)) rfl
theorem tw_1_40 : (Cond.arrayOver (Jvm.ClassFile.FieldType.object "Trenchboard$Party")) ∈ lw_tbl := tb1 (List.mem_of_getElem? (i := 40) rfl)
theorem tw_1_41 : (Cond.classLink "Trenchboard" 33 "Trenchboard$Ledger") ∈ GW := mGW (tb1 (List.mem_of_getElem? (i := 41) rfl)) rfl
theorem tw_1_42 : (Cond.instantiable "Trenchboard$Ledger" 2) ∈ GW := mGW (tb1 (List.mem_of_getElem? (i := 42) rfl)) rfl
theorem tw_1_43 : (Cond.methodLinkNest "Trenchboard" 35 yX1_init "Trenchboard") ∈ lw_tbl := tb1 (List.mem_of_getElem? (i := 43) rfl)
theorem tw_1_44 : (Cond.instanceMethod yX1_init) ∈ GW := mGW (tb1 (List.mem_of_getElem? (i := 44) rfl)) rfl
theorem tw_1_45 : (Cond.code yX1_init prog_3_method_1_code 1 (Option.none : Option Jvm.ClassFile.FieldType)) ∈ GW := mGW (tb1 (List.mem_of_getElem? (i := 45) rfl)) rfl
theorem tw_1_46 : (Cond.methodLink "Trenchboard$Ledger" 1 ⟨"java/lang/Object", "<init>", "()V"⟩) ∈ GW := mGW (tb1 (List.mem_of_getElem? (i := 46) rfl)) rfl
theorem tw_1_47 : (Cond.fieldLink "Trenchboard$Ledger" 7 "Trenchboard$Ledger" "rows" "[I") ∈ GW := mGW (tb1 (List.mem_of_getElem? (i := 47) rfl)) rfl
theorem tw_1_48 : (Cond.fieldLink "Trenchboard$Ledger" 13 "Trenchboard$Ledger" "size" "I") ∈ GW := mGW (tb1 (List.mem_of_getElem? (i := 48) rfl)) rfl
theorem tw_1_49 : (Cond.lays "Trenchboard$Ledger" "Trenchboard$Ledger" "rows" "[I") ∈ GW := mGW (tb1 (List.mem_of_getElem? (i := 49) rfl)) rfl
theorem tw_1_51 : (Cond.lays "Trenchboard$Ledger" "Trenchboard$Ledger" "size" "I") ∈ GW := mGW (tb1 (List.mem_of_getElem? (i := 51) rfl)) rfl
theorem tw_1_53 : (Cond.superclass "Trenchboard$Ledger" "java/lang/Object") ∈ lw_tbl := tb1 (List.mem_of_getElem? (i := 53) rfl)
theorem tw_1_54 : (Cond.arrayClass Jvm.ClassFile.FieldType.int) ∈ GW := mGW (tb1 (List.mem_of_getElem? (i := 54) rfl)) rfl
theorem tw_1_55 : (Cond.classLink "Trenchboard" 40 "java/util/ArrayList") ∈ GW := mGW (tb1 (List.mem_of_getElem? (i := 55) rfl)) rfl
theorem tw_1_56 : (Cond.instantiable "java/util/ArrayList" 3) ∈ GW := mGW (tb1 (List.mem_of_getElem? (i := 56) rfl)) rfl
theorem tw_1_57 : (Cond.methodLink "Trenchboard" 42 yJx4a65c_init_da8c8) ∈ GW := mGW (tb1 (List.mem_of_getElem? (i := 57) rfl)) rfl
theorem tw_1_58 : (Cond.instanceMethod yJx4a65c_init_da8c8) ∈ GW := mGW (tb1 (List.mem_of_getElem? (i := 58) rfl)) rfl
theorem tw_1_59 : (Cond.code yJx4a65c_init_da8c8 prog_26_method_2_code 1 (Option.none : Option Jvm.ClassFile.FieldType)) ∈ GW := mGW (tb1 (List.mem_of_getElem? (i := 59) rfl)) rfl
theorem tw_1_60 : (Cond.methodLink "java/util/ArrayList" 1 yJxc12de_init_da8c8) ∈ GW := mGW (tb1 (List.mem_of_getElem? (i := 60) rfl)) rfl
theorem tw_1_61 : (Cond.instanceMethod yJxc12de_init_da8c8) ∈ GW := mGW (tb1 (List.mem_of_getElem? (i := 61) rfl)) rfl
theorem tw_1_62 : (Cond.code yJxc12de_init_da8c8 prog_25_method_1_code 1 (Option.none : Option Jvm.ClassFile.FieldType)) ∈ GW := mGW (tb1 (List.mem_of_getElem? (i := 62) rfl)) rfl
theorem tw_1_63 : (Cond.methodLink "java/util/AbstractList" 1 yJxa1e45_init_da8c8) ∈ GW := mGW (tb1 (List.mem_of_getElem? (i := 63) rfl)) rfl
theorem tw_1_64 : (Cond.instanceMethod yJxa1e45_init_da8c8) ∈ GW := mGW (tb1 (List.mem_of_getElem? (i := 64) rfl)) rfl
theorem tw_1_65 : (Cond.code yJxa1e45_init_da8c8 prog_24_method_1_code 1 (Option.none : Option Jvm.ClassFile.FieldType)) ∈ GW := mGW (tb1 (List.mem_of_getElem? (i := 65) rfl)) rfl
theorem tw_1_66 : (Cond.methodLink "java/util/AbstractCollection" 1 ⟨"java/lang/Object", "<init>", "()V"⟩) ∈ GW := mGW (tb1 (List.mem_of_getElem? (i := 66) rfl)) rfl
theorem tw_1_67 : (Cond.fieldLink "java/util/ArrayList" 39 "java/util/ArrayList" "DEFAULTCAPACITY_EMPTY_ELEMENTDATA" "[Ljava/lang/Object;") ∈ GW := mGW (tb1 (List.mem_of_getElem? (i := 67) rfl)) rfl
theorem tw_1_68 : (Cond.laysStatic "java/util/ArrayList" "DEFAULTCAPACITY_EMPTY_ELEMENTDATA" "[Ljava/lang/Object;") ∈ lw_tbl := tb1 (List.mem_of_getElem? (i := 68) rfl)
theorem tw_1_69 : (Cond.fieldLink "java/util/ArrayList" 9 "java/util/ArrayList" "elementData" "[Ljava/lang/Object;") ∈ GW := mGW (tb1 (List.mem_of_getElem? (i := 69) rfl)) rfl
theorem tw_1_70 : (Cond.fieldLink "java/util/ArrayList" 48 "java/util/ArrayList" "size" "I") ∈ GW := mGW (tb1 (List.mem_of_getElem? (i := 70) rfl)) rfl
theorem tw_1_71 : (Cond.fieldLink "java/util/AbstractList" 7 "java/util/AbstractList" "modCount" "I") ∈ GW := mGW (tb1 (List.mem_of_getElem? (i := 71) rfl)) rfl
theorem tw_1_72 : (Cond.fieldLink "java/util/ArrayList" 63 "java/util/ArrayList" "modCount" "I") ∈ GW := mGW (tb1 (List.mem_of_getElem? (i := 72) rfl)) rfl
theorem tw_1_73 : (Cond.sameField "java/util/ArrayList" "java/util/AbstractList" "modCount" "I") ∈ GW := mGW (tb1 (List.mem_of_getElem? (i := 73) rfl)) rfl
theorem tw_1_74 : (Cond.lays "java/util/ArrayList" "java/util/ArrayList" "elementData" "[Ljava/lang/Object;") ∈ GW := mGW (tb1 (List.mem_of_getElem? (i := 74) rfl)) rfl
theorem tw_1_76 : (Cond.lays "java/util/ArrayList" "java/util/ArrayList" "size" "I") ∈ GW := mGW (tb1 (List.mem_of_getElem? (i := 76) rfl)) rfl
theorem tw_1_78 : (Cond.lays "java/util/ArrayList" "java/util/AbstractList" "modCount" "I") ∈ GW := mGW (tb1 (List.mem_of_getElem? (i := 78) rfl)) rfl
theorem tw_1_80 : (Cond.superclass "java/util/ArrayList" "java/util/AbstractList") ∈ lw_tbl := tb1 (List.mem_of_getElem? (i := 80) rfl)
theorem tw_1_81 : (Cond.instantiable "Trenchboard$Party" 4) ∈ GW := mGW (tb1 (List.mem_of_getElem? (i := 81) rfl)) rfl
theorem tw_1_82 : (Cond.methodLinkNest "Trenchboard" 47 yX3_init "Trenchboard") ∈ lw_tbl := tb1 (List.mem_of_getElem? (i := 82) rfl)
theorem tw_1_83 : (Cond.instanceMethod yX3_init) ∈ GW := mGW (tb1 (List.mem_of_getElem? (i := 83) rfl)) rfl
theorem tw_1_84 : (Cond.code yX3_init prog_5_method_1_code 1 (Option.none : Option Jvm.ClassFile.FieldType)) ∈ GW := mGW (tb1 (List.mem_of_getElem? (i := 84) rfl)) rfl
theorem tw_1_85 : (Cond.methodLink "Trenchboard$Party" 1 ⟨"java/lang/Object", "<init>", "()V"⟩) ∈ GW := mGW (tb1 (List.mem_of_getElem? (i := 85) rfl)) rfl
theorem tw_1_86 : (Cond.fieldLink "Trenchboard" 442 "Trenchboard$Party" "balance" "J") ∈ GW := mGW (tb1 (List.mem_of_getElem? (i := 86) rfl)) rfl
theorem tw_1_87 : (Cond.fieldLink "Trenchboard" 436 "Trenchboard$Party" "fills" "I") ∈ GW := mGW (tb1 (List.mem_of_getElem? (i := 87) rfl)) rfl
theorem tw_1_88 : (Cond.fieldLink "Trenchboard" 430 "Trenchboard$Party" "faults" "I") ∈ GW := mGW (tb1 (List.mem_of_getElem? (i := 88) rfl)) rfl
theorem tw_1_89 : (Cond.fieldLink "Trenchboard" 437 "Trenchboard$Party" "cores" "I") ∈ GW := mGW (tb1 (List.mem_of_getElem? (i := 89) rfl)) rfl
theorem tw_1_90 : (Cond.lays "Trenchboard$Party" "Trenchboard$Party" "balance" "J") ∈ GW := mGW (tb1 (List.mem_of_getElem? (i := 90) rfl)) rfl
theorem tw_1_92 : (Cond.lays "Trenchboard$Party" "Trenchboard$Party" "fills" "I") ∈ GW := mGW (tb1 (List.mem_of_getElem? (i := 92) rfl)) rfl
theorem tw_1_94 : (Cond.lays "Trenchboard$Party" "Trenchboard$Party" "faults" "I") ∈ GW := mGW (tb1 (List.mem_of_getElem? (i := 94) rfl)) rfl
theorem tw_1_96 : (Cond.lays "Trenchboard$Party" "Trenchboard$Party" "cores" "I") ∈ GW := mGW (tb1 (List.mem_of_getElem? (i := 96) rfl)) rfl
theorem tw_1_98 : (Cond.superclass "Trenchboard$Party" "java/lang/Object") ∈ lw_tbl := tb1 (List.mem_of_getElem? (i := 98) rfl)
theorem tw_1_99 : (Cond.fieldLink "Trenchboard" 11 "Trenchboard" "streets" "[LTrenchboard$Street;") ∈ GW := mGW (tb1 (List.mem_of_getElem? (i := 99) rfl)) rfl
theorem tw_1_100 : (Cond.fieldLink "Trenchboard" 64 "Trenchboard" "streetCount" "I") ∈ GW := mGW (tb1 (List.mem_of_getElem? (i := 100) rfl)) rfl
theorem tw_1_101 : (Cond.fieldLink "Trenchboard" 17 "Trenchboard" "things" "[LTrenchboard$Thing;") ∈ GW := mGW (tb1 (List.mem_of_getElem? (i := 101) rfl)) rfl
theorem tw_1_102 : (Cond.fieldLink "Trenchboard" 143 "Trenchboard" "thingCount" "I") ∈ GW := mGW (tb1 (List.mem_of_getElem? (i := 102) rfl)) rfl
theorem tw_1_103 : (Cond.fieldLink "Trenchboard" 23 "Trenchboard" "allWorks" "[LTrenchboard$Works;") ∈ GW := mGW (tb1 (List.mem_of_getElem? (i := 103) rfl)) rfl
theorem tw_1_104 : (Cond.fieldLink "Trenchboard" 203 "Trenchboard" "worksCount" "I") ∈ GW := mGW (tb1 (List.mem_of_getElem? (i := 104) rfl)) rfl
theorem tw_1_105 : (Cond.fieldLink "Trenchboard" 29 "Trenchboard" "parties" "[LTrenchboard$Party;") ∈ GW := mGW (tb1 (List.mem_of_getElem? (i := 105) rfl)) rfl
theorem tw_1_106 : (Cond.fieldLink "Trenchboard" 36 "Trenchboard" "ledger" "LTrenchboard$Ledger;") ∈ GW := mGW (tb1 (List.mem_of_getElem? (i := 106) rfl)) rfl
theorem tw_1_107 : (Cond.fieldLink "Trenchboard" 43 "Trenchboard" "tellings" "Ljava/util/ArrayList;") ∈ GW := mGW (tb1 (List.mem_of_getElem? (i := 107) rfl)) rfl
theorem tw_1_108 : (Cond.fieldLink "Trenchboard" 352 "Trenchboard" "hour" "I") ∈ GW := mGW (tb1 (List.mem_of_getElem? (i := 108) rfl)) rfl
theorem tw_1_109 : (Cond.laysFinal "Trenchboard" "Trenchboard" "streets" "[LTrenchboard$Street;") ∈ GW := mGW (tb1 (List.mem_of_getElem? (i := 109) rfl)) rfl
theorem tw_1_111 : (Cond.lays "Trenchboard" "Trenchboard" "streetCount" "I") ∈ GW := mGW (tb1 (List.mem_of_getElem? (i := 111) rfl)) rfl
theorem tw_1_113 : (Cond.laysFinal "Trenchboard" "Trenchboard" "things" "[LTrenchboard$Thing;") ∈ GW := mGW (tb1 (List.mem_of_getElem? (i := 113) rfl)) rfl
theorem tw_1_115 : (Cond.lays "Trenchboard" "Trenchboard" "thingCount" "I") ∈ GW := mGW (tb1 (List.mem_of_getElem? (i := 115) rfl)) rfl
theorem tw_1_117 : (Cond.laysFinal "Trenchboard" "Trenchboard" "allWorks" "[LTrenchboard$Works;") ∈ GW := mGW (tb1 (List.mem_of_getElem? (i := 117) rfl)) rfl
theorem tw_1_119 : (Cond.lays "Trenchboard" "Trenchboard" "worksCount" "I") ∈ GW := mGW (tb1 (List.mem_of_getElem? (i := 119) rfl)) rfl
theorem tw_1_121 : (Cond.laysFinal "Trenchboard" "Trenchboard" "parties" "[LTrenchboard$Party;") ∈ GW := mGW (tb1 (List.mem_of_getElem? (i := 121) rfl)) rfl
theorem tw_1_123 : (Cond.laysFinal "Trenchboard" "Trenchboard" "ledger" "LTrenchboard$Ledger;") ∈ GW := mGW (tb1 (List.mem_of_getElem? (i := 123) rfl)) rfl
theorem tw_1_125 : (Cond.laysFinal "Trenchboard" "Trenchboard" "tellings" "Ljava/util/ArrayList;") ∈ GW := mGW (tb1 (List.mem_of_getElem? (i := 125) rfl)) rfl
theorem tw_1_127 : (Cond.lays "Trenchboard" "Trenchboard" "hour" "I") ∈ GW := mGW (tb1 (List.mem_of_getElem? (i := 127) rfl)) rfl
theorem tw_1_129 : (Cond.superclass "Trenchboard" "java/lang/Object") ∈ lw_tbl := tb1 (List.mem_of_getElem? (i := 129) rfl)
theorem tw_1_130 : (Cond.methodLink "TrenchboardLaw" 84 yX8_liable) ∈ GW := mGW (tb1 (List.mem_of_getElem? (i := 130) rfl)) rfl
theorem tw_1_131 : (Cond.instanceMethod yX8_liable) ∈ GW := mGW (tb1 (List.mem_of_getElem? (i := 131) rfl)) rfl
theorem tw_1_132 : (Cond.selects "Trenchboard" yX8_liable yX8_liable) ∈ GW := mGW (tb1 (List.mem_of_getElem? (i := 132) rfl)) rfl
theorem tw_1_133 : (Cond.code yX8_liable prog_1_method_25_code 6 (Option.some Jvm.ClassFile.FieldType.int)) ∈ GW := mGW (tb1 (List.mem_of_getElem? (i := 133) rfl)) rfl
theorem tw_1_134 : (Cond.methodLink "Trenchboard" 48 yX8_streetAt) ∈ GW := mGW (tb1 (List.mem_of_getElem? (i := 134) rfl)) rfl
theorem tw_1_136 : (Cond.instanceMethod yX8_streetAt) ∈ GW := mGW (tb1 (List.mem_of_getElem? (i := 136) rfl)) rfl
theorem tw_1_137 : (Cond.code yX8_streetAt prog_1_method_36_code 2 (Option.some (Jvm.ClassFile.FieldType.object "Trenchboard$Street"))) ∈ GW := mGW (tb1 (List.mem_of_getElem? (i := 137) rfl)) rfl
theorem tw_1_138 : (Cond.methodLink "Trenchboard" 135 yX4_metreAt) ∈ GW := mGW (tb1 (List.mem_of_getElem? (i := 138) rfl)) rfl
theorem tw_1_139 : (Cond.instanceMethod yX4_metreAt) ∈ GW := mGW (tb1 (List.mem_of_getElem? (i := 139) rfl)) rfl
theorem tw_1_140 : (Cond.selects "Trenchboard$Street" yX4_metreAt yX4_metreAt) ∈ GW := mGW (tb1 (List.mem_of_getElem? (i := 140) rfl)) rfl
theorem tw_1_141 : (Cond.code yX4_metreAt prog_6_method_2_code 2 (Option.some (Jvm.ClassFile.FieldType.object "Trenchboard$Metre"))) ∈ GW := mGW (tb1 (List.mem_of_getElem? (i := 141) rfl)) rfl
theorem tw_1_142 : (Cond.classLink "Trenchboard" 52 "java/lang/IndexOutOfBoundsException") ∈ GW := mGW (tb1 (List.mem_of_getElem? (i := 142) rfl)) rfl
theorem tw_1_143 : (Cond.instantiable "java/lang/IndexOutOfBoundsException" 6) ∈ GW := mGW (tb1 (List.mem_of_getElem? (i := 143) rfl)) rfl
theorem tw_1_144 : (Cond.castable "java/lang/IndexOutOfBoundsException" "java/lang/IndexOutOfBoundsException") ∈ lw_tbl := tb1 (List.mem_of_getElem? (i := 144) rfl)
theorem tw_1_145 : (Cond.declares ⟨"java/lang/RuntimeException", "<init>", "()V"⟩) ∈ lw_tbl := tb1 (List.mem_of_getElem? (i := 145) rfl)
theorem tw_1_146 : (Cond.declares ⟨"java/lang/RuntimeException", "<init>", "(Ljava/lang/String;)V"⟩) ∈ lw_tbl := tb1 (List.mem_of_getElem? (i := 146) rfl)
theorem tw_1_147 : (Cond.declares ⟨"java/lang/Exception", "<init>", "()V"⟩) ∈ lw_tbl := tb1 (List.mem_of_getElem? (i := 147) rfl)
theorem tw_1_148 : (Cond.declares ⟨"java/lang/Exception", "<init>", "(Ljava/lang/String;)V"⟩) ∈ lw_tbl := tb1 (List.mem_of_getElem? (i := 148) rfl)
theorem tw_1_149 : (Cond.declares ⟨"java/lang/Throwable", "<init>", "()V"⟩) ∈ lw_tbl := tb1 (List.mem_of_getElem? (i := 149) rfl)
theorem tw_1_150 : (Cond.declares ⟨"java/lang/Throwable", "<init>", "(Ljava/lang/String;)V"⟩) ∈ lw_tbl := tb1 (List.mem_of_getElem? (i := 150) rfl)
theorem tw_1_151 : (Cond.selects "java/lang/IndexOutOfBoundsException" ⟨"java/lang/Throwable", "fillInStackTrace", "(I)Ljava/lang/Throwable;"⟩ ⟨"java/lang/Throwable", "fillInStackTrace", "(I)Ljava/lang/Throwable;"⟩) ∈ GW := mGW (tb1 (List.mem_of_getElem? (i := 151) rfl)) rfl
theorem tw_1_152 : (Cond.selects "java/lang/IndexOutOfBoundsException" ⟨"java/lang/Throwable", "fillInStackTrace", "()Ljava/lang/Throwable;"⟩ ⟨"java/lang/Throwable", "fillInStackTrace", "()Ljava/lang/Throwable;"⟩) ∈ GW := mGW (tb1 (List.mem_of_getElem? (i := 152) rfl)) rfl
theorem tw_1_153 : (Cond.lays "java/lang/IndexOutOfBoundsException" "java/lang/Throwable" "cause" "Ljava/lang/Throwable;") ∈ GW := mGW (tb1 (List.mem_of_getElem? (i := 153) rfl)) rfl
theorem tw_1_154 : (Cond.lays "java/lang/Throwable" "java/lang/Throwable" "cause" "Ljava/lang/Throwable;") ∈ GW := mGW (tb1 (List.mem_of_getElem? (i := 154) rfl)) rfl
theorem tw_1_155 : (Cond.lays "java/lang/IndexOutOfBoundsException" "java/lang/Throwable" "stackTrace" "[Ljava/lang/StackTraceElement;") ∈ GW := mGW (tb1 (List.mem_of_getElem? (i := 155) rfl)) rfl
theorem tw_1_156 : (Cond.lays "java/lang/Throwable" "java/lang/Throwable" "stackTrace" "[Ljava/lang/StackTraceElement;") ∈ GW := mGW (tb1 (List.mem_of_getElem? (i := 156) rfl)) rfl
theorem tw_1_157 : (Cond.lays "java/lang/IndexOutOfBoundsException" "java/lang/Throwable" "suppressedExceptions" "Ljava/util/List;") ∈ GW := mGW (tb1 (List.mem_of_getElem? (i := 157) rfl)) rfl
theorem tw_1_158 : (Cond.lays "java/lang/Throwable" "java/lang/Throwable" "suppressedExceptions" "Ljava/util/List;") ∈ GW := mGW (tb1 (List.mem_of_getElem? (i := 158) rfl)) rfl
theorem tw_1_159 : (Cond.lays "java/lang/IndexOutOfBoundsException" "java/lang/Throwable" "detailMessage" "Ljava/lang/String;") ∈ GW := mGW (tb1 (List.mem_of_getElem? (i := 159) rfl)) rfl
theorem tw_1_160 : (Cond.lays "java/lang/Throwable" "java/lang/Throwable" "detailMessage" "Ljava/lang/String;") ∈ GW := mGW (tb1 (List.mem_of_getElem? (i := 160) rfl)) rfl
theorem tw_1_161 : (Cond.lays "java/lang/IndexOutOfBoundsException" "java/lang/Throwable" "backtrace" "Ljava/lang/Object;") ∈ GW := mGW (tb1 (List.mem_of_getElem? (i := 161) rfl)) rfl
theorem tw_1_162 : (Cond.lays "java/lang/Throwable" "java/lang/Throwable" "backtrace" "Ljava/lang/Object;") ∈ GW := mGW (tb1 (List.mem_of_getElem? (i := 162) rfl)) rfl
theorem tw_1_163 : (Cond.fieldLink "java/lang/Throwable" 198 "java/lang/Throwable" "backtrace" "Ljava/lang/Object;") ∈ GW := mGW (tb1 (List.mem_of_getElem? (i := 163) rfl)) rfl
theorem tw_1_164 : (Cond.superclass "java/lang/Throwable" "java/lang/Object") ∈ lw_tbl := tb1 (List.mem_of_getElem? (i := 164) rfl)
theorem tw_1_165 : (Cond.instanceMethod ⟨"java/lang/Throwable", "<init>", "()V"⟩) ∈ GW := mGW (tb1 (List.mem_of_getElem? (i := 165) rfl)) rfl
theorem tw_1_167 : (Cond.methodLink "java/lang/Throwable" 1 ⟨"java/lang/Object", "<init>", "()V"⟩) ∈ GW := mGW (tb1 (List.mem_of_getElem? (i := 167) rfl)) rfl
theorem tw_1_168 : (Cond.fieldLink "java/lang/Throwable" 13 "java/lang/Throwable" "UNASSIGNED_STACK" "[Ljava/lang/StackTraceElement;") ∈ GW := mGW (tb1 (List.mem_of_getElem? (i := 168) rfl)) rfl
theorem tw_1_169 : (Cond.laysStatic "java/lang/Throwable" "UNASSIGNED_STACK" "[Ljava/lang/StackTraceElement;") ∈ lw_tbl := tb1 (List.mem_of_getElem? (i := 169) rfl)
theorem tw_1_170 : (Cond.fieldLink "java/lang/Throwable" 20 "java/lang/Throwable" "SUPPRESSED_SENTINEL" "Ljava/util/List;") ∈ GW := mGW (tb1 (List.mem_of_getElem? (i := 170) rfl)) rfl
theorem tw_1_171 : (Cond.laysStatic "java/lang/Throwable" "SUPPRESSED_SENTINEL" "Ljava/util/List;") ∈ lw_tbl := tb1 (List.mem_of_getElem? (i := 171) rfl)
theorem tw_1_172 : (Cond.methodLink "java/lang/Throwable" 27 ⟨"java/lang/Throwable", "fillInStackTrace", "()Ljava/lang/Throwable;"⟩) ∈ GW := mGW (tb1 (List.mem_of_getElem? (i := 172) rfl)) rfl
theorem tw_1_173 : (Cond.instanceMethod ⟨"java/lang/Throwable", "fillInStackTrace", "()Ljava/lang/Throwable;"⟩) ∈ GW := mGW (tb1 (List.mem_of_getElem? (i := 173) rfl)) rfl
theorem tw_1_174 : (Cond.sameMethod "java/lang/Throwable" "java/lang/Throwable" "fillInStackTrace" "()Ljava/lang/Throwable;") ∈ lw_tbl := tb1 (List.mem_of_getElem? (i := 174) rfl)
theorem tw_1_175 : (Cond.selects "java/lang/IllegalArgumentException" ⟨"java/lang/Throwable", "fillInStackTrace", "()Ljava/lang/Throwable;"⟩ ⟨"java/lang/Throwable", "fillInStackTrace", "()Ljava/lang/Throwable;"⟩) ∈ GW := mGW (tb1 (List.mem_of_getElem? (i := 175) rfl)) rfl
theorem tw_1_176 : (Cond.selects "java/lang/IllegalStateException" ⟨"java/lang/Throwable", "fillInStackTrace", "()Ljava/lang/Throwable;"⟩ ⟨"java/lang/Throwable", "fillInStackTrace", "()Ljava/lang/Throwable;"⟩) ∈ GW := mGW (tb1 (List.mem_of_getElem? (i := 176) rfl)) rfl
theorem tw_1_178 : (Cond.methodLink "java/lang/Throwable" 202 ⟨"java/lang/Throwable", "fillInStackTrace", "(I)Ljava/lang/Throwable;"⟩) ∈ GW := mGW (tb1 (List.mem_of_getElem? (i := 178) rfl)) rfl
theorem tw_1_180 : (Cond.instanceMethod ⟨"java/lang/Throwable", "fillInStackTrace", "(I)Ljava/lang/Throwable;"⟩) ∈ GW := mGW (tb1 (List.mem_of_getElem? (i := 180) rfl)) rfl
theorem tw_1_181 : (Cond.instantiable "java/lang/Throwable" 6) ∈ GW := mGW (tb1 (List.mem_of_getElem? (i := 181) rfl)) rfl
theorem tw_1_182 : (Cond.native ⟨"java/lang/Throwable", "fillInStackTrace", "(I)Ljava/lang/Throwable;"⟩) ∈ GW := mGW (tb1 (List.mem_of_getElem? (i := 182) rfl)) rfl
theorem tw_1_183 : (Cond.stringRef "Trenchboard" 189 "no such street or metre") ∈ lw_tbl := tb1 (List.mem_of_getElem? (i := 183) rfl)
theorem tw_1_184 : (Cond.methodLink "Trenchboard" 56 ⟨"java/lang/IndexOutOfBoundsException", "<init>", "(Ljava/lang/String;)V"⟩) ∈ GW := mGW (tb1 (List.mem_of_getElem? (i := 184) rfl)) rfl
theorem tw_1_185 : (Cond.instanceMethod ⟨"java/lang/IndexOutOfBoundsException", "<init>", "(Ljava/lang/String;)V"⟩) ∈ GW := mGW (tb1 (List.mem_of_getElem? (i := 185) rfl)) rfl
theorem tw_1_187 : (Cond.methodLink "java/lang/IndexOutOfBoundsException" 7 ⟨"java/lang/RuntimeException", "<init>", "(Ljava/lang/String;)V"⟩) ∈ GW := mGW (tb1 (List.mem_of_getElem? (i := 187) rfl)) rfl
theorem tw_1_188 : (Cond.instanceMethod ⟨"java/lang/RuntimeException", "<init>", "(Ljava/lang/String;)V"⟩) ∈ GW := mGW (tb1 (List.mem_of_getElem? (i := 188) rfl)) rfl
theorem tw_1_190 : (Cond.methodLink "java/lang/RuntimeException" 7 ⟨"java/lang/Exception", "<init>", "(Ljava/lang/String;)V"⟩) ∈ GW := mGW (tb1 (List.mem_of_getElem? (i := 190) rfl)) rfl
theorem tw_1_191 : (Cond.instanceMethod ⟨"java/lang/Exception", "<init>", "(Ljava/lang/String;)V"⟩) ∈ GW := mGW (tb1 (List.mem_of_getElem? (i := 191) rfl)) rfl
theorem tw_1_193 : (Cond.methodLink "java/lang/Exception" 7 ⟨"java/lang/Throwable", "<init>", "(Ljava/lang/String;)V"⟩) ∈ GW := mGW (tb1 (List.mem_of_getElem? (i := 193) rfl)) rfl
theorem tw_1_194 : (Cond.instanceMethod ⟨"java/lang/Throwable", "<init>", "(Ljava/lang/String;)V"⟩) ∈ GW := mGW (tb1 (List.mem_of_getElem? (i := 194) rfl)) rfl
theorem tw_1_196 : (Cond.fieldLink "java/lang/Throwable" 198 "java/lang/Throwable" "backtrace" "Ljava/lang/Object;") ∈ GW := mGW (tb1 (List.mem_of_getElem? (i := 196) rfl)) rfl
theorem tw_1_197 : (Cond.fieldLink "java/lang/Throwable" 31 "java/lang/Throwable" "detailMessage" "Ljava/lang/String;") ∈ GW := mGW (tb1 (List.mem_of_getElem? (i := 197) rfl)) rfl
theorem tw_1_198 : (Cond.fieldLink "java/lang/Throwable" 7 "java/lang/Throwable" "cause" "Ljava/lang/Throwable;") ∈ GW := mGW (tb1 (List.mem_of_getElem? (i := 198) rfl)) rfl
theorem tw_1_199 : (Cond.fieldLink "java/lang/Throwable" 17 "java/lang/Throwable" "stackTrace" "[Ljava/lang/StackTraceElement;") ∈ GW := mGW (tb1 (List.mem_of_getElem? (i := 199) rfl)) rfl
theorem tw_1_200 : (Cond.fieldLink "java/lang/Throwable" 24 "java/lang/Throwable" "suppressedExceptions" "Ljava/util/List;") ∈ GW := mGW (tb1 (List.mem_of_getElem? (i := 200) rfl)) rfl
theorem tw_1_205 : (Cond.lays "java/lang/IndexOutOfBoundsException" "java/lang/Throwable" "depth" "I") ∈ GW := mGW (tb1 (List.mem_of_getElem? (i := 205) rfl)) rfl
theorem tw_1_208 : (Cond.superclass "java/lang/IndexOutOfBoundsException" "java/lang/RuntimeException") ∈ lw_tbl := tb1 (List.mem_of_getElem? (i := 208) rfl)
theorem tw_1_209 : (Cond.arrayClass Jvm.ClassFile.FieldType.byte) ∈ GW := mGW (tb1 (List.mem_of_getElem? (i := 209) rfl)) rfl
theorem tw_1_210 : (Cond.classLink "Trenchboard" 59 "java/lang/IllegalArgumentException") ∈ GW := mGW (tb1 (List.mem_of_getElem? (i := 210) rfl)) rfl
theorem tw_1_211 : (Cond.instantiable "java/lang/IllegalArgumentException" 6) ∈ GW := mGW (tb1 (List.mem_of_getElem? (i := 211) rfl)) rfl
theorem tw_1_212 : (Cond.castable "java/lang/IllegalArgumentException" "java/lang/IllegalArgumentException") ∈ lw_tbl := tb1 (List.mem_of_getElem? (i := 212) rfl)
theorem tw_1_213 : (Cond.selects "java/lang/IllegalArgumentException" ⟨"java/lang/Throwable", "fillInStackTrace", "(I)Ljava/lang/Throwable;"⟩ ⟨"java/lang/Throwable", "fillInStackTrace", "(I)Ljava/lang/Throwable;"⟩) ∈ GW := mGW (tb1 (List.mem_of_getElem? (i := 213) rfl)) rfl
theorem tw_1_214 : (Cond.lays "java/lang/IllegalArgumentException" "java/lang/Throwable" "cause" "Ljava/lang/Throwable;") ∈ GW := mGW (tb1 (List.mem_of_getElem? (i := 214) rfl)) rfl
theorem tw_1_215 : (Cond.lays "java/lang/IllegalArgumentException" "java/lang/Throwable" "stackTrace" "[Ljava/lang/StackTraceElement;") ∈ GW := mGW (tb1 (List.mem_of_getElem? (i := 215) rfl)) rfl
theorem tw_1_216 : (Cond.lays "java/lang/IllegalArgumentException" "java/lang/Throwable" "suppressedExceptions" "Ljava/util/List;") ∈ GW := mGW (tb1 (List.mem_of_getElem? (i := 216) rfl)) rfl
theorem tw_1_217 : (Cond.lays "java/lang/IllegalArgumentException" "java/lang/Throwable" "detailMessage" "Ljava/lang/String;") ∈ GW := mGW (tb1 (List.mem_of_getElem? (i := 217) rfl)) rfl
theorem tw_1_218 : (Cond.lays "java/lang/IllegalArgumentException" "java/lang/Throwable" "backtrace" "Ljava/lang/Object;") ∈ GW := mGW (tb1 (List.mem_of_getElem? (i := 218) rfl)) rfl
theorem tw_1_219 : (Cond.stringRef "Trenchboard" 360 "depth out of range") ∈ lw_tbl := tb1 (List.mem_of_getElem? (i := 219) rfl)
theorem tw_1_220 : (Cond.methodLink "Trenchboard" 63 ⟨"java/lang/IllegalArgumentException", "<init>", "(Ljava/lang/String;)V"⟩) ∈ GW := mGW (tb1 (List.mem_of_getElem? (i := 220) rfl)) rfl
theorem tw_1_221 : (Cond.instanceMethod ⟨"java/lang/IllegalArgumentException", "<init>", "(Ljava/lang/String;)V"⟩) ∈ GW := mGW (tb1 (List.mem_of_getElem? (i := 221) rfl)) rfl
theorem tw_1_223 : (Cond.methodLink "java/lang/IllegalArgumentException" 7 ⟨"java/lang/RuntimeException", "<init>", "(Ljava/lang/String;)V"⟩) ∈ GW := mGW (tb1 (List.mem_of_getElem? (i := 223) rfl)) rfl
theorem tw_1_224 : (Cond.lays "java/lang/IllegalArgumentException" "java/lang/Throwable" "depth" "I") ∈ GW := mGW (tb1 (List.mem_of_getElem? (i := 224) rfl)) rfl
theorem tw_1_225 : (Cond.superclass "java/lang/IllegalArgumentException" "java/lang/RuntimeException") ∈ lw_tbl := tb1 (List.mem_of_getElem? (i := 225) rfl)
theorem tw_1_226 : (Cond.methodLink "Trenchboard" 362 yX8_whoIsLiable) ∈ GW := mGW (tb1 (List.mem_of_getElem? (i := 226) rfl)) rfl
theorem tw_1_228 : (Cond.instanceMethod yX8_whoIsLiable) ∈ GW := mGW (tb1 (List.mem_of_getElem? (i := 228) rfl)) rfl
theorem tw_1_229 : (Cond.code yX8_whoIsLiable prog_1_method_62_code 5 (Option.some (Jvm.ClassFile.FieldType.object "Trenchboard$Works"))) ∈ GW := mGW (tb1 (List.mem_of_getElem? (i := 229) rfl)) rfl
theorem tw_1_230 : (Cond.methodLink "Trenchboard" 517 yX2_latestAsDeepAs) ∈ GW := mGW (tb1 (List.mem_of_getElem? (i := 230) rfl)) rfl
theorem tw_1_231 : (Cond.instanceMethod yX2_latestAsDeepAs) ∈ GW := mGW (tb1 (List.mem_of_getElem? (i := 231) rfl)) rfl
theorem tw_1_232 : (Cond.selects "Trenchboard$Metre" yX2_latestAsDeepAs yX2_latestAsDeepAs) ∈ GW := mGW (tb1 (List.mem_of_getElem? (i := 232) rfl)) rfl
theorem tw_1_233 : (Cond.code yX2_latestAsDeepAs prog_4_method_2_code 3 (Option.some (Jvm.ClassFile.FieldType.object "Trenchboard$Fill"))) ∈ GW := mGW (tb1 (List.mem_of_getElem? (i := 233) rfl)) rfl
theorem tw_1_234 : (Cond.methodLink "Trenchboard" 84 yX8_today) ∈ GW := mGW (tb1 (List.mem_of_getElem? (i := 234) rfl)) rfl
theorem tw_1_236 : (Cond.instanceMethod yX8_today) ∈ GW := mGW (tb1 (List.mem_of_getElem? (i := 236) rfl)) rfl
theorem tw_1_237 : (Cond.code yX8_today prog_1_method_42_code 1 (Option.some Jvm.ClassFile.FieldType.int)) ∈ GW := mGW (tb1 (List.mem_of_getElem? (i := 237) rfl)) rfl
theorem tw_1_238 : (Cond.methodLink "Trenchboard" 408 yX7_daysLiable) ∈ GW := mGW (tb1 (List.mem_of_getElem? (i := 238) rfl)) rfl
theorem tw_1_239 : (Cond.instanceMethod yX7_daysLiable) ∈ GW := mGW (tb1 (List.mem_of_getElem? (i := 239) rfl)) rfl
theorem tw_2_0 : (Cond.selects "Trenchboard$Works" yX7_daysLiable yX7_daysLiable) ∈ GW := mGW (tb2 (List.mem_of_getElem? (i := 0) rfl)) rfl
theorem tw_2_1 : (Cond.code yX7_daysLiable prog_9_method_13_code 1 (Option.some Jvm.ClassFile.FieldType.int)) ∈ GW := mGW (tb2 (List.mem_of_getElem? (i := 1) rfl)) rfl
theorem tw_2_2 : (Cond.methodLink "Trenchboard" 387 yX8_numberOf) ∈ GW := mGW (tb2 (List.mem_of_getElem? (i := 2) rfl)) rfl
theorem tw_2_3 : (Cond.static yX8_numberOf) ∈ GW := mGW (tb2 (List.mem_of_getElem? (i := 3) rfl)) rfl
theorem tw_2_4 : (Cond.code yX8_numberOf prog_1_method_41_code 1 (Option.some Jvm.ClassFile.FieldType.int)) ∈ GW := mGW (tb2 (List.mem_of_getElem? (i := 4) rfl)) rfl
theorem tw_2_5 : (Cond.methodLink "TrenchboardLaw" 99 yX8_metre) ∈ GW := mGW (tb2 (List.mem_of_getElem? (i := 5) rfl)) rfl
theorem tw_2_6 : (Cond.instanceMethod yX8_metre) ∈ GW := mGW (tb2 (List.mem_of_getElem? (i := 6) rfl)) rfl
theorem tw_2_7 : (Cond.selects "Trenchboard" yX8_metre yX8_metre) ∈ GW := mGW (tb2 (List.mem_of_getElem? (i := 7) rfl)) rfl
theorem tw_2_8 : (Cond.code yX8_metre prog_1_method_30_code 6 (Option.some Jvm.ClassFile.FieldType.int)) ∈ GW := mGW (tb2 (List.mem_of_getElem? (i := 8) rfl)) rfl
theorem tw_2_9 : (Cond.methodLink "Trenchboard" 291 yX8_isSuspect) ∈ GW := mGW (tb2 (List.mem_of_getElem? (i := 9) rfl)) rfl
theorem tw_2_11 : (Cond.instanceMethod yX8_isSuspect) ∈ GW := mGW (tb2 (List.mem_of_getElem? (i := 11) rfl)) rfl
theorem tw_2_12 : (Cond.code yX8_isSuspect prog_1_method_51_code 3 (Option.some Jvm.ClassFile.FieldType.boolean)) ∈ GW := mGW (tb2 (List.mem_of_getElem? (i := 12) rfl)) rfl
theorem tw_2_13 : (Cond.methodLink "Trenchboard" 417 yX8_suspects) ∈ GW := mGW (tb2 (List.mem_of_getElem? (i := 13) rfl)) rfl
theorem tw_2_15 : (Cond.instanceMethod yX8_suspects) ∈ GW := mGW (tb2 (List.mem_of_getElem? (i := 15) rfl)) rfl
theorem tw_2_16 : (Cond.code yX8_suspects prog_1_method_50_code 7 (Option.some Jvm.ClassFile.FieldType.int)) ∈ GW := mGW (tb2 (List.mem_of_getElem? (i := 16) rfl)) rfl
theorem tw_2_17 : (Cond.methodLink "Trenchboard" 463 yX8_overlap) ∈ GW := mGW (tb2 (List.mem_of_getElem? (i := 17) rfl)) rfl
theorem tw_2_18 : (Cond.static yX8_overlap) ∈ GW := mGW (tb2 (List.mem_of_getElem? (i := 18) rfl)) rfl
theorem tw_2_19 : (Cond.code yX8_overlap prog_1_method_44_code 4 (Option.some Jvm.ClassFile.FieldType.boolean)) ∈ GW := mGW (tb2 (List.mem_of_getElem? (i := 19) rfl)) rfl
theorem tw_2_20 : (Cond.stringRef "Trenchboard" 413 "what out of range") ∈ lw_tbl := tb2 (List.mem_of_getElem? (i := 20) rfl)
theorem tw_2_21 : (Cond.methodLink "TrenchboardLaw" 111 yX8_money) ∈ GW := mGW (tb2 (List.mem_of_getElem? (i := 21) rfl)) rfl
theorem tw_2_22 : (Cond.instanceMethod yX8_money) ∈ GW := mGW (tb2 (List.mem_of_getElem? (i := 22) rfl)) rfl
theorem tw_2_23 : (Cond.selects "Trenchboard" yX8_money yX8_money) ∈ GW := mGW (tb2 (List.mem_of_getElem? (i := 23) rfl)) rfl
theorem tw_2_24 : (Cond.code yX8_money prog_1_method_34_code 3 (Option.some Jvm.ClassFile.FieldType.long)) ∈ GW := mGW (tb2 (List.mem_of_getElem? (i := 24) rfl)) rfl
theorem tw_2_25 : (Cond.methodLink "Trenchboard" 424 yX8_partyAt) ∈ GW := mGW (tb2 (List.mem_of_getElem? (i := 25) rfl)) rfl
theorem tw_2_27 : (Cond.instanceMethod yX8_partyAt) ∈ GW := mGW (tb2 (List.mem_of_getElem? (i := 27) rfl)) rfl
theorem tw_2_28 : (Cond.code yX8_partyAt prog_1_method_39_code 2 (Option.some (Jvm.ClassFile.FieldType.object "Trenchboard$Party"))) ∈ GW := mGW (tb2 (List.mem_of_getElem? (i := 28) rfl)) rfl
theorem tw_2_29 : (Cond.stringRef "Trenchboard" 440 "no such promoter, nor the board") ∈ lw_tbl := tb2 (List.mem_of_getElem? (i := 29) rfl)
theorem tw_2_30 : (Cond.methodLink "TrenchboardLaw" 166 yL_dice) ∈ GW := mGW (tb2 (List.mem_of_getElem? (i := 30) rfl)) rfl
theorem tw_2_31 : (Cond.static yL_dice) ∈ GW := mGW (tb2 (List.mem_of_getElem? (i := 31) rfl)) rfl
theorem tw_2_32 : (Cond.code yL_dice method_2_code 2 (Option.some Jvm.ClassFile.FieldType.int)) ∈ GW := mGW (tb2 (List.mem_of_getElem? (i := 32) rfl)) rfl
theorem tw_2_33 : (Cond.constant "TrenchboardLaw" 7 2142645277) ∈ GW := mGW (tb2 (List.mem_of_getElem? (i := 33) rfl)) rfl
theorem tw_2_34 : (Cond.constant "TrenchboardLaw" 8 2147483647) ∈ GW := mGW (tb2 (List.mem_of_getElem? (i := 34) rfl)) rfl
theorem tw_2_35 : (Cond.methodLink "TrenchboardLaw" 137 yL_act) ∈ GW := mGW (tb2 (List.mem_of_getElem? (i := 35) rfl)) rfl
theorem tw_2_36 : (Cond.static yL_act) ∈ GW := mGW (tb2 (List.mem_of_getElem? (i := 36) rfl)) rfl
theorem tw_2_37 : (Cond.codeWith yL_act method_3_code 8 (Option.some Jvm.ClassFile.FieldType.int) [((0 : Nat), (517 : Nat), (518 : Nat), (118 : Nat)), ((0 : Nat), (517 : Nat), (523 : Nat), (121 : Nat)), ((0 : Nat), (517 : Nat), (528 : Nat), (124 : Nat))]) ∈ GW := mGW (tb2 (List.mem_of_getElem? (i := 37) rfl)) rfl
theorem tw_2_38 : (Cond.classLink "TrenchboardLaw" 118 "java/lang/IndexOutOfBoundsException") ∈ GW := mGW (tb2 (List.mem_of_getElem? (i := 38) rfl)) rfl
theorem tw_2_39 : (Cond.classLink "TrenchboardLaw" 121 "java/lang/IllegalArgumentException") ∈ GW := mGW (tb2 (List.mem_of_getElem? (i := 39) rfl)) rfl
theorem tw_2_40 : (Cond.classLink "TrenchboardLaw" 124 "java/lang/IllegalStateException") ∈ GW := mGW (tb2 (List.mem_of_getElem? (i := 40) rfl)) rfl
theorem tw_2_41 : (Cond.methodLink "TrenchboardLaw" 9 yX8_street) ∈ GW := mGW (tb2 (List.mem_of_getElem? (i := 41) rfl)) rfl
theorem tw_2_42 : (Cond.instanceMethod yX8_street) ∈ GW := mGW (tb2 (List.mem_of_getElem? (i := 42) rfl)) rfl
theorem tw_2_43 : (Cond.selects "Trenchboard" yX8_street yX8_street) ∈ GW := mGW (tb2 (List.mem_of_getElem? (i := 43) rfl)) rfl
theorem tw_2_44 : (Cond.code yX8_street prog_1_method_2_code 6 (Option.some Jvm.ClassFile.FieldType.int)) ∈ GW := mGW (tb2 (List.mem_of_getElem? (i := 44) rfl)) rfl
theorem tw_2_45 : (Cond.stringRef "Trenchboard" 54 "no such way around") ∈ lw_tbl := tb2 (List.mem_of_getElem? (i := 45) rfl)
theorem tw_2_46 : (Cond.stringRef "Trenchboard" 61 "metres, class or flow out of range") ∈ lw_tbl := tb2 (List.mem_of_getElem? (i := 46) rfl)
theorem tw_2_47 : (Cond.classLink "Trenchboard" 68 "java/lang/IllegalStateException") ∈ GW := mGW (tb2 (List.mem_of_getElem? (i := 47) rfl)) rfl
theorem tw_2_48 : (Cond.instantiable "java/lang/IllegalStateException" 6) ∈ GW := mGW (tb2 (List.mem_of_getElem? (i := 48) rfl)) rfl
theorem tw_2_49 : (Cond.castable "java/lang/IllegalStateException" "java/lang/IllegalStateException") ∈ lw_tbl := tb2 (List.mem_of_getElem? (i := 49) rfl)
theorem tw_2_50 : (Cond.selects "java/lang/IllegalStateException" ⟨"java/lang/Throwable", "fillInStackTrace", "(I)Ljava/lang/Throwable;"⟩ ⟨"java/lang/Throwable", "fillInStackTrace", "(I)Ljava/lang/Throwable;"⟩) ∈ GW := mGW (tb2 (List.mem_of_getElem? (i := 50) rfl)) rfl
theorem tw_2_51 : (Cond.lays "java/lang/IllegalStateException" "java/lang/Throwable" "cause" "Ljava/lang/Throwable;") ∈ GW := mGW (tb2 (List.mem_of_getElem? (i := 51) rfl)) rfl
theorem tw_2_52 : (Cond.lays "java/lang/IllegalStateException" "java/lang/Throwable" "stackTrace" "[Ljava/lang/StackTraceElement;") ∈ GW := mGW (tb2 (List.mem_of_getElem? (i := 52) rfl)) rfl
theorem tw_2_53 : (Cond.lays "java/lang/IllegalStateException" "java/lang/Throwable" "suppressedExceptions" "Ljava/util/List;") ∈ GW := mGW (tb2 (List.mem_of_getElem? (i := 53) rfl)) rfl
theorem tw_2_54 : (Cond.lays "java/lang/IllegalStateException" "java/lang/Throwable" "detailMessage" "Ljava/lang/String;") ∈ GW := mGW (tb2 (List.mem_of_getElem? (i := 54) rfl)) rfl
theorem tw_2_55 : (Cond.lays "java/lang/IllegalStateException" "java/lang/Throwable" "backtrace" "Ljava/lang/Object;") ∈ GW := mGW (tb2 (List.mem_of_getElem? (i := 55) rfl)) rfl
theorem tw_2_56 : (Cond.stringRef "Trenchboard" 70 "no more streets") ∈ lw_tbl := tb2 (List.mem_of_getElem? (i := 56) rfl)
theorem tw_2_57 : (Cond.methodLink "Trenchboard" 72 ⟨"java/lang/IllegalStateException", "<init>", "(Ljava/lang/String;)V"⟩) ∈ GW := mGW (tb2 (List.mem_of_getElem? (i := 57) rfl)) rfl
theorem tw_2_58 : (Cond.instanceMethod ⟨"java/lang/IllegalStateException", "<init>", "(Ljava/lang/String;)V"⟩) ∈ GW := mGW (tb2 (List.mem_of_getElem? (i := 58) rfl)) rfl
theorem tw_2_60 : (Cond.methodLink "java/lang/IllegalStateException" 7 ⟨"java/lang/RuntimeException", "<init>", "(Ljava/lang/String;)V"⟩) ∈ GW := mGW (tb2 (List.mem_of_getElem? (i := 60) rfl)) rfl
theorem tw_2_61 : (Cond.lays "java/lang/IllegalStateException" "java/lang/Throwable" "depth" "I") ∈ GW := mGW (tb2 (List.mem_of_getElem? (i := 61) rfl)) rfl
theorem tw_2_62 : (Cond.superclass "java/lang/IllegalStateException" "java/lang/RuntimeException") ∈ lw_tbl := tb2 (List.mem_of_getElem? (i := 62) rfl)
theorem tw_2_63 : (Cond.instantiable "Trenchboard$Street" 12) ∈ GW := mGW (tb2 (List.mem_of_getElem? (i := 63) rfl)) rfl
theorem tw_2_64 : (Cond.methodLink "Trenchboard" 73 yX4_init) ∈ GW := mGW (tb2 (List.mem_of_getElem? (i := 64) rfl)) rfl
theorem tw_2_65 : (Cond.instanceMethod yX4_init) ∈ GW := mGW (tb2 (List.mem_of_getElem? (i := 65) rfl)) rfl
theorem tw_2_66 : (Cond.code yX4_init prog_6_method_1_code 7 (Option.none : Option Jvm.ClassFile.FieldType)) ∈ GW := mGW (tb2 (List.mem_of_getElem? (i := 66) rfl)) rfl
theorem tw_2_67 : (Cond.methodLink "Trenchboard$Street" 3 ⟨"java/lang/Object", "<init>", "()V"⟩) ∈ GW := mGW (tb2 (List.mem_of_getElem? (i := 67) rfl)) rfl
theorem tw_2_68 : (Cond.methodLink "Trenchboard$Street" 37 yJ9_max_7cf53) ∈ GW := mGW (tb2 (List.mem_of_getElem? (i := 68) rfl)) rfl
theorem tw_2_69 : (Cond.static yJ9_max_7cf53) ∈ GW := mGW (tb2 (List.mem_of_getElem? (i := 69) rfl)) rfl
theorem tw_2_70 : (Cond.code yJ9_max_7cf53 prog_19_method_65_code 2 (Option.some Jvm.ClassFile.FieldType.int)) ∈ GW := mGW (tb2 (List.mem_of_getElem? (i := 70) rfl)) rfl
theorem tw_2_71 : (Cond.classLink "Trenchboard$Street" 43 "Trenchboard$Metre") ∈ GW := mGW (tb2 (List.mem_of_getElem? (i := 71) rfl)) rfl
theorem tw_2_72 : (Cond.arrayOver (Jvm.ClassFile.FieldType.object "Trenchboard$Metre")) ∈ lw_tbl := tb2 (List.mem_of_getElem? (i := 72) rfl)
theorem tw_2_73 : (Cond.instantiable "Trenchboard$Metre" 4) ∈ GW := mGW (tb2 (List.mem_of_getElem? (i := 73) rfl)) rfl
theorem tw_2_74 : (Cond.methodLinkNest "Trenchboard$Street" 49 yX2_init "Trenchboard") ∈ lw_tbl := tb2 (List.mem_of_getElem? (i := 74) rfl)
theorem tw_2_75 : (Cond.instanceMethod yX2_init) ∈ GW := mGW (tb2 (List.mem_of_getElem? (i := 75) rfl)) rfl
theorem tw_2_76 : (Cond.code yX2_init prog_4_method_1_code 1 (Option.none : Option Jvm.ClassFile.FieldType)) ∈ GW := mGW (tb2 (List.mem_of_getElem? (i := 76) rfl)) rfl
theorem tw_2_77 : (Cond.methodLink "Trenchboard$Metre" 3 ⟨"java/lang/Object", "<init>", "()V"⟩) ∈ GW := mGW (tb2 (List.mem_of_getElem? (i := 77) rfl)) rfl
theorem tw_2_78 : (Cond.fieldLink "Trenchboard$Thing" 55 "Trenchboard$Metre" "sure" "Z") ∈ GW := mGW (tb2 (List.mem_of_getElem? (i := 78) rfl)) rfl
theorem tw_2_79 : (Cond.fieldLink "Trenchboard" 151 "Trenchboard$Metre" "sure" "Z") ∈ GW := mGW (tb2 (List.mem_of_getElem? (i := 79) rfl)) rfl
theorem tw_2_80 : (Cond.fieldLink "Trenchboard$Metre" 9 "Trenchboard$Metre" "openBy" "I") ∈ GW := mGW (tb2 (List.mem_of_getElem? (i := 80) rfl)) rfl
theorem tw_2_81 : (Cond.fieldLink "Trenchboard$Street" 50 "Trenchboard$Metre" "openBy" "I") ∈ GW := mGW (tb2 (List.mem_of_getElem? (i := 81) rfl)) rfl
theorem tw_2_82 : (Cond.fieldLink "Trenchboard" 288 "Trenchboard$Metre" "openBy" "I") ∈ GW := mGW (tb2 (List.mem_of_getElem? (i := 82) rfl)) rfl
theorem tw_2_83 : (Cond.fieldLink "Trenchboard" 316 "Trenchboard$Metre" "fills" "I") ∈ GW := mGW (tb2 (List.mem_of_getElem? (i := 83) rfl)) rfl
theorem tw_2_84 : (Cond.fieldLink "Trenchboard$Metre" 15 "Trenchboard$Metre" "latest" "LTrenchboard$Fill;") ∈ GW := mGW (tb2 (List.mem_of_getElem? (i := 84) rfl)) rfl
theorem tw_2_85 : (Cond.fieldLink "Trenchboard" 309 "Trenchboard$Metre" "latest" "LTrenchboard$Fill;") ∈ GW := mGW (tb2 (List.mem_of_getElem? (i := 85) rfl)) rfl
theorem tw_2_86 : (Cond.lays "Trenchboard$Metre" "Trenchboard$Metre" "sure" "Z") ∈ GW := mGW (tb2 (List.mem_of_getElem? (i := 86) rfl)) rfl
theorem tw_2_88 : (Cond.lays "Trenchboard$Metre" "Trenchboard$Metre" "openBy" "I") ∈ GW := mGW (tb2 (List.mem_of_getElem? (i := 88) rfl)) rfl
theorem tw_2_90 : (Cond.lays "Trenchboard$Metre" "Trenchboard$Metre" "fills" "I") ∈ GW := mGW (tb2 (List.mem_of_getElem? (i := 90) rfl)) rfl
theorem tw_2_92 : (Cond.lays "Trenchboard$Metre" "Trenchboard$Metre" "latest" "LTrenchboard$Fill;") ∈ GW := mGW (tb2 (List.mem_of_getElem? (i := 92) rfl)) rfl
theorem tw_2_94 : (Cond.superclass "Trenchboard$Metre" "java/lang/Object") ∈ lw_tbl := tb2 (List.mem_of_getElem? (i := 94) rfl)
theorem tw_2_95 : (Cond.fieldLink "Trenchboard$Street" 24 "Trenchboard$Street" "number" "I") ∈ GW := mGW (tb2 (List.mem_of_getElem? (i := 95) rfl)) rfl
theorem tw_2_96 : (Cond.fieldLink "Trenchboard$Street" 27 "Trenchboard$Street" "grade" "I") ∈ GW := mGW (tb2 (List.mem_of_getElem? (i := 96) rfl)) rfl
theorem tw_2_97 : (Cond.fieldLink "Trenchboard$Street" 30 "Trenchboard$Street" "flow" "I") ∈ GW := mGW (tb2 (List.mem_of_getElem? (i := 97) rfl)) rfl
theorem tw_2_98 : (Cond.fieldLink "Trenchboard$Street" 33 "Trenchboard$Street" "around" "LTrenchboard$Street;") ∈ GW := mGW (tb2 (List.mem_of_getElem? (i := 98) rfl)) rfl
theorem tw_2_99 : (Cond.fieldLink "Trenchboard$Works" 88 "Trenchboard$Street" "around" "LTrenchboard$Street;") ∈ GW := mGW (tb2 (List.mem_of_getElem? (i := 99) rfl)) rfl
theorem tw_2_100 : (Cond.fieldLink "Trenchboard$Street" 45 "Trenchboard$Street" "metres" "[LTrenchboard$Metre;") ∈ GW := mGW (tb2 (List.mem_of_getElem? (i := 100) rfl)) rfl
theorem tw_2_101 : (Cond.fieldLink "Trenchboard$Thing" 39 "Trenchboard$Street" "metres" "[LTrenchboard$Metre;") ∈ GW := mGW (tb2 (List.mem_of_getElem? (i := 101) rfl)) rfl
theorem tw_2_102 : (Cond.fieldLink "Trenchboard$Street" 9 "Trenchboard$Street" "embargoFrom" "I") ∈ GW := mGW (tb2 (List.mem_of_getElem? (i := 102) rfl)) rfl
theorem tw_2_103 : (Cond.fieldLink "Trenchboard" 108 "Trenchboard$Street" "embargoFrom" "I") ∈ GW := mGW (tb2 (List.mem_of_getElem? (i := 103) rfl)) rfl
theorem tw_2_104 : (Cond.fieldLink "Trenchboard$Street" 15 "Trenchboard$Street" "embargoTo" "I") ∈ GW := mGW (tb2 (List.mem_of_getElem? (i := 104) rfl)) rfl
theorem tw_2_105 : (Cond.fieldLink "Trenchboard" 111 "Trenchboard$Street" "embargoTo" "I") ∈ GW := mGW (tb2 (List.mem_of_getElem? (i := 105) rfl)) rfl
theorem tw_2_106 : (Cond.fieldLink "Trenchboard$Street" 18 "Trenchboard$Street" "surfacedOn" "I") ∈ GW := mGW (tb2 (List.mem_of_getElem? (i := 106) rfl)) rfl
theorem tw_2_107 : (Cond.fieldLink "Trenchboard" 88 "Trenchboard$Street" "surfacedOn" "I") ∈ GW := mGW (tb2 (List.mem_of_getElem? (i := 107) rfl)) rfl
theorem tw_2_108 : (Cond.fieldLink "Trenchboard$Street" 21 "Trenchboard$Street" "surfacedAfter" "I") ∈ GW := mGW (tb2 (List.mem_of_getElem? (i := 108) rfl)) rfl
theorem tw_2_109 : (Cond.fieldLink "Trenchboard" 94 "Trenchboard$Street" "surfacedAfter" "I") ∈ GW := mGW (tb2 (List.mem_of_getElem? (i := 109) rfl)) rfl
theorem tw_2_110 : (Cond.fieldLink "Trenchboard$Street" 57 "Trenchboard$Street" "takers" "I") ∈ GW := mGW (tb2 (List.mem_of_getElem? (i := 110) rfl)) rfl
theorem tw_2_111 : (Cond.fieldLink "Trenchboard" 505 "Trenchboard$Street" "takers" "I") ∈ GW := mGW (tb2 (List.mem_of_getElem? (i := 111) rfl)) rfl
theorem tw_2_112 : (Cond.fieldLink "Trenchboard$Street" 60 "Trenchboard$Street" "coming" "I") ∈ GW := mGW (tb2 (List.mem_of_getElem? (i := 112) rfl)) rfl
theorem tw_2_113 : (Cond.fieldLink "Trenchboard$Street" 63 "Trenchboard$Street" "waiting" "I") ∈ GW := mGW (tb2 (List.mem_of_getElem? (i := 113) rfl)) rfl
theorem tw_2_114 : (Cond.fieldLink "Trenchboard" 421 "Trenchboard$Street" "waiting" "I") ∈ GW := mGW (tb2 (List.mem_of_getElem? (i := 114) rfl)) rfl
theorem tw_2_115 : (Cond.laysFinal "Trenchboard$Street" "Trenchboard$Street" "number" "I") ∈ GW := mGW (tb2 (List.mem_of_getElem? (i := 115) rfl)) rfl
theorem tw_2_117 : (Cond.laysFinal "Trenchboard$Street" "Trenchboard$Street" "grade" "I") ∈ GW := mGW (tb2 (List.mem_of_getElem? (i := 117) rfl)) rfl
theorem tw_2_119 : (Cond.laysFinal "Trenchboard$Street" "Trenchboard$Street" "flow" "I") ∈ GW := mGW (tb2 (List.mem_of_getElem? (i := 119) rfl)) rfl
theorem tw_2_121 : (Cond.laysFinal "Trenchboard$Street" "Trenchboard$Street" "around" "LTrenchboard$Street;") ∈ GW := mGW (tb2 (List.mem_of_getElem? (i := 121) rfl)) rfl
theorem tw_2_123 : (Cond.laysFinal "Trenchboard$Street" "Trenchboard$Street" "metres" "[LTrenchboard$Metre;") ∈ GW := mGW (tb2 (List.mem_of_getElem? (i := 123) rfl)) rfl
theorem tw_2_125 : (Cond.lays "Trenchboard$Street" "Trenchboard$Street" "embargoFrom" "I") ∈ GW := mGW (tb2 (List.mem_of_getElem? (i := 125) rfl)) rfl
theorem tw_2_127 : (Cond.lays "Trenchboard$Street" "Trenchboard$Street" "embargoTo" "I") ∈ GW := mGW (tb2 (List.mem_of_getElem? (i := 127) rfl)) rfl
theorem tw_2_129 : (Cond.lays "Trenchboard$Street" "Trenchboard$Street" "surfacedOn" "I") ∈ GW := mGW (tb2 (List.mem_of_getElem? (i := 129) rfl)) rfl
theorem tw_2_131 : (Cond.lays "Trenchboard$Street" "Trenchboard$Street" "surfacedAfter" "I") ∈ GW := mGW (tb2 (List.mem_of_getElem? (i := 131) rfl)) rfl
theorem tw_2_133 : (Cond.lays "Trenchboard$Street" "Trenchboard$Street" "takers" "I") ∈ GW := mGW (tb2 (List.mem_of_getElem? (i := 133) rfl)) rfl
theorem tw_2_135 : (Cond.lays "Trenchboard$Street" "Trenchboard$Street" "coming" "I") ∈ GW := mGW (tb2 (List.mem_of_getElem? (i := 135) rfl)) rfl
theorem tw_2_137 : (Cond.lays "Trenchboard$Street" "Trenchboard$Street" "waiting" "I") ∈ GW := mGW (tb2 (List.mem_of_getElem? (i := 137) rfl)) rfl
theorem tw_2_139 : (Cond.superclass "Trenchboard$Street" "java/lang/Object") ∈ lw_tbl := tb2 (List.mem_of_getElem? (i := 139) rfl)
theorem tw_2_140 : (Cond.methodLink "TrenchboardLaw" 15 yX8_surface) ∈ GW := mGW (tb2 (List.mem_of_getElem? (i := 140) rfl)) rfl
theorem tw_2_141 : (Cond.instanceMethod yX8_surface) ∈ GW := mGW (tb2 (List.mem_of_getElem? (i := 141) rfl)) rfl
theorem tw_2_142 : (Cond.selects "Trenchboard" yX8_surface yX8_surface) ∈ GW := mGW (tb2 (List.mem_of_getElem? (i := 142) rfl)) rfl
theorem tw_2_143 : (Cond.code yX8_surface prog_1_method_3_code 3 (Option.some Jvm.ClassFile.FieldType.int)) ∈ GW := mGW (tb2 (List.mem_of_getElem? (i := 143) rfl)) rfl
theorem tw_2_144 : (Cond.stringRef "Trenchboard" 76 "no such street") ∈ lw_tbl := tb2 (List.mem_of_getElem? (i := 144) rfl)
theorem tw_2_145 : (Cond.methodLink "Trenchboard" 78 yX4_hasOpenMetre) ∈ GW := mGW (tb2 (List.mem_of_getElem? (i := 145) rfl)) rfl
theorem tw_2_146 : (Cond.instanceMethod yX4_hasOpenMetre) ∈ GW := mGW (tb2 (List.mem_of_getElem? (i := 146) rfl)) rfl
theorem tw_2_147 : (Cond.selects "Trenchboard$Street" yX4_hasOpenMetre yX4_hasOpenMetre) ∈ GW := mGW (tb2 (List.mem_of_getElem? (i := 147) rfl)) rfl
theorem tw_2_148 : (Cond.code yX4_hasOpenMetre prog_6_method_3_code 3 (Option.some Jvm.ClassFile.FieldType.boolean)) ∈ GW := mGW (tb2 (List.mem_of_getElem? (i := 148) rfl)) rfl
theorem tw_2_149 : (Cond.stringRef "Trenchboard" 82 "a metre is open") ∈ lw_tbl := tb2 (List.mem_of_getElem? (i := 149) rfl)
theorem tw_2_150 : (Cond.methodLink "Trenchboard" 91 yJx4a65c_size_8abf5) ∈ GW := mGW (tb2 (List.mem_of_getElem? (i := 150) rfl)) rfl
theorem tw_2_151 : (Cond.instanceMethod yJx4a65c_size_8abf5) ∈ GW := mGW (tb2 (List.mem_of_getElem? (i := 151) rfl)) rfl
theorem tw_2_152 : (Cond.selects "java/util/ArrayList" yJx4a65c_size_8abf5 yJx4a65c_size_8abf5) ∈ GW := mGW (tb2 (List.mem_of_getElem? (i := 152) rfl)) rfl
theorem tw_2_153 : (Cond.code yJx4a65c_size_8abf5 prog_26_method_8_code 1 (Option.some Jvm.ClassFile.FieldType.int)) ∈ GW := mGW (tb2 (List.mem_of_getElem? (i := 153) rfl)) rfl
theorem tw_2_154 : (Cond.classLink "Trenchboard" 97 "Trenchboard$Telling") ∈ GW := mGW (tb2 (List.mem_of_getElem? (i := 154) rfl)) rfl
theorem tw_2_155 : (Cond.instantiable "Trenchboard$Telling" 4) ∈ GW := mGW (tb2 (List.mem_of_getElem? (i := 155) rfl)) rfl
theorem tw_2_156 : (Cond.methodLink "Trenchboard" 99 yX5_init) ∈ GW := mGW (tb2 (List.mem_of_getElem? (i := 156) rfl)) rfl
theorem tw_2_157 : (Cond.instanceMethod yX5_init) ∈ GW := mGW (tb2 (List.mem_of_getElem? (i := 157) rfl)) rfl
theorem tw_2_158 : (Cond.code yX5_init prog_7_method_1_code 5 (Option.none : Option Jvm.ClassFile.FieldType)) ∈ GW := mGW (tb2 (List.mem_of_getElem? (i := 158) rfl)) rfl
theorem tw_2_159 : (Cond.methodLink "Trenchboard$Telling" 1 ⟨"java/lang/Object", "<init>", "()V"⟩) ∈ GW := mGW (tb2 (List.mem_of_getElem? (i := 159) rfl)) rfl
theorem tw_2_160 : (Cond.fieldLink "Trenchboard$Telling" 7 "Trenchboard$Telling" "street" "LTrenchboard$Street;") ∈ GW := mGW (tb2 (List.mem_of_getElem? (i := 160) rfl)) rfl
theorem tw_2_161 : (Cond.fieldLink "Trenchboard$Telling" 13 "Trenchboard$Telling" "metre" "I") ∈ GW := mGW (tb2 (List.mem_of_getElem? (i := 161) rfl)) rfl
theorem tw_2_162 : (Cond.fieldLink "Trenchboard$Telling" 17 "Trenchboard$Telling" "by" "LTrenchboard$Works;") ∈ GW := mGW (tb2 (List.mem_of_getElem? (i := 162) rfl)) rfl
theorem tw_2_163 : (Cond.fieldLink "Trenchboard" 397 "Trenchboard$Telling" "by" "LTrenchboard$Works;") ∈ GW := mGW (tb2 (List.mem_of_getElem? (i := 163) rfl)) rfl
theorem tw_2_164 : (Cond.fieldLink "Trenchboard$Telling" 21 "Trenchboard$Telling" "day" "I") ∈ GW := mGW (tb2 (List.mem_of_getElem? (i := 164) rfl)) rfl
theorem tw_2_165 : (Cond.fieldLink "Trenchboard" 401 "Trenchboard$Telling" "day" "I") ∈ GW := mGW (tb2 (List.mem_of_getElem? (i := 165) rfl)) rfl
theorem tw_2_166 : (Cond.laysFinal "Trenchboard$Telling" "Trenchboard$Telling" "street" "LTrenchboard$Street;") ∈ GW := mGW (tb2 (List.mem_of_getElem? (i := 166) rfl)) rfl
theorem tw_2_168 : (Cond.laysFinal "Trenchboard$Telling" "Trenchboard$Telling" "metre" "I") ∈ GW := mGW (tb2 (List.mem_of_getElem? (i := 168) rfl)) rfl
theorem tw_2_170 : (Cond.laysFinal "Trenchboard$Telling" "Trenchboard$Telling" "by" "LTrenchboard$Works;") ∈ GW := mGW (tb2 (List.mem_of_getElem? (i := 170) rfl)) rfl
theorem tw_2_172 : (Cond.laysFinal "Trenchboard$Telling" "Trenchboard$Telling" "day" "I") ∈ GW := mGW (tb2 (List.mem_of_getElem? (i := 172) rfl)) rfl
theorem tw_2_174 : (Cond.superclass "Trenchboard$Telling" "java/lang/Object") ∈ lw_tbl := tb2 (List.mem_of_getElem? (i := 174) rfl)
theorem tw_2_175 : (Cond.methodLink "Trenchboard" 102 yX8_tell) ∈ GW := mGW (tb2 (List.mem_of_getElem? (i := 175) rfl)) rfl
theorem tw_2_177 : (Cond.instanceMethod yX8_tell) ∈ GW := mGW (tb2 (List.mem_of_getElem? (i := 177) rfl)) rfl
theorem tw_2_178 : (Cond.code yX8_tell prog_1_method_45_code 2 (Option.none : Option Jvm.ClassFile.FieldType)) ∈ GW := mGW (tb2 (List.mem_of_getElem? (i := 178) rfl)) rfl
theorem tw_2_179 : (Cond.methodLink "Trenchboard" 450 yJx4a65c_add_9ea2d) ∈ GW := mGW (tb2 (List.mem_of_getElem? (i := 179) rfl)) rfl
theorem tw_2_180 : (Cond.instanceMethod yJx4a65c_add_9ea2d) ∈ GW := mGW (tb2 (List.mem_of_getElem? (i := 180) rfl)) rfl
theorem tw_2_181 : (Cond.selects "java/util/ArrayList" yJx4a65c_add_9ea2d yJx4a65c_add_9ea2d) ∈ GW := mGW (tb2 (List.mem_of_getElem? (i := 181) rfl)) rfl
theorem tw_2_182 : (Cond.code yJx4a65c_add_9ea2d prog_26_method_25_code 2 (Option.some Jvm.ClassFile.FieldType.boolean)) ∈ GW := mGW (tb2 (List.mem_of_getElem? (i := 182) rfl)) rfl
theorem tw_2_183 : (Cond.methodLink "java/util/ArrayList" 131 yJx4a65c_add_72be8) ∈ GW := mGW (tb2 (List.mem_of_getElem? (i := 183) rfl)) rfl
theorem tw_2_185 : (Cond.instanceMethod yJx4a65c_add_72be8) ∈ GW := mGW (tb2 (List.mem_of_getElem? (i := 185) rfl)) rfl
theorem tw_2_186 : (Cond.code yJx4a65c_add_72be8 prog_26_method_24_code 4 (Option.none : Option Jvm.ClassFile.FieldType)) ∈ GW := mGW (tb2 (List.mem_of_getElem? (i := 186) rfl)) rfl
theorem tw_2_187 : (Cond.methodLink "java/util/ArrayList" 129 yJx4a65c_grow_d5877) ∈ GW := mGW (tb2 (List.mem_of_getElem? (i := 187) rfl)) rfl
theorem tw_2_189 : (Cond.instanceMethod yJx4a65c_grow_d5877) ∈ GW := mGW (tb2 (List.mem_of_getElem? (i := 189) rfl)) rfl
theorem tw_2_190 : (Cond.code yJx4a65c_grow_d5877 prog_26_method_7_code 1 (Option.some (Jvm.ClassFile.FieldType.array (Jvm.ClassFile.FieldType.object "java/lang/Object")))) ∈ GW := mGW (tb2 (List.mem_of_getElem? (i := 190) rfl)) rfl
theorem tw_2_191 : (Cond.methodLink "java/util/ArrayList" 69 yJx4a65c_grow_92f84) ∈ GW := mGW (tb2 (List.mem_of_getElem? (i := 191) rfl)) rfl
theorem tw_2_193 : (Cond.instanceMethod yJx4a65c_grow_92f84) ∈ GW := mGW (tb2 (List.mem_of_getElem? (i := 193) rfl)) rfl
theorem tw_2_194 : (Cond.code yJx4a65c_grow_92f84 prog_26_method_6_code 4 (Option.some (Jvm.ClassFile.FieldType.array (Jvm.ClassFile.FieldType.object "java/lang/Object")))) ∈ GW := mGW (tb2 (List.mem_of_getElem? (i := 194) rfl)) rfl
theorem tw_2_195 : (Cond.methodLink "java/util/ArrayList" 73 yJ8_newLength_cabcc) ∈ GW := mGW (tb2 (List.mem_of_getElem? (i := 195) rfl)) rfl
theorem tw_2_196 : (Cond.static yJ8_newLength_cabcc) ∈ GW := mGW (tb2 (List.mem_of_getElem? (i := 196) rfl)) rfl
theorem tw_2_197 : (Cond.code yJ8_newLength_cabcc prog_33_method_27_code 4 (Option.some Jvm.ClassFile.FieldType.int)) ∈ GW := mGW (tb2 (List.mem_of_getElem? (i := 197) rfl)) rfl
theorem tw_2_198 : (Cond.methodLink "jdk/internal/util/ArraysSupport" 194 yJ9_max_7cf53) ∈ GW := mGW (tb2 (List.mem_of_getElem? (i := 198) rfl)) rfl
theorem tw_2_199 : (Cond.constant "jdk/internal/util/ArraysSupport" 200 2147483639) ∈ GW := mGW (tb2 (List.mem_of_getElem? (i := 199) rfl)) rfl
theorem tw_2_200 : (Cond.methodLink "jdk/internal/util/ArraysSupport" 201 yJ8_hugeLength_7cf53) ∈ GW := mGW (tb2 (List.mem_of_getElem? (i := 200) rfl)) rfl
theorem tw_2_201 : (Cond.static yJ8_hugeLength_7cf53) ∈ GW := mGW (tb2 (List.mem_of_getElem? (i := 201) rfl)) rfl
theorem tw_2_202 : (Cond.code yJ8_hugeLength_7cf53 prog_33_method_28_code 3 (Option.some Jvm.ClassFile.FieldType.int)) ∈ GW := mGW (tb2 (List.mem_of_getElem? (i := 202) rfl)) rfl
theorem tw_2_203 : (Cond.methodLink "java/util/ArrayList" 66 yJ7_copyOf_1904c) ∈ GW := mGW (tb2 (List.mem_of_getElem? (i := 203) rfl)) rfl
theorem tw_2_204 : (Cond.static yJ7_copyOf_1904c) ∈ GW := mGW (tb2 (List.mem_of_getElem? (i := 204) rfl)) rfl
theorem tw_2_205 : (Cond.code yJ7_copyOf_1904c prog_27_method_119_code 2 (Option.some (Jvm.ClassFile.FieldType.array (Jvm.ClassFile.FieldType.object "java/lang/Object")))) ∈ GW := mGW (tb2 (List.mem_of_getElem? (i := 205) rfl)) rfl
theorem tw_2_206 : (Cond.methodLink "java/util/Arrays" 86 ⟨"java/lang/Object", "getClass", "()Ljava/lang/Class;"⟩) ∈ GW := mGW (tb2 (List.mem_of_getElem? (i := 206) rfl)) rfl
theorem tw_2_207 : (Cond.instanceMethod ⟨"java/lang/Object", "getClass", "()Ljava/lang/Class;"⟩) ∈ GW := mGW (tb2 (List.mem_of_getElem? (i := 207) rfl)) rfl
theorem tw_2_208 : (Cond.sameMethod "java/lang/Object" "java/lang/Object" "getClass" "()Ljava/lang/Class;") ∈ lw_tbl := tb2 (List.mem_of_getElem? (i := 208) rfl)
theorem tw_2_209 : (Cond.selects "Trenchboard" ⟨"java/lang/Object", "getClass", "()Ljava/lang/Class;"⟩ ⟨"java/lang/Object", "getClass", "()Ljava/lang/Class;"⟩) ∈ GW := mGW (tb2 (List.mem_of_getElem? (i := 209) rfl)) rfl
theorem tw_2_210 : (Cond.selects "Trenchboard$Fill" ⟨"java/lang/Object", "getClass", "()Ljava/lang/Class;"⟩ ⟨"java/lang/Object", "getClass", "()Ljava/lang/Class;"⟩) ∈ GW := mGW (tb2 (List.mem_of_getElem? (i := 210) rfl)) rfl
theorem tw_2_211 : (Cond.selects "Trenchboard$Ledger" ⟨"java/lang/Object", "getClass", "()Ljava/lang/Class;"⟩ ⟨"java/lang/Object", "getClass", "()Ljava/lang/Class;"⟩) ∈ GW := mGW (tb2 (List.mem_of_getElem? (i := 211) rfl)) rfl
theorem tw_2_212 : (Cond.selects "Trenchboard$Metre" ⟨"java/lang/Object", "getClass", "()Ljava/lang/Class;"⟩ ⟨"java/lang/Object", "getClass", "()Ljava/lang/Class;"⟩) ∈ GW := mGW (tb2 (List.mem_of_getElem? (i := 212) rfl)) rfl
theorem tw_2_213 : (Cond.selects "Trenchboard$Party" ⟨"java/lang/Object", "getClass", "()Ljava/lang/Class;"⟩ ⟨"java/lang/Object", "getClass", "()Ljava/lang/Class;"⟩) ∈ GW := mGW (tb2 (List.mem_of_getElem? (i := 213) rfl)) rfl
theorem tw_2_214 : (Cond.selects "Trenchboard$Street" ⟨"java/lang/Object", "getClass", "()Ljava/lang/Class;"⟩ ⟨"java/lang/Object", "getClass", "()Ljava/lang/Class;"⟩) ∈ GW := mGW (tb2 (List.mem_of_getElem? (i := 214) rfl)) rfl
theorem tw_2_215 : (Cond.selects "Trenchboard$Telling" ⟨"java/lang/Object", "getClass", "()Ljava/lang/Class;"⟩ ⟨"java/lang/Object", "getClass", "()Ljava/lang/Class;"⟩) ∈ GW := mGW (tb2 (List.mem_of_getElem? (i := 215) rfl)) rfl
theorem tw_2_216 : (Cond.selects "Trenchboard$Thing" ⟨"java/lang/Object", "getClass", "()Ljava/lang/Class;"⟩ ⟨"java/lang/Object", "getClass", "()Ljava/lang/Class;"⟩) ∈ GW := mGW (tb2 (List.mem_of_getElem? (i := 216) rfl)) rfl
theorem tw_2_217 : (Cond.selects "Trenchboard$Works" ⟨"java/lang/Object", "getClass", "()Ljava/lang/Class;"⟩ ⟨"java/lang/Object", "getClass", "()Ljava/lang/Class;"⟩) ∈ GW := mGW (tb2 (List.mem_of_getElem? (i := 217) rfl)) rfl
theorem tw_2_218 : (Cond.selects "java/lang/IllegalArgumentException" ⟨"java/lang/Object", "getClass", "()Ljava/lang/Class;"⟩ ⟨"java/lang/Object", "getClass", "()Ljava/lang/Class;"⟩) ∈ GW := mGW (tb2 (List.mem_of_getElem? (i := 218) rfl)) rfl
theorem tw_2_219 : (Cond.selects "java/lang/IllegalStateException" ⟨"java/lang/Object", "getClass", "()Ljava/lang/Class;"⟩ ⟨"java/lang/Object", "getClass", "()Ljava/lang/Class;"⟩) ∈ GW := mGW (tb2 (List.mem_of_getElem? (i := 219) rfl)) rfl
theorem tw_2_220 : (Cond.selects "java/lang/IndexOutOfBoundsException" ⟨"java/lang/Object", "getClass", "()Ljava/lang/Class;"⟩ ⟨"java/lang/Object", "getClass", "()Ljava/lang/Class;"⟩) ∈ GW := mGW (tb2 (List.mem_of_getElem? (i := 220) rfl)) rfl
theorem tw_2_221 : (Cond.selects "java/util/ArrayList" ⟨"java/lang/Object", "getClass", "()Ljava/lang/Class;"⟩ ⟨"java/lang/Object", "getClass", "()Ljava/lang/Class;"⟩) ∈ GW := mGW (tb2 (List.mem_of_getElem? (i := 221) rfl)) rfl
theorem tw_2_222 : (Cond.native ⟨"java/lang/Object", "getClass", "()Ljava/lang/Class;"⟩) ∈ GW := mGW (tb2 (List.mem_of_getElem? (i := 222) rfl)) rfl
theorem tw_2_223 : (Cond.methodLink "java/util/Arrays" 300 yJ7_copyOf_6403c) ∈ GW := mGW (tb2 (List.mem_of_getElem? (i := 223) rfl)) rfl
theorem tw_2_224 : (Cond.static yJ7_copyOf_6403c) ∈ GW := mGW (tb2 (List.mem_of_getElem? (i := 224) rfl)) rfl
theorem tw_2_225 : (Cond.code yJ7_copyOf_6403c prog_27_method_120_code 4 (Option.some (Jvm.ClassFile.FieldType.array (Jvm.ClassFile.FieldType.object "java/lang/Object")))) ∈ GW := mGW (tb2 (List.mem_of_getElem? (i := 225) rfl)) rfl
theorem tw_2_226 : (Cond.classLink "java/util/Arrays" 110 "[Ljava/lang/Object;") ∈ GW := mGW (tb2 (List.mem_of_getElem? (i := 226) rfl)) rfl
theorem tw_2_227 : (Cond.arrayOver (Jvm.ClassFile.FieldType.object "java/lang/Object")) ∈ lw_tbl := tb2 (List.mem_of_getElem? (i := 227) rfl)
theorem tw_2_228 : (Cond.classLink "java/util/Arrays" 2 "java/lang/Object") ∈ GW := mGW (tb2 (List.mem_of_getElem? (i := 228) rfl)) rfl
theorem tw_2_229 : (Cond.methodLink "java/util/Arrays" 304 yJ9_min_7cf53) ∈ GW := mGW (tb2 (List.mem_of_getElem? (i := 229) rfl)) rfl
theorem tw_2_230 : (Cond.static yJ9_min_7cf53) ∈ GW := mGW (tb2 (List.mem_of_getElem? (i := 230) rfl)) rfl
theorem tw_2_231 : (Cond.code yJ9_min_7cf53 prog_19_method_69_code 2 (Option.some Jvm.ClassFile.FieldType.int)) ∈ GW := mGW (tb2 (List.mem_of_getElem? (i := 231) rfl)) rfl
theorem tw_2_232 : (Cond.methodLink "java/util/Arrays" 150 ⟨"java/lang/System", "arraycopy", "(Ljava/lang/Object;ILjava/lang/Object;II)V"⟩) ∈ GW := mGW (tb2 (List.mem_of_getElem? (i := 232) rfl)) rfl
theorem tw_2_233 : (Cond.static ⟨"java/lang/System", "arraycopy", "(Ljava/lang/Object;ILjava/lang/Object;II)V"⟩) ∈ GW := mGW (tb2 (List.mem_of_getElem? (i := 233) rfl)) rfl
theorem tw_2_234 : (Cond.native ⟨"java/lang/System", "arraycopy", "(Ljava/lang/Object;ILjava/lang/Object;II)V"⟩) ∈ GW := mGW (tb2 (List.mem_of_getElem? (i := 234) rfl)) rfl
theorem tw_2_235 : (Cond.methodLink "java/util/ArrayList" 79 yJ9_max_7cf53) ∈ GW := mGW (tb2 (List.mem_of_getElem? (i := 235) rfl)) rfl
theorem tw_2_236 : (Cond.classLink "java/util/ArrayList" 7 "java/lang/Object") ∈ GW := mGW (tb2 (List.mem_of_getElem? (i := 236) rfl)) rfl
theorem tw_2_237 : (Cond.methodLink "TrenchboardLaw" 19 yX8_embargo) ∈ GW := mGW (tb2 (List.mem_of_getElem? (i := 237) rfl)) rfl
theorem tw_2_238 : (Cond.instanceMethod yX8_embargo) ∈ GW := mGW (tb2 (List.mem_of_getElem? (i := 238) rfl)) rfl
theorem tw_2_239 : (Cond.selects "Trenchboard" yX8_embargo yX8_embargo) ∈ GW := mGW (tb2 (List.mem_of_getElem? (i := 239) rfl)) rfl
theorem tw_3_0 : (Cond.code yX8_embargo prog_1_method_4_code 8 (Option.some Jvm.ClassFile.FieldType.int)) ∈ GW := mGW (tb3 (List.mem_of_getElem? (i := 0) rfl)) rfl
theorem tw_3_1 : (Cond.stringRef "Trenchboard" 106 "days out of range") ∈ lw_tbl := tb3 (List.mem_of_getElem? (i := 1) rfl)
theorem tw_3_2 : (Cond.methodLink "Trenchboard" 127 yX4_hasEmbargoIn) ∈ GW := mGW (tb3 (List.mem_of_getElem? (i := 2) rfl)) rfl
theorem tw_3_3 : (Cond.instanceMethod yX4_hasEmbargoIn) ∈ GW := mGW (tb3 (List.mem_of_getElem? (i := 3) rfl)) rfl
theorem tw_3_4 : (Cond.selects "Trenchboard$Street" yX4_hasEmbargoIn yX4_hasEmbargoIn) ∈ GW := mGW (tb3 (List.mem_of_getElem? (i := 4) rfl)) rfl
theorem tw_3_5 : (Cond.code yX4_hasEmbargoIn prog_6_method_4_code 3 (Option.some Jvm.ClassFile.FieldType.boolean)) ∈ GW := mGW (tb3 (List.mem_of_getElem? (i := 5) rfl)) rfl
theorem tw_3_6 : (Cond.methodLinkNest "Trenchboard$Street" 53 yX8_overlap "Trenchboard") ∈ lw_tbl := tb3 (List.mem_of_getElem? (i := 6) rfl)
theorem tw_3_7 : (Cond.methodLink "TrenchboardLaw" 23 yX8_thing) ∈ GW := mGW (tb3 (List.mem_of_getElem? (i := 7) rfl)) rfl
theorem tw_3_8 : (Cond.instanceMethod yX8_thing) ∈ GW := mGW (tb3 (List.mem_of_getElem? (i := 8) rfl)) rfl
theorem tw_3_9 : (Cond.selects "Trenchboard" yX8_thing yX8_thing) ∈ GW := mGW (tb3 (List.mem_of_getElem? (i := 9) rfl)) rfl
theorem tw_3_10 : (Cond.code yX8_thing prog_1_method_5_code 9 (Option.some Jvm.ClassFile.FieldType.int)) ∈ GW := mGW (tb3 (List.mem_of_getElem? (i := 10) rfl)) rfl
theorem tw_3_11 : (Cond.methodLink "Trenchboard" 131 yX8_isPromoter) ∈ GW := mGW (tb3 (List.mem_of_getElem? (i := 11) rfl)) rfl
theorem tw_3_12 : (Cond.static yX8_isPromoter) ∈ GW := mGW (tb3 (List.mem_of_getElem? (i := 12) rfl)) rfl
theorem tw_3_13 : (Cond.code yX8_isPromoter prog_1_method_40_code 1 (Option.some Jvm.ClassFile.FieldType.boolean)) ∈ GW := mGW (tb3 (List.mem_of_getElem? (i := 13) rfl)) rfl
theorem tw_3_14 : (Cond.stringRef "Trenchboard" 139 "no such promoter, street or metre") ∈ lw_tbl := tb3 (List.mem_of_getElem? (i := 14) rfl)
theorem tw_3_15 : (Cond.stringRef "Trenchboard" 141 "metres the wrong way round, or depth out of range") ∈ lw_tbl := tb3 (List.mem_of_getElem? (i := 15) rfl)
theorem tw_3_16 : (Cond.stringRef "Trenchboard" 146 "no more things") ∈ lw_tbl := tb3 (List.mem_of_getElem? (i := 16) rfl)
theorem tw_3_17 : (Cond.instantiable "Trenchboard$Thing" 8) ∈ GW := mGW (tb3 (List.mem_of_getElem? (i := 17) rfl)) rfl
theorem tw_3_18 : (Cond.methodLink "Trenchboard" 148 yX6_init) ∈ GW := mGW (tb3 (List.mem_of_getElem? (i := 18) rfl)) rfl
theorem tw_3_19 : (Cond.instanceMethod yX6_init) ∈ GW := mGW (tb3 (List.mem_of_getElem? (i := 19) rfl)) rfl
theorem tw_3_20 : (Cond.code yX6_init prog_8_method_1_code 6 (Option.none : Option Jvm.ClassFile.FieldType)) ∈ GW := mGW (tb3 (List.mem_of_getElem? (i := 20) rfl)) rfl
theorem tw_3_21 : (Cond.methodLink "Trenchboard$Thing" 1 ⟨"java/lang/Object", "<init>", "()V"⟩) ∈ GW := mGW (tb3 (List.mem_of_getElem? (i := 21) rfl)) rfl
theorem tw_3_22 : (Cond.fieldLink "Trenchboard$Thing" 7 "Trenchboard$Thing" "owner" "I") ∈ GW := mGW (tb3 (List.mem_of_getElem? (i := 22) rfl)) rfl
theorem tw_3_23 : (Cond.fieldLink "Trenchboard" 468 "Trenchboard$Thing" "owner" "I") ∈ GW := mGW (tb3 (List.mem_of_getElem? (i := 23) rfl)) rfl
theorem tw_3_24 : (Cond.fieldLink "Trenchboard$Thing" 13 "Trenchboard$Thing" "street" "LTrenchboard$Street;") ∈ GW := mGW (tb3 (List.mem_of_getElem? (i := 24) rfl)) rfl
theorem tw_3_25 : (Cond.fieldLink "Trenchboard" 161 "Trenchboard$Thing" "street" "LTrenchboard$Street;") ∈ GW := mGW (tb3 (List.mem_of_getElem? (i := 25) rfl)) rfl
theorem tw_3_26 : (Cond.fieldLink "Trenchboard$Thing" 17 "Trenchboard$Thing" "from" "I") ∈ GW := mGW (tb3 (List.mem_of_getElem? (i := 26) rfl)) rfl
theorem tw_3_27 : (Cond.fieldLink "Trenchboard" 183 "Trenchboard$Thing" "from" "I") ∈ GW := mGW (tb3 (List.mem_of_getElem? (i := 27) rfl)) rfl
theorem tw_3_28 : (Cond.fieldLink "Trenchboard$Thing" 20 "Trenchboard$Thing" "to" "I") ∈ GW := mGW (tb3 (List.mem_of_getElem? (i := 28) rfl)) rfl
theorem tw_3_29 : (Cond.fieldLink "Trenchboard" 186 "Trenchboard$Thing" "to" "I") ∈ GW := mGW (tb3 (List.mem_of_getElem? (i := 29) rfl)) rfl
theorem tw_3_30 : (Cond.fieldLink "Trenchboard$Thing" 23 "Trenchboard$Thing" "depth" "I") ∈ GW := mGW (tb3 (List.mem_of_getElem? (i := 30) rfl)) rfl
theorem tw_3_31 : (Cond.fieldLink "Trenchboard" 467 "Trenchboard$Thing" "depth" "I") ∈ GW := mGW (tb3 (List.mem_of_getElem? (i := 31) rfl)) rfl
theorem tw_3_32 : (Cond.fieldLink "Trenchboard$Thing" 26 "Trenchboard$Thing" "recorded" "Z") ∈ GW := mGW (tb3 (List.mem_of_getElem? (i := 32) rfl)) rfl
theorem tw_3_33 : (Cond.fieldLink "Trenchboard" 175 "Trenchboard$Thing" "recorded" "Z") ∈ GW := mGW (tb3 (List.mem_of_getElem? (i := 33) rfl)) rfl
theorem tw_3_34 : (Cond.fieldLink "Trenchboard$Thing" 36 "Trenchboard$Thing" "suspectFrom" "I") ∈ GW := mGW (tb3 (List.mem_of_getElem? (i := 34) rfl)) rfl
theorem tw_3_35 : (Cond.fieldLink "Trenchboard" 457 "Trenchboard$Thing" "suspectFrom" "I") ∈ GW := mGW (tb3 (List.mem_of_getElem? (i := 35) rfl)) rfl
theorem tw_3_36 : (Cond.fieldLink "Trenchboard$Thing" 48 "Trenchboard$Thing" "suspectTo" "I") ∈ GW := mGW (tb3 (List.mem_of_getElem? (i := 36) rfl)) rfl
theorem tw_3_37 : (Cond.fieldLink "Trenchboard" 460 "Trenchboard$Thing" "suspectTo" "I") ∈ GW := mGW (tb3 (List.mem_of_getElem? (i := 37) rfl)) rfl
theorem tw_3_38 : (Cond.laysFinal "Trenchboard$Thing" "Trenchboard$Thing" "owner" "I") ∈ GW := mGW (tb3 (List.mem_of_getElem? (i := 38) rfl)) rfl
theorem tw_3_40 : (Cond.laysFinal "Trenchboard$Thing" "Trenchboard$Thing" "street" "LTrenchboard$Street;") ∈ GW := mGW (tb3 (List.mem_of_getElem? (i := 40) rfl)) rfl
theorem tw_3_42 : (Cond.laysFinal "Trenchboard$Thing" "Trenchboard$Thing" "from" "I") ∈ GW := mGW (tb3 (List.mem_of_getElem? (i := 42) rfl)) rfl
theorem tw_3_44 : (Cond.laysFinal "Trenchboard$Thing" "Trenchboard$Thing" "to" "I") ∈ GW := mGW (tb3 (List.mem_of_getElem? (i := 44) rfl)) rfl
theorem tw_3_46 : (Cond.laysFinal "Trenchboard$Thing" "Trenchboard$Thing" "depth" "I") ∈ GW := mGW (tb3 (List.mem_of_getElem? (i := 46) rfl)) rfl
theorem tw_3_48 : (Cond.lays "Trenchboard$Thing" "Trenchboard$Thing" "recorded" "Z") ∈ GW := mGW (tb3 (List.mem_of_getElem? (i := 48) rfl)) rfl
theorem tw_3_50 : (Cond.lays "Trenchboard$Thing" "Trenchboard$Thing" "suspectFrom" "I") ∈ GW := mGW (tb3 (List.mem_of_getElem? (i := 50) rfl)) rfl
theorem tw_3_52 : (Cond.lays "Trenchboard$Thing" "Trenchboard$Thing" "suspectTo" "I") ∈ GW := mGW (tb3 (List.mem_of_getElem? (i := 52) rfl)) rfl
theorem tw_3_54 : (Cond.superclass "Trenchboard$Thing" "java/lang/Object") ∈ lw_tbl := tb3 (List.mem_of_getElem? (i := 54) rfl)
theorem tw_3_55 : (Cond.methodLink "TrenchboardLaw" 27 yX8_record) ∈ GW := mGW (tb3 (List.mem_of_getElem? (i := 55) rfl)) rfl
theorem tw_3_56 : (Cond.instanceMethod yX8_record) ∈ GW := mGW (tb3 (List.mem_of_getElem? (i := 56) rfl)) rfl
theorem tw_3_57 : (Cond.selects "Trenchboard" yX8_record yX8_record) ∈ GW := mGW (tb3 (List.mem_of_getElem? (i := 57) rfl)) rfl
theorem tw_3_58 : (Cond.code yX8_record prog_1_method_6_code 6 (Option.some Jvm.ClassFile.FieldType.int)) ∈ GW := mGW (tb3 (List.mem_of_getElem? (i := 58) rfl)) rfl
theorem tw_3_59 : (Cond.methodLink "Trenchboard" 157 yX8_thingAt) ∈ GW := mGW (tb3 (List.mem_of_getElem? (i := 59) rfl)) rfl
theorem tw_3_61 : (Cond.instanceMethod yX8_thingAt) ∈ GW := mGW (tb3 (List.mem_of_getElem? (i := 61) rfl)) rfl
theorem tw_3_62 : (Cond.code yX8_thingAt prog_1_method_37_code 2 (Option.some (Jvm.ClassFile.FieldType.object "Trenchboard$Thing"))) ∈ GW := mGW (tb3 (List.mem_of_getElem? (i := 62) rfl)) rfl
theorem tw_3_63 : (Cond.stringRef "Trenchboard" 162 "no such thing or metre") ∈ lw_tbl := tb3 (List.mem_of_getElem? (i := 63) rfl)
theorem tw_3_64 : (Cond.stringRef "Trenchboard" 164 "metres the wrong way round, or off out of range") ∈ lw_tbl := tb3 (List.mem_of_getElem? (i := 64) rfl)
theorem tw_3_65 : (Cond.methodLink "Trenchboard" 166 yX6_putRecord) ∈ GW := mGW (tb3 (List.mem_of_getElem? (i := 65) rfl)) rfl
theorem tw_3_66 : (Cond.instanceMethod yX6_putRecord) ∈ GW := mGW (tb3 (List.mem_of_getElem? (i := 66) rfl)) rfl
theorem tw_3_67 : (Cond.selects "Trenchboard$Thing" yX6_putRecord yX6_putRecord) ∈ GW := mGW (tb3 (List.mem_of_getElem? (i := 67) rfl)) rfl
theorem tw_3_68 : (Cond.code yX6_putRecord prog_8_method_2_code 4 (Option.none : Option Jvm.ClassFile.FieldType)) ∈ GW := mGW (tb3 (List.mem_of_getElem? (i := 68) rfl)) rfl
theorem tw_3_69 : (Cond.methodLink "Trenchboard$Thing" 30 yJ9_max_7cf53) ∈ GW := mGW (tb3 (List.mem_of_getElem? (i := 69) rfl)) rfl
theorem tw_3_70 : (Cond.methodLink "Trenchboard$Thing" 45 yJ9_min_7cf53) ∈ GW := mGW (tb3 (List.mem_of_getElem? (i := 70) rfl)) rfl
theorem tw_3_71 : (Cond.methodLink "Trenchboard" 170 yX6_suspectMetres) ∈ GW := mGW (tb3 (List.mem_of_getElem? (i := 71) rfl)) rfl
theorem tw_3_72 : (Cond.instanceMethod yX6_suspectMetres) ∈ GW := mGW (tb3 (List.mem_of_getElem? (i := 72) rfl)) rfl
theorem tw_3_73 : (Cond.selects "Trenchboard$Thing" yX6_suspectMetres yX6_suspectMetres) ∈ GW := mGW (tb3 (List.mem_of_getElem? (i := 73) rfl)) rfl
theorem tw_3_74 : (Cond.code yX6_suspectMetres prog_8_method_3_code 1 (Option.some Jvm.ClassFile.FieldType.int)) ∈ GW := mGW (tb3 (List.mem_of_getElem? (i := 74) rfl)) rfl
theorem tw_3_75 : (Cond.methodLink "TrenchboardLaw" 30 yX8_lose) ∈ GW := mGW (tb3 (List.mem_of_getElem? (i := 75) rfl)) rfl
theorem tw_3_76 : (Cond.instanceMethod yX8_lose) ∈ GW := mGW (tb3 (List.mem_of_getElem? (i := 76) rfl)) rfl
theorem tw_3_77 : (Cond.selects "Trenchboard" yX8_lose yX8_lose) ∈ GW := mGW (tb3 (List.mem_of_getElem? (i := 77) rfl)) rfl
theorem tw_3_78 : (Cond.code yX8_lose prog_1_method_7_code 4 (Option.some Jvm.ClassFile.FieldType.boolean)) ∈ GW := mGW (tb3 (List.mem_of_getElem? (i := 78) rfl)) rfl
theorem tw_3_79 : (Cond.stringRef "Trenchboard" 173 "no such thing") ∈ lw_tbl := tb3 (List.mem_of_getElem? (i := 79) rfl)
theorem tw_3_80 : (Cond.methodLink "TrenchboardLaw" 34 yX8_survey) ∈ GW := mGW (tb3 (List.mem_of_getElem? (i := 80) rfl)) rfl
theorem tw_3_81 : (Cond.instanceMethod yX8_survey) ∈ GW := mGW (tb3 (List.mem_of_getElem? (i := 81) rfl)) rfl
theorem tw_3_82 : (Cond.selects "Trenchboard" yX8_survey yX8_survey) ∈ GW := mGW (tb3 (List.mem_of_getElem? (i := 82) rfl)) rfl
theorem tw_3_83 : (Cond.code yX8_survey prog_1_method_8_code 4 (Option.some Jvm.ClassFile.FieldType.int)) ∈ GW := mGW (tb3 (List.mem_of_getElem? (i := 83) rfl)) rfl
theorem tw_3_84 : (Cond.methodLink "Trenchboard" 178 yX6_liesInSureMetre) ∈ GW := mGW (tb3 (List.mem_of_getElem? (i := 84) rfl)) rfl
theorem tw_3_85 : (Cond.instanceMethod yX6_liesInSureMetre) ∈ GW := mGW (tb3 (List.mem_of_getElem? (i := 85) rfl)) rfl
theorem tw_3_86 : (Cond.selects "Trenchboard$Thing" yX6_liesInSureMetre yX6_liesInSureMetre) ∈ GW := mGW (tb3 (List.mem_of_getElem? (i := 86) rfl)) rfl
theorem tw_3_87 : (Cond.code yX6_liesInSureMetre prog_8_method_5_code 3 (Option.some Jvm.ClassFile.FieldType.boolean)) ∈ GW := mGW (tb3 (List.mem_of_getElem? (i := 87) rfl)) rfl
theorem tw_3_88 : (Cond.methodLink "Trenchboard$Thing" 51 yX4_metreAt) ∈ GW := mGW (tb3 (List.mem_of_getElem? (i := 88) rfl)) rfl
theorem tw_3_89 : (Cond.stringRef "Trenchboard" 181 "no metre of it is sure") ∈ lw_tbl := tb3 (List.mem_of_getElem? (i := 89) rfl)
theorem tw_3_90 : (Cond.methodLink "TrenchboardLaw" 37 yX8_trial) ∈ GW := mGW (tb3 (List.mem_of_getElem? (i := 90) rfl)) rfl
theorem tw_3_91 : (Cond.instanceMethod yX8_trial) ∈ GW := mGW (tb3 (List.mem_of_getElem? (i := 91) rfl)) rfl
theorem tw_3_92 : (Cond.selects "Trenchboard" yX8_trial yX8_trial) ∈ GW := mGW (tb3 (List.mem_of_getElem? (i := 92) rfl)) rfl
theorem tw_3_93 : (Cond.code yX8_trial prog_1_method_9_code 8 (Option.some Jvm.ClassFile.FieldType.int)) ∈ GW := mGW (tb3 (List.mem_of_getElem? (i := 93) rfl)) rfl
theorem tw_3_94 : (Cond.methodLink "Trenchboard" 191 yX6_liesAt) ∈ GW := mGW (tb3 (List.mem_of_getElem? (i := 94) rfl)) rfl
theorem tw_3_95 : (Cond.instanceMethod yX6_liesAt) ∈ GW := mGW (tb3 (List.mem_of_getElem? (i := 95) rfl)) rfl
theorem tw_3_96 : (Cond.selects "Trenchboard$Thing" yX6_liesAt yX6_liesAt) ∈ GW := mGW (tb3 (List.mem_of_getElem? (i := 96) rfl)) rfl
theorem tw_3_97 : (Cond.code yX6_liesAt prog_8_method_4_code 3 (Option.some Jvm.ClassFile.FieldType.boolean)) ∈ GW := mGW (tb3 (List.mem_of_getElem? (i := 97) rfl)) rfl
theorem tw_3_98 : (Cond.methodLink "TrenchboardLaw" 41 yX8_grant) ∈ GW := mGW (tb3 (List.mem_of_getElem? (i := 98) rfl)) rfl
theorem tw_3_99 : (Cond.instanceMethod yX8_grant) ∈ GW := mGW (tb3 (List.mem_of_getElem? (i := 99) rfl)) rfl
theorem tw_3_100 : (Cond.selects "Trenchboard" yX8_grant yX8_grant) ∈ GW := mGW (tb3 (List.mem_of_getElem? (i := 100) rfl)) rfl
theorem tw_3_101 : (Cond.code yX8_grant prog_1_method_11_code 4 (Option.some Jvm.ClassFile.FieldType.int)) ∈ GW := mGW (tb3 (List.mem_of_getElem? (i := 101) rfl)) rfl
theorem tw_3_102 : (Cond.methodLink "Trenchboard" 221 yX8_worksAt) ∈ GW := mGW (tb3 (List.mem_of_getElem? (i := 102) rfl)) rfl
theorem tw_3_104 : (Cond.instanceMethod yX8_worksAt) ∈ GW := mGW (tb3 (List.mem_of_getElem? (i := 104) rfl)) rfl
theorem tw_3_105 : (Cond.code yX8_worksAt prog_1_method_38_code 2 (Option.some (Jvm.ClassFile.FieldType.object "Trenchboard$Works"))) ∈ GW := mGW (tb3 (List.mem_of_getElem? (i := 105) rfl)) rfl
theorem tw_3_106 : (Cond.stringRef "Trenchboard" 225 "no such works") ∈ lw_tbl := tb3 (List.mem_of_getElem? (i := 106) rfl)
theorem tw_3_107 : (Cond.stringRef "Trenchboard" 227 "conditions out of range") ∈ lw_tbl := tb3 (List.mem_of_getElem? (i := 107) rfl)
theorem tw_3_108 : (Cond.methodLink "Trenchboard" 229 yX8_whatBars) ∈ GW := mGW (tb3 (List.mem_of_getElem? (i := 108) rfl)) rfl
theorem tw_3_110 : (Cond.instanceMethod yX8_whatBars) ∈ GW := mGW (tb3 (List.mem_of_getElem? (i := 110) rfl)) rfl
theorem tw_3_111 : (Cond.code yX8_whatBars prog_1_method_54_code 3 (Option.some Jvm.ClassFile.FieldType.int)) ∈ GW := mGW (tb3 (List.mem_of_getElem? (i := 111) rfl)) rfl
theorem tw_3_112 : (Cond.methodLink "Trenchboard" 347 yX7_endOn) ∈ GW := mGW (tb3 (List.mem_of_getElem? (i := 112) rfl)) rfl
theorem tw_3_113 : (Cond.instanceMethod yX7_endOn) ∈ GW := mGW (tb3 (List.mem_of_getElem? (i := 113) rfl)) rfl
theorem tw_3_114 : (Cond.selects "Trenchboard$Works" yX7_endOn yX7_endOn) ∈ GW := mGW (tb3 (List.mem_of_getElem? (i := 114) rfl)) rfl
theorem tw_3_115 : (Cond.code yX7_endOn prog_9_method_10_code 2 (Option.some Jvm.ClassFile.FieldType.int)) ∈ GW := mGW (tb3 (List.mem_of_getElem? (i := 115) rfl)) rfl
theorem tw_3_116 : (Cond.methodLink "Trenchboard$Works" 63 yJ9_max_7cf53) ∈ GW := mGW (tb3 (List.mem_of_getElem? (i := 116) rfl)) rfl
theorem tw_3_117 : (Cond.methodLink "Trenchboard" 474 yX4_isNewIn) ∈ GW := mGW (tb3 (List.mem_of_getElem? (i := 117) rfl)) rfl
theorem tw_3_118 : (Cond.instanceMethod yX4_isNewIn) ∈ GW := mGW (tb3 (List.mem_of_getElem? (i := 118) rfl)) rfl
theorem tw_3_119 : (Cond.selects "Trenchboard$Street" yX4_isNewIn yX4_isNewIn) ∈ GW := mGW (tb3 (List.mem_of_getElem? (i := 119) rfl)) rfl
theorem tw_3_120 : (Cond.code yX4_isNewIn prog_6_method_5_code 3 (Option.some Jvm.ClassFile.FieldType.boolean)) ∈ GW := mGW (tb3 (List.mem_of_getElem? (i := 120) rfl)) rfl
theorem tw_3_121 : (Cond.methodLink "Trenchboard" 339 yX8_firstMet) ∈ GW := mGW (tb3 (List.mem_of_getElem? (i := 121) rfl)) rfl
theorem tw_3_123 : (Cond.instanceMethod yX8_firstMet) ∈ GW := mGW (tb3 (List.mem_of_getElem? (i := 123) rfl)) rfl
theorem tw_3_124 : (Cond.code yX8_firstMet prog_1_method_55_code 7 (Option.some Jvm.ClassFile.FieldType.int)) ∈ GW := mGW (tb3 (List.mem_of_getElem? (i := 124) rfl)) rfl
theorem tw_3_125 : (Cond.methodLink "Trenchboard" 244 yX7_isStanding) ∈ GW := mGW (tb3 (List.mem_of_getElem? (i := 125) rfl)) rfl
theorem tw_3_126 : (Cond.instanceMethod yX7_isStanding) ∈ GW := mGW (tb3 (List.mem_of_getElem? (i := 126) rfl)) rfl
theorem tw_3_127 : (Cond.selects "Trenchboard$Works" yX7_isStanding yX7_isStanding) ∈ GW := mGW (tb3 (List.mem_of_getElem? (i := 127) rfl)) rfl
theorem tw_3_128 : (Cond.code yX7_isStanding prog_9_method_6_code 1 (Option.some Jvm.ClassFile.FieldType.boolean)) ∈ GW := mGW (tb3 (List.mem_of_getElem? (i := 128) rfl)) rfl
theorem tw_3_129 : (Cond.methodLink "Trenchboard" 477 yX7_mayMeet) ∈ GW := mGW (tb3 (List.mem_of_getElem? (i := 129) rfl)) rfl
theorem tw_3_130 : (Cond.static yX7_mayMeet) ∈ GW := mGW (tb3 (List.mem_of_getElem? (i := 130) rfl)) rfl
theorem tw_3_131 : (Cond.code yX7_mayMeet prog_9_method_15_code 2 (Option.some Jvm.ClassFile.FieldType.boolean)) ∈ GW := mGW (tb3 (List.mem_of_getElem? (i := 131) rfl)) rfl
theorem tw_3_132 : (Cond.methodLink "Trenchboard$Works" 78 yX7_isStanding) ∈ GW := mGW (tb3 (List.mem_of_getElem? (i := 132) rfl)) rfl
theorem tw_3_133 : (Cond.methodLink "Trenchboard$Works" 82 yX7_isOver) ∈ GW := mGW (tb3 (List.mem_of_getElem? (i := 133) rfl)) rfl
theorem tw_3_134 : (Cond.instanceMethod yX7_isOver) ∈ GW := mGW (tb3 (List.mem_of_getElem? (i := 134) rfl)) rfl
theorem tw_3_135 : (Cond.selects "Trenchboard$Works" yX7_isOver yX7_isOver) ∈ GW := mGW (tb3 (List.mem_of_getElem? (i := 135) rfl)) rfl
theorem tw_3_136 : (Cond.code yX7_isOver prog_9_method_7_code 1 (Option.some Jvm.ClassFile.FieldType.boolean)) ∈ GW := mGW (tb3 (List.mem_of_getElem? (i := 136) rfl)) rfl
theorem tw_3_137 : (Cond.methodLink "Trenchboard" 266 yX7_agreesWith) ∈ GW := mGW (tb3 (List.mem_of_getElem? (i := 137) rfl)) rfl
theorem tw_3_138 : (Cond.instanceMethod yX7_agreesWith) ∈ GW := mGW (tb3 (List.mem_of_getElem? (i := 138) rfl)) rfl
theorem tw_3_139 : (Cond.selects "Trenchboard$Works" yX7_agreesWith yX7_agreesWith) ∈ GW := mGW (tb3 (List.mem_of_getElem? (i := 139) rfl)) rfl
theorem tw_3_140 : (Cond.code yX7_agreesWith prog_9_method_5_code 2 (Option.some Jvm.ClassFile.FieldType.boolean)) ∈ GW := mGW (tb3 (List.mem_of_getElem? (i := 140) rfl)) rfl
theorem tw_3_141 : (Cond.methodLink "Trenchboard$Works" 49 yX7_bit) ∈ GW := mGW (tb3 (List.mem_of_getElem? (i := 141) rfl)) rfl
theorem tw_3_142 : (Cond.instanceMethod yX7_bit) ∈ GW := mGW (tb3 (List.mem_of_getElem? (i := 142) rfl)) rfl
theorem tw_3_143 : (Cond.selects "Trenchboard$Works" yX7_bit yX7_bit) ∈ GW := mGW (tb3 (List.mem_of_getElem? (i := 143) rfl)) rfl
theorem tw_3_144 : (Cond.code yX7_bit prog_9_method_4_code 1 (Option.some Jvm.ClassFile.FieldType.int)) ∈ GW := mGW (tb3 (List.mem_of_getElem? (i := 144) rfl)) rfl
theorem tw_3_145 : (Cond.methodLink "Trenchboard" 481 yX7_areNear) ∈ GW := mGW (tb3 (List.mem_of_getElem? (i := 145) rfl)) rfl
theorem tw_3_146 : (Cond.static yX7_areNear) ∈ GW := mGW (tb3 (List.mem_of_getElem? (i := 146) rfl)) rfl
theorem tw_3_147 : (Cond.code yX7_areNear prog_9_method_16_code 3 (Option.some Jvm.ClassFile.FieldType.boolean)) ∈ GW := mGW (tb3 (List.mem_of_getElem? (i := 147) rfl)) rfl
theorem tw_3_148 : (Cond.methodLink "Trenchboard$Works" 85 yJ9_min_7cf53) ∈ GW := mGW (tb3 (List.mem_of_getElem? (i := 148) rfl)) rfl
theorem tw_3_149 : (Cond.stringRef "Trenchboard" 233 "not asked, or barred") ∈ lw_tbl := tb3 (List.mem_of_getElem? (i := 149) rfl)
theorem tw_3_150 : (Cond.methodLink "Trenchboard" 235 yX8_permit) ∈ GW := mGW (tb3 (List.mem_of_getElem? (i := 150) rfl)) rfl
theorem tw_3_152 : (Cond.instanceMethod yX8_permit) ∈ GW := mGW (tb3 (List.mem_of_getElem? (i := 152) rfl)) rfl
theorem tw_3_153 : (Cond.code yX8_permit prog_1_method_53_code 3 (Option.none : Option Jvm.ClassFile.FieldType)) ∈ GW := mGW (tb3 (List.mem_of_getElem? (i := 153) rfl)) rfl
theorem tw_3_154 : (Cond.methodLink "Trenchboard" 239 yX7_permitCost) ∈ GW := mGW (tb3 (List.mem_of_getElem? (i := 154) rfl)) rfl
theorem tw_3_155 : (Cond.instanceMethod yX7_permitCost) ∈ GW := mGW (tb3 (List.mem_of_getElem? (i := 155) rfl)) rfl
theorem tw_3_156 : (Cond.selects "Trenchboard$Works" yX7_permitCost yX7_permitCost) ∈ GW := mGW (tb3 (List.mem_of_getElem? (i := 156) rfl)) rfl
theorem tw_3_157 : (Cond.code yX7_permitCost prog_9_method_12_code 2 (Option.some Jvm.ClassFile.FieldType.int)) ∈ GW := mGW (tb3 (List.mem_of_getElem? (i := 157) rfl)) rfl
theorem tw_3_158 : (Cond.methodLink "Trenchboard$Works" 69 yX4_weight) ∈ GW := mGW (tb3 (List.mem_of_getElem? (i := 158) rfl)) rfl
theorem tw_3_159 : (Cond.instanceMethod yX4_weight) ∈ GW := mGW (tb3 (List.mem_of_getElem? (i := 159) rfl)) rfl
theorem tw_3_160 : (Cond.selects "Trenchboard$Street" yX4_weight yX4_weight) ∈ GW := mGW (tb3 (List.mem_of_getElem? (i := 160) rfl)) rfl
theorem tw_3_161 : (Cond.code yX4_weight prog_6_method_6_code 1 (Option.some Jvm.ClassFile.FieldType.int)) ∈ GW := mGW (tb3 (List.mem_of_getElem? (i := 161) rfl)) rfl
theorem tw_3_162 : (Cond.methodLink "Trenchboard" 366 yX8_pay) ∈ GW := mGW (tb3 (List.mem_of_getElem? (i := 162) rfl)) rfl
theorem tw_3_164 : (Cond.instanceMethod yX8_pay) ∈ GW := mGW (tb3 (List.mem_of_getElem? (i := 164) rfl)) rfl
theorem tw_3_165 : (Cond.code yX8_pay prog_1_method_49_code 6 (Option.none : Option Jvm.ClassFile.FieldType)) ∈ GW := mGW (tb3 (List.mem_of_getElem? (i := 165) rfl)) rfl
theorem tw_3_166 : (Cond.methodLink "Trenchboard" 454 yX1_enter) ∈ GW := mGW (tb3 (List.mem_of_getElem? (i := 166) rfl)) rfl
theorem tw_3_167 : (Cond.instanceMethod yX1_enter) ∈ GW := mGW (tb3 (List.mem_of_getElem? (i := 167) rfl)) rfl
theorem tw_3_168 : (Cond.selects "Trenchboard$Ledger" yX1_enter yX1_enter) ∈ GW := mGW (tb3 (List.mem_of_getElem? (i := 168) rfl)) rfl
theorem tw_3_169 : (Cond.code yX1_enter prog_3_method_2_code 4 (Option.none : Option Jvm.ClassFile.FieldType)) ∈ GW := mGW (tb3 (List.mem_of_getElem? (i := 169) rfl)) rfl
theorem tw_3_170 : (Cond.constant "Trenchboard$Ledger" 17 262144) ∈ GW := mGW (tb3 (List.mem_of_getElem? (i := 170) rfl)) rfl
theorem tw_3_171 : (Cond.methodLink "Trenchboard$Ledger" 18 yJ7_copyOf_59c91) ∈ GW := mGW (tb3 (List.mem_of_getElem? (i := 171) rfl)) rfl
theorem tw_3_172 : (Cond.static yJ7_copyOf_59c91) ∈ GW := mGW (tb3 (List.mem_of_getElem? (i := 172) rfl)) rfl
theorem tw_3_173 : (Cond.code yJ7_copyOf_59c91 prog_27_method_123_code 3 (Option.some (Jvm.ClassFile.FieldType.array Jvm.ClassFile.FieldType.int))) ∈ GW := mGW (tb3 (List.mem_of_getElem? (i := 173) rfl)) rfl
theorem tw_3_174 : (Cond.methodLink "java/util/Arrays" 316 ⟨"[I", "clone", "()Ljava/lang/Object;"⟩) ∈ GW := mGW (tb3 (List.mem_of_getElem? (i := 174) rfl)) rfl
theorem tw_3_175 : (Cond.sameMethod "[I" "java/lang/Object" "clone" "()Ljava/lang/Object;") ∈ lw_tbl := tb3 (List.mem_of_getElem? (i := 175) rfl)
theorem tw_3_176 : (Cond.native ⟨"java/lang/Object", "clone", "()Ljava/lang/Object;"⟩) ∈ GW := mGW (tb3 (List.mem_of_getElem? (i := 176) rfl)) rfl
theorem tw_3_177 : (Cond.instanceMethod ⟨"java/lang/Object", "clone", "()Ljava/lang/Object;"⟩) ∈ GW := mGW (tb3 (List.mem_of_getElem? (i := 177) rfl)) rfl
theorem tw_3_178 : (Cond.selects "[I" ⟨"[I", "clone", "()Ljava/lang/Object;"⟩ ⟨"java/lang/Object", "clone", "()Ljava/lang/Object;"⟩) ∈ GW := mGW (tb3 (List.mem_of_getElem? (i := 178) rfl)) rfl
theorem tw_3_179 : (Cond.castable "[I" "java/lang/Cloneable") ∈ lw_tbl := tb3 (List.mem_of_getElem? (i := 179) rfl)
theorem tw_3_180 : (Cond.classLink "java/util/Arrays" 317 "[I") ∈ GW := mGW (tb3 (List.mem_of_getElem? (i := 180) rfl)) rfl
theorem tw_3_181 : (Cond.methodLink "TrenchboardLaw" 44 yX8_refuse) ∈ GW := mGW (tb3 (List.mem_of_getElem? (i := 181) rfl)) rfl
theorem tw_3_182 : (Cond.instanceMethod yX8_refuse) ∈ GW := mGW (tb3 (List.mem_of_getElem? (i := 182) rfl)) rfl
theorem tw_3_183 : (Cond.selects "Trenchboard" yX8_refuse yX8_refuse) ∈ GW := mGW (tb3 (List.mem_of_getElem? (i := 183) rfl)) rfl
theorem tw_3_184 : (Cond.code yX8_refuse prog_1_method_12_code 4 (Option.some Jvm.ClassFile.FieldType.int)) ∈ GW := mGW (tb3 (List.mem_of_getElem? (i := 184) rfl)) rfl
theorem tw_3_185 : (Cond.stringRef "Trenchboard" 242 "neither asked nor granted") ∈ lw_tbl := tb3 (List.mem_of_getElem? (i := 185) rfl)
theorem tw_3_186 : (Cond.methodLink "TrenchboardLaw" 47 yX8_vary) ∈ GW := mGW (tb3 (List.mem_of_getElem? (i := 186) rfl)) rfl
theorem tw_3_187 : (Cond.instanceMethod yX8_vary) ∈ GW := mGW (tb3 (List.mem_of_getElem? (i := 187) rfl)) rfl
theorem tw_3_188 : (Cond.selects "Trenchboard" yX8_vary yX8_vary) ∈ GW := mGW (tb3 (List.mem_of_getElem? (i := 188) rfl)) rfl
theorem tw_3_189 : (Cond.code yX8_vary prog_1_method_13_code 4 (Option.some Jvm.ClassFile.FieldType.int)) ∈ GW := mGW (tb3 (List.mem_of_getElem? (i := 189) rfl)) rfl
theorem tw_3_190 : (Cond.stringRef "Trenchboard" 247 "neither granted nor run") ∈ lw_tbl := tb3 (List.mem_of_getElem? (i := 190) rfl)
theorem tw_3_191 : (Cond.methodLink "TrenchboardLaw" 50 yX8_exempt) ∈ GW := mGW (tb3 (List.mem_of_getElem? (i := 191) rfl)) rfl
theorem tw_3_192 : (Cond.instanceMethod yX8_exempt) ∈ GW := mGW (tb3 (List.mem_of_getElem? (i := 192) rfl)) rfl
theorem tw_3_193 : (Cond.selects "Trenchboard" yX8_exempt yX8_exempt) ∈ GW := mGW (tb3 (List.mem_of_getElem? (i := 193) rfl)) rfl
theorem tw_3_194 : (Cond.code yX8_exempt prog_1_method_14_code 3 (Option.some Jvm.ClassFile.FieldType.boolean)) ∈ GW := mGW (tb3 (List.mem_of_getElem? (i := 194) rfl)) rfl
theorem tw_3_195 : (Cond.methodLink "TrenchboardLaw" 53 yX8_agree) ∈ GW := mGW (tb3 (List.mem_of_getElem? (i := 195) rfl)) rfl
theorem tw_3_196 : (Cond.instanceMethod yX8_agree) ∈ GW := mGW (tb3 (List.mem_of_getElem? (i := 196) rfl)) rfl
theorem tw_3_197 : (Cond.selects "Trenchboard" yX8_agree yX8_agree) ∈ GW := mGW (tb3 (List.mem_of_getElem? (i := 197) rfl)) rfl
theorem tw_3_198 : (Cond.code yX8_agree prog_1_method_15_code 5 (Option.some Jvm.ClassFile.FieldType.boolean)) ∈ GW := mGW (tb3 (List.mem_of_getElem? (i := 198) rfl)) rfl
theorem tw_3_199 : (Cond.stringRef "Trenchboard" 258 "the same works twice") ∈ lw_tbl := tb3 (List.mem_of_getElem? (i := 199) rfl)
theorem tw_3_200 : (Cond.methodLink "Trenchboard" 263 yX7_bit) ∈ GW := mGW (tb3 (List.mem_of_getElem? (i := 200) rfl)) rfl
theorem tw_3_201 : (Cond.methodLink "TrenchboardLaw" 57 yX8_start) ∈ GW := mGW (tb3 (List.mem_of_getElem? (i := 201) rfl)) rfl
theorem tw_3_202 : (Cond.instanceMethod yX8_start) ∈ GW := mGW (tb3 (List.mem_of_getElem? (i := 202) rfl)) rfl
theorem tw_3_203 : (Cond.selects "Trenchboard" yX8_start yX8_start) ∈ GW := mGW (tb3 (List.mem_of_getElem? (i := 203) rfl)) rfl
theorem tw_3_204 : (Cond.code yX8_start prog_1_method_16_code 3 (Option.some Jvm.ClassFile.FieldType.int)) ∈ GW := mGW (tb3 (List.mem_of_getElem? (i := 204) rfl)) rfl
theorem tw_3_205 : (Cond.stringRef "Trenchboard" 270 "not granted, or on none of their days") ∈ lw_tbl := tb3 (List.mem_of_getElem? (i := 205) rfl)
theorem tw_3_206 : (Cond.methodLink "TrenchboardLaw" 60 yX8_open) ∈ GW := mGW (tb3 (List.mem_of_getElem? (i := 206) rfl)) rfl
theorem tw_3_207 : (Cond.instanceMethod yX8_open) ∈ GW := mGW (tb3 (List.mem_of_getElem? (i := 207) rfl)) rfl
theorem tw_3_208 : (Cond.selects "Trenchboard" yX8_open yX8_open) ∈ GW := mGW (tb3 (List.mem_of_getElem? (i := 208) rfl)) rfl
theorem tw_3_209 : (Cond.code yX8_open prog_1_method_17_code 6 (Option.some Jvm.ClassFile.FieldType.int)) ∈ GW := mGW (tb3 (List.mem_of_getElem? (i := 209) rfl)) rfl
theorem tw_3_210 : (Cond.methodLink "Trenchboard" 272 yX7_ownMetreAt) ∈ GW := mGW (tb3 (List.mem_of_getElem? (i := 210) rfl)) rfl
theorem tw_3_211 : (Cond.instanceMethod yX7_ownMetreAt) ∈ GW := mGW (tb3 (List.mem_of_getElem? (i := 211) rfl)) rfl
theorem tw_3_212 : (Cond.selects "Trenchboard$Works" yX7_ownMetreAt yX7_ownMetreAt) ∈ GW := mGW (tb3 (List.mem_of_getElem? (i := 212) rfl)) rfl
theorem tw_3_213 : (Cond.code yX7_ownMetreAt prog_9_method_14_code 2 (Option.some (Jvm.ClassFile.FieldType.object "Trenchboard$Metre"))) ∈ GW := mGW (tb3 (List.mem_of_getElem? (i := 213) rfl)) rfl
theorem tw_3_214 : (Cond.methodLink "Trenchboard$Works" 74 yX4_metreAt) ∈ GW := mGW (tb3 (List.mem_of_getElem? (i := 214) rfl)) rfl
theorem tw_3_215 : (Cond.stringRef "Trenchboard" 275 "no such works, or no metre of theirs") ∈ lw_tbl := tb3 (List.mem_of_getElem? (i := 215) rfl)
theorem tw_3_216 : (Cond.methodLink "Trenchboard" 280 yX7_hasCondition) ∈ GW := mGW (tb3 (List.mem_of_getElem? (i := 216) rfl)) rfl
theorem tw_3_217 : (Cond.instanceMethod yX7_hasCondition) ∈ GW := mGW (tb3 (List.mem_of_getElem? (i := 217) rfl)) rfl
theorem tw_3_218 : (Cond.selects "Trenchboard$Works" yX7_hasCondition yX7_hasCondition) ∈ GW := mGW (tb3 (List.mem_of_getElem? (i := 218) rfl)) rfl
theorem tw_3_219 : (Cond.code yX7_hasCondition prog_9_method_8_code 2 (Option.some Jvm.ClassFile.FieldType.boolean)) ∈ GW := mGW (tb3 (List.mem_of_getElem? (i := 219) rfl)) rfl
theorem tw_3_220 : (Cond.methodLink "Trenchboard" 283 yX8_isBusy) ∈ GW := mGW (tb3 (List.mem_of_getElem? (i := 220) rfl)) rfl
theorem tw_3_222 : (Cond.instanceMethod yX8_isBusy) ∈ GW := mGW (tb3 (List.mem_of_getElem? (i := 222) rfl)) rfl
theorem tw_3_223 : (Cond.code yX8_isBusy prog_1_method_43_code 2 (Option.some Jvm.ClassFile.FieldType.boolean)) ∈ GW := mGW (tb3 (List.mem_of_getElem? (i := 223) rfl)) rfl
theorem tw_3_224 : (Cond.stringRef "Trenchboard" 286 "not run, plated, or to be quiet") ∈ lw_tbl := tb3 (List.mem_of_getElem? (i := 224) rfl)
theorem tw_3_225 : (Cond.stringRef "Trenchboard" 294 "open, or suspect and not sure") ∈ lw_tbl := tb3 (List.mem_of_getElem? (i := 225) rfl)
theorem tw_3_226 : (Cond.methodLink "Trenchboard" 296 yX8_strikeThings) ∈ GW := mGW (tb3 (List.mem_of_getElem? (i := 226) rfl)) rfl
theorem tw_3_228 : (Cond.instanceMethod yX8_strikeThings) ∈ GW := mGW (tb3 (List.mem_of_getElem? (i := 228) rfl)) rfl
theorem tw_3_229 : (Cond.code yX8_strikeThings prog_1_method_52_code 6 (Option.some Jvm.ClassFile.FieldType.int)) ∈ GW := mGW (tb3 (List.mem_of_getElem? (i := 229) rfl)) rfl
theorem tw_3_230 : (Cond.methodLink "TrenchboardLaw" 63 yX8_fill) ∈ GW := mGW (tb3 (List.mem_of_getElem? (i := 230) rfl)) rfl
theorem tw_3_231 : (Cond.instanceMethod yX8_fill) ∈ GW := mGW (tb3 (List.mem_of_getElem? (i := 231) rfl)) rfl
theorem tw_3_232 : (Cond.selects "Trenchboard" yX8_fill yX8_fill) ∈ GW := mGW (tb3 (List.mem_of_getElem? (i := 232) rfl)) rfl
theorem tw_3_233 : (Cond.code yX8_fill prog_1_method_18_code 6 (Option.some Jvm.ClassFile.FieldType.int)) ∈ GW := mGW (tb3 (List.mem_of_getElem? (i := 233) rfl)) rfl
theorem tw_3_234 : (Cond.stringRef "Trenchboard" 303 "density out of range") ∈ lw_tbl := tb3 (List.mem_of_getElem? (i := 234) rfl)
theorem tw_3_235 : (Cond.stringRef "Trenchboard" 305 "not open by these works") ∈ lw_tbl := tb3 (List.mem_of_getElem? (i := 235) rfl)
theorem tw_3_236 : (Cond.classLink "Trenchboard" 307 "Trenchboard$Fill") ∈ GW := mGW (tb3 (List.mem_of_getElem? (i := 236) rfl)) rfl
theorem tw_3_237 : (Cond.instantiable "Trenchboard$Fill" 6) ∈ GW := mGW (tb3 (List.mem_of_getElem? (i := 237) rfl)) rfl
theorem tw_3_238 : (Cond.methodLink "Trenchboard" 313 yX0_init) ∈ GW := mGW (tb3 (List.mem_of_getElem? (i := 238) rfl)) rfl
theorem tw_3_239 : (Cond.instanceMethod yX0_init) ∈ GW := mGW (tb3 (List.mem_of_getElem? (i := 239) rfl)) rfl
theorem tw_4_0 : (Cond.code yX0_init prog_2_method_1_code 6 (Option.none : Option Jvm.ClassFile.FieldType)) ∈ GW := mGW (tb4 (List.mem_of_getElem? (i := 0) rfl)) rfl
theorem tw_4_1 : (Cond.methodLink "Trenchboard$Fill" 1 ⟨"java/lang/Object", "<init>", "()V"⟩) ∈ GW := mGW (tb4 (List.mem_of_getElem? (i := 1) rfl)) rfl
theorem tw_4_2 : (Cond.fieldLink "Trenchboard$Fill" 7 "Trenchboard$Fill" "by" "LTrenchboard$Works;") ∈ GW := mGW (tb4 (List.mem_of_getElem? (i := 2) rfl)) rfl
theorem tw_4_3 : (Cond.fieldLink "Trenchboard$Metre" 19 "Trenchboard$Fill" "by" "LTrenchboard$Works;") ∈ GW := mGW (tb4 (List.mem_of_getElem? (i := 3) rfl)) rfl
theorem tw_4_4 : (Cond.fieldLink "Trenchboard" 377 "Trenchboard$Fill" "by" "LTrenchboard$Works;") ∈ GW := mGW (tb4 (List.mem_of_getElem? (i := 4) rfl)) rfl
theorem tw_4_5 : (Cond.fieldLink "Trenchboard$Fill" 13 "Trenchboard$Fill" "day" "I") ∈ GW := mGW (tb4 (List.mem_of_getElem? (i := 5) rfl)) rfl
theorem tw_4_6 : (Cond.fieldLink "Trenchboard" 521 "Trenchboard$Fill" "day" "I") ∈ GW := mGW (tb4 (List.mem_of_getElem? (i := 6) rfl)) rfl
theorem tw_4_7 : (Cond.fieldLink "Trenchboard$Fill" 17 "Trenchboard$Fill" "density" "I") ∈ GW := mGW (tb4 (List.mem_of_getElem? (i := 7) rfl)) rfl
theorem tw_4_8 : (Cond.fieldLink "Trenchboard" 384 "Trenchboard$Fill" "density" "I") ∈ GW := mGW (tb4 (List.mem_of_getElem? (i := 8) rfl)) rfl
theorem tw_4_9 : (Cond.fieldLink "Trenchboard$Fill" 20 "Trenchboard$Fill" "place" "I") ∈ GW := mGW (tb4 (List.mem_of_getElem? (i := 9) rfl)) rfl
theorem tw_4_10 : (Cond.fieldLink "Trenchboard" 522 "Trenchboard$Fill" "place" "I") ∈ GW := mGW (tb4 (List.mem_of_getElem? (i := 10) rfl)) rfl
theorem tw_4_11 : (Cond.fieldLink "Trenchboard$Fill" 23 "Trenchboard$Fill" "below" "LTrenchboard$Fill;") ∈ GW := mGW (tb4 (List.mem_of_getElem? (i := 11) rfl)) rfl
theorem tw_4_12 : (Cond.fieldLink "Trenchboard$Metre" 30 "Trenchboard$Fill" "below" "LTrenchboard$Fill;") ∈ GW := mGW (tb4 (List.mem_of_getElem? (i := 12) rfl)) rfl
theorem tw_4_13 : (Cond.fieldLink "Trenchboard" 372 "Trenchboard$Fill" "cored" "Z") ∈ GW := mGW (tb4 (List.mem_of_getElem? (i := 13) rfl)) rfl
theorem tw_4_14 : (Cond.laysFinal "Trenchboard$Fill" "Trenchboard$Fill" "by" "LTrenchboard$Works;") ∈ GW := mGW (tb4 (List.mem_of_getElem? (i := 14) rfl)) rfl
theorem tw_4_16 : (Cond.laysFinal "Trenchboard$Fill" "Trenchboard$Fill" "day" "I") ∈ GW := mGW (tb4 (List.mem_of_getElem? (i := 16) rfl)) rfl
theorem tw_4_18 : (Cond.laysFinal "Trenchboard$Fill" "Trenchboard$Fill" "density" "I") ∈ GW := mGW (tb4 (List.mem_of_getElem? (i := 18) rfl)) rfl
theorem tw_4_20 : (Cond.laysFinal "Trenchboard$Fill" "Trenchboard$Fill" "place" "I") ∈ GW := mGW (tb4 (List.mem_of_getElem? (i := 20) rfl)) rfl
theorem tw_4_22 : (Cond.laysFinal "Trenchboard$Fill" "Trenchboard$Fill" "below" "LTrenchboard$Fill;") ∈ GW := mGW (tb4 (List.mem_of_getElem? (i := 22) rfl)) rfl
theorem tw_4_24 : (Cond.lays "Trenchboard$Fill" "Trenchboard$Fill" "cored" "Z") ∈ GW := mGW (tb4 (List.mem_of_getElem? (i := 24) rfl)) rfl
theorem tw_4_26 : (Cond.superclass "Trenchboard$Fill" "java/lang/Object") ∈ lw_tbl := tb4 (List.mem_of_getElem? (i := 26) rfl)
theorem tw_4_27 : (Cond.methodLink "Trenchboard" 322 yX8_countFill) ∈ GW := mGW (tb4 (List.mem_of_getElem? (i := 27) rfl)) rfl
theorem tw_4_29 : (Cond.instanceMethod yX8_countFill) ∈ GW := mGW (tb4 (List.mem_of_getElem? (i := 29) rfl)) rfl
theorem tw_4_30 : (Cond.code yX8_countFill prog_1_method_46_code 3 (Option.none : Option Jvm.ClassFile.FieldType)) ∈ GW := mGW (tb4 (List.mem_of_getElem? (i := 30) rfl)) rfl
theorem tw_4_31 : (Cond.methodLink "TrenchboardLaw" 66 yX8_plate) ∈ GW := mGW (tb4 (List.mem_of_getElem? (i := 31) rfl)) rfl
theorem tw_4_32 : (Cond.instanceMethod yX8_plate) ∈ GW := mGW (tb4 (List.mem_of_getElem? (i := 32) rfl)) rfl
theorem tw_4_33 : (Cond.selects "Trenchboard" yX8_plate yX8_plate) ∈ GW := mGW (tb4 (List.mem_of_getElem? (i := 33) rfl)) rfl
theorem tw_4_34 : (Cond.code yX8_plate prog_1_method_19_code 3 (Option.some Jvm.ClassFile.FieldType.boolean)) ∈ GW := mGW (tb4 (List.mem_of_getElem? (i := 34) rfl)) rfl
theorem tw_4_35 : (Cond.stringRef "Trenchboard" 326 "not run") ∈ lw_tbl := tb4 (List.mem_of_getElem? (i := 35) rfl)
theorem tw_4_36 : (Cond.methodLink "TrenchboardLaw" 69 yX8_extend) ∈ GW := mGW (tb4 (List.mem_of_getElem? (i := 36) rfl)) rfl
theorem tw_4_37 : (Cond.instanceMethod yX8_extend) ∈ GW := mGW (tb4 (List.mem_of_getElem? (i := 37) rfl)) rfl
theorem tw_4_38 : (Cond.selects "Trenchboard" yX8_extend yX8_extend) ∈ GW := mGW (tb4 (List.mem_of_getElem? (i := 38) rfl)) rfl
theorem tw_4_39 : (Cond.code yX8_extend prog_1_method_20_code 4 (Option.some Jvm.ClassFile.FieldType.int)) ∈ GW := mGW (tb4 (List.mem_of_getElem? (i := 39) rfl)) rfl
theorem tw_4_40 : (Cond.stringRef "Trenchboard" 331 "not run, or no find for it") ∈ lw_tbl := tb4 (List.mem_of_getElem? (i := 40) rfl)
theorem tw_4_41 : (Cond.methodLink "Trenchboard" 333 yJ9_max_7cf53) ∈ GW := mGW (tb4 (List.mem_of_getElem? (i := 41) rfl)) rfl
theorem tw_4_42 : (Cond.stringRef "Trenchboard" 343 "would meet others") ∈ lw_tbl := tb4 (List.mem_of_getElem? (i := 42) rfl)
theorem tw_4_43 : (Cond.methodLink "TrenchboardLaw" 72 yX8_stop) ∈ GW := mGW (tb4 (List.mem_of_getElem? (i := 43) rfl)) rfl
theorem tw_4_44 : (Cond.instanceMethod yX8_stop) ∈ GW := mGW (tb4 (List.mem_of_getElem? (i := 44) rfl)) rfl
theorem tw_4_45 : (Cond.selects "Trenchboard" yX8_stop yX8_stop) ∈ GW := mGW (tb4 (List.mem_of_getElem? (i := 45) rfl)) rfl
theorem tw_4_46 : (Cond.code yX8_stop prog_1_method_21_code 4 (Option.some Jvm.ClassFile.FieldType.int)) ∈ GW := mGW (tb4 (List.mem_of_getElem? (i := 46) rfl)) rfl
theorem tw_4_47 : (Cond.stringRef "Trenchboard" 345 "not run, or a metre is open") ∈ lw_tbl := tb4 (List.mem_of_getElem? (i := 47) rfl)
theorem tw_4_48 : (Cond.methodLink "TrenchboardLaw" 75 yX8_pass) ∈ GW := mGW (tb4 (List.mem_of_getElem? (i := 48) rfl)) rfl
theorem tw_4_49 : (Cond.instanceMethod yX8_pass) ∈ GW := mGW (tb4 (List.mem_of_getElem? (i := 49) rfl)) rfl
theorem tw_4_50 : (Cond.selects "Trenchboard" yX8_pass yX8_pass) ∈ GW := mGW (tb4 (List.mem_of_getElem? (i := 50) rfl)) rfl
theorem tw_4_51 : (Cond.code yX8_pass prog_1_method_22_code 3 (Option.some Jvm.ClassFile.FieldType.int)) ∈ GW := mGW (tb4 (List.mem_of_getElem? (i := 51) rfl)) rfl
theorem tw_4_52 : (Cond.stringRef "Trenchboard" 350 "hours out of range") ∈ lw_tbl := tb4 (List.mem_of_getElem? (i := 52) rfl)
theorem tw_4_53 : (Cond.stringRef "Trenchboard" 355 "too late an hour") ∈ lw_tbl := tb4 (List.mem_of_getElem? (i := 53) rfl)
theorem tw_4_54 : (Cond.methodLink "Trenchboard" 357 yX8_goOneHour) ∈ GW := mGW (tb4 (List.mem_of_getElem? (i := 54) rfl)) rfl
theorem tw_4_56 : (Cond.instanceMethod yX8_goOneHour) ∈ GW := mGW (tb4 (List.mem_of_getElem? (i := 56) rfl)) rfl
theorem tw_4_57 : (Cond.code yX8_goOneHour prog_1_method_56_code 1 (Option.none : Option Jvm.ClassFile.FieldType)) ∈ GW := mGW (tb4 (List.mem_of_getElem? (i := 57) rfl)) rfl
theorem tw_4_58 : (Cond.methodLink "Trenchboard" 484 yX8_settleAsked) ∈ GW := mGW (tb4 (List.mem_of_getElem? (i := 58) rfl)) rfl
theorem tw_4_60 : (Cond.instanceMethod yX8_settleAsked) ∈ GW := mGW (tb4 (List.mem_of_getElem? (i := 60) rfl)) rfl
theorem tw_4_61 : (Cond.code yX8_settleAsked prog_1_method_57_code 3 (Option.none : Option Jvm.ClassFile.FieldType)) ∈ GW := mGW (tb4 (List.mem_of_getElem? (i := 61) rfl)) rfl
theorem tw_4_62 : (Cond.methodLink "Trenchboard" 499 yX7_settledOn) ∈ GW := mGW (tb4 (List.mem_of_getElem? (i := 62) rfl)) rfl
theorem tw_4_63 : (Cond.instanceMethod yX7_settledOn) ∈ GW := mGW (tb4 (List.mem_of_getElem? (i := 63) rfl)) rfl
theorem tw_4_64 : (Cond.selects "Trenchboard$Works" yX7_settledOn yX7_settledOn) ∈ GW := mGW (tb4 (List.mem_of_getElem? (i := 64) rfl)) rfl
theorem tw_4_65 : (Cond.code yX7_settledOn prog_9_method_11_code 1 (Option.some Jvm.ClassFile.FieldType.int)) ∈ GW := mGW (tb4 (List.mem_of_getElem? (i := 65) rfl)) rfl
theorem tw_4_66 : (Cond.methodLink "Trenchboard" 487 yX8_fineLate) ∈ GW := mGW (tb4 (List.mem_of_getElem? (i := 66) rfl)) rfl
theorem tw_4_68 : (Cond.instanceMethod yX8_fineLate) ∈ GW := mGW (tb4 (List.mem_of_getElem? (i := 68) rfl)) rfl
theorem tw_4_69 : (Cond.code yX8_fineLate prog_1_method_58_code 3 (Option.none : Option Jvm.ClassFile.FieldType)) ∈ GW := mGW (tb4 (List.mem_of_getElem? (i := 69) rfl)) rfl
theorem tw_4_70 : (Cond.methodLink "Trenchboard" 502 yX4_weight) ∈ GW := mGW (tb4 (List.mem_of_getElem? (i := 70) rfl)) rfl
theorem tw_4_71 : (Cond.methodLink "Trenchboard" 490 yX8_takeStreets) ∈ GW := mGW (tb4 (List.mem_of_getElem? (i := 71) rfl)) rfl
theorem tw_4_73 : (Cond.instanceMethod yX8_takeStreets) ∈ GW := mGW (tb4 (List.mem_of_getElem? (i := 73) rfl)) rfl
theorem tw_4_74 : (Cond.code yX8_takeStreets prog_1_method_59_code 3 (Option.none : Option Jvm.ClassFile.FieldType)) ∈ GW := mGW (tb4 (List.mem_of_getElem? (i := 74) rfl)) rfl
theorem tw_4_75 : (Cond.methodLink "Trenchboard" 508 yX7_takesStreet) ∈ GW := mGW (tb4 (List.mem_of_getElem? (i := 75) rfl)) rfl
theorem tw_4_76 : (Cond.instanceMethod yX7_takesStreet) ∈ GW := mGW (tb4 (List.mem_of_getElem? (i := 76) rfl)) rfl
theorem tw_4_77 : (Cond.selects "Trenchboard$Works" yX7_takesStreet yX7_takesStreet) ∈ GW := mGW (tb4 (List.mem_of_getElem? (i := 77) rfl)) rfl
theorem tw_4_78 : (Cond.code yX7_takesStreet prog_9_method_9_code 1 (Option.some Jvm.ClassFile.FieldType.boolean)) ∈ GW := mGW (tb4 (List.mem_of_getElem? (i := 78) rfl)) rfl
theorem tw_4_79 : (Cond.methodLink "Trenchboard" 493 yX8_chargeTakers) ∈ GW := mGW (tb4 (List.mem_of_getElem? (i := 79) rfl)) rfl
theorem tw_4_81 : (Cond.instanceMethod yX8_chargeTakers) ∈ GW := mGW (tb4 (List.mem_of_getElem? (i := 81) rfl)) rfl
theorem tw_4_82 : (Cond.code yX8_chargeTakers prog_1_method_60_code 5 (Option.none : Option Jvm.ClassFile.FieldType)) ∈ GW := mGW (tb4 (List.mem_of_getElem? (i := 82) rfl)) rfl
theorem tw_4_83 : (Cond.methodLink "Trenchboard" 496 yX8_moveQueues) ∈ GW := mGW (tb4 (List.mem_of_getElem? (i := 83) rfl)) rfl
theorem tw_4_85 : (Cond.instanceMethod yX8_moveQueues) ∈ GW := mGW (tb4 (List.mem_of_getElem? (i := 85) rfl)) rfl
theorem tw_4_86 : (Cond.code yX8_moveQueues prog_1_method_61_code 3 (Option.none : Option Jvm.ClassFile.FieldType)) ∈ GW := mGW (tb4 (List.mem_of_getElem? (i := 86) rfl)) rfl
theorem tw_4_87 : (Cond.methodLink "Trenchboard" 511 yX4_sendFlow) ∈ GW := mGW (tb4 (List.mem_of_getElem? (i := 87) rfl)) rfl
theorem tw_4_88 : (Cond.instanceMethod yX4_sendFlow) ∈ GW := mGW (tb4 (List.mem_of_getElem? (i := 88) rfl)) rfl
theorem tw_4_89 : (Cond.selects "Trenchboard$Street" yX4_sendFlow yX4_sendFlow) ∈ GW := mGW (tb4 (List.mem_of_getElem? (i := 89) rfl)) rfl
theorem tw_4_90 : (Cond.code yX4_sendFlow prog_6_method_8_code 2 (Option.none : Option Jvm.ClassFile.FieldType)) ∈ GW := mGW (tb4 (List.mem_of_getElem? (i := 90) rfl)) rfl
theorem tw_4_91 : (Cond.methodLink "Trenchboard" 514 yX4_letThrough) ∈ GW := mGW (tb4 (List.mem_of_getElem? (i := 91) rfl)) rfl
theorem tw_4_92 : (Cond.instanceMethod yX4_letThrough) ∈ GW := mGW (tb4 (List.mem_of_getElem? (i := 92) rfl)) rfl
theorem tw_4_93 : (Cond.selects "Trenchboard$Street" yX4_letThrough yX4_letThrough) ∈ GW := mGW (tb4 (List.mem_of_getElem? (i := 93) rfl)) rfl
theorem tw_4_94 : (Cond.code yX4_letThrough prog_6_method_9_code 2 (Option.none : Option Jvm.ClassFile.FieldType)) ∈ GW := mGW (tb4 (List.mem_of_getElem? (i := 94) rfl)) rfl
theorem tw_4_95 : (Cond.methodLink "TrenchboardLaw" 78 yX8_defect) ∈ GW := mGW (tb4 (List.mem_of_getElem? (i := 95) rfl)) rfl
theorem tw_4_96 : (Cond.instanceMethod yX8_defect) ∈ GW := mGW (tb4 (List.mem_of_getElem? (i := 96) rfl)) rfl
theorem tw_4_97 : (Cond.selects "Trenchboard" yX8_defect yX8_defect) ∈ GW := mGW (tb4 (List.mem_of_getElem? (i := 97) rfl)) rfl
theorem tw_4_98 : (Cond.code yX8_defect prog_1_method_23_code 7 (Option.some Jvm.ClassFile.FieldType.int)) ∈ GW := mGW (tb4 (List.mem_of_getElem? (i := 98) rfl)) rfl
theorem tw_4_99 : (Cond.methodLink "Trenchboard" 369 yX8_countFault) ∈ GW := mGW (tb4 (List.mem_of_getElem? (i := 99) rfl)) rfl
theorem tw_4_101 : (Cond.instanceMethod yX8_countFault) ∈ GW := mGW (tb4 (List.mem_of_getElem? (i := 101) rfl)) rfl
theorem tw_4_102 : (Cond.code yX8_countFault prog_1_method_47_code 3 (Option.none : Option Jvm.ClassFile.FieldType)) ∈ GW := mGW (tb4 (List.mem_of_getElem? (i := 102) rfl)) rfl
theorem tw_4_103 : (Cond.methodLink "TrenchboardLaw" 81 yX8_core) ∈ GW := mGW (tb4 (List.mem_of_getElem? (i := 103) rfl)) rfl
theorem tw_4_104 : (Cond.instanceMethod yX8_core) ∈ GW := mGW (tb4 (List.mem_of_getElem? (i := 104) rfl)) rfl
theorem tw_4_105 : (Cond.selects "Trenchboard" yX8_core yX8_core) ∈ GW := mGW (tb4 (List.mem_of_getElem? (i := 105) rfl)) rfl
theorem tw_4_106 : (Cond.code yX8_core prog_1_method_24_code 6 (Option.some Jvm.ClassFile.FieldType.int)) ∈ GW := mGW (tb4 (List.mem_of_getElem? (i := 106) rfl)) rfl
theorem tw_4_107 : (Cond.stringRef "Trenchboard" 375 "no fill, or it was cored") ∈ lw_tbl := tb4 (List.mem_of_getElem? (i := 107) rfl)
theorem tw_4_108 : (Cond.methodLink "Trenchboard" 381 yX8_countCore) ∈ GW := mGW (tb4 (List.mem_of_getElem? (i := 108) rfl)) rfl
theorem tw_4_110 : (Cond.instanceMethod yX8_countCore) ∈ GW := mGW (tb4 (List.mem_of_getElem? (i := 110) rfl)) rfl
theorem tw_4_111 : (Cond.code yX8_countCore prog_1_method_48_code 3 (Option.none : Option Jvm.ClassFile.FieldType)) ∈ GW := mGW (tb4 (List.mem_of_getElem? (i := 111) rfl)) rfl
theorem tw_4_112 : (Cond.methodLink "TrenchboardLaw" 87 yX8_liableAnew) ∈ GW := mGW (tb4 (List.mem_of_getElem? (i := 112) rfl)) rfl
theorem tw_4_113 : (Cond.instanceMethod yX8_liableAnew) ∈ GW := mGW (tb4 (List.mem_of_getElem? (i := 113) rfl)) rfl
theorem tw_4_114 : (Cond.selects "Trenchboard" yX8_liableAnew yX8_liableAnew) ∈ GW := mGW (tb4 (List.mem_of_getElem? (i := 114) rfl)) rfl
theorem tw_4_115 : (Cond.code yX8_liableAnew prog_1_method_26_code 11 (Option.some Jvm.ClassFile.FieldType.int)) ∈ GW := mGW (tb4 (List.mem_of_getElem? (i := 115) rfl)) rfl
theorem tw_4_116 : (Cond.methodLink "Trenchboard" 390 yJx4a65c_get_915e3) ∈ GW := mGW (tb4 (List.mem_of_getElem? (i := 116) rfl)) rfl
theorem tw_4_117 : (Cond.instanceMethod yJx4a65c_get_915e3) ∈ GW := mGW (tb4 (List.mem_of_getElem? (i := 117) rfl)) rfl
theorem tw_4_118 : (Cond.selects "java/util/ArrayList" yJx4a65c_get_915e3 yJx4a65c_get_915e3) ∈ GW := mGW (tb4 (List.mem_of_getElem? (i := 118) rfl)) rfl
theorem tw_4_119 : (Cond.code yJx4a65c_get_915e3 prog_26_method_20_code 2 (Option.some (Jvm.ClassFile.FieldType.object "java/lang/Object"))) ∈ GW := mGW (tb4 (List.mem_of_getElem? (i := 119) rfl)) rfl
theorem tw_4_120 : (Cond.methodLink "java/util/ArrayList" 118 yJ15_checkIndex_7cf53) ∈ GW := mGW (tb4 (List.mem_of_getElem? (i := 120) rfl)) rfl
theorem tw_4_121 : (Cond.static yJ15_checkIndex_7cf53) ∈ GW := mGW (tb4 (List.mem_of_getElem? (i := 121) rfl)) rfl
theorem tw_4_122 : (Cond.code yJ15_checkIndex_7cf53 prog_30_method_17_code 2 (Option.some Jvm.ClassFile.FieldType.int)) ∈ GW := mGW (tb4 (List.mem_of_getElem? (i := 122) rfl)) rfl
theorem tw_4_123 : (Cond.methodLink "java/util/Objects" 105 yJ3_checkIndex_8e157) ∈ GW := mGW (tb4 (List.mem_of_getElem? (i := 123) rfl)) rfl
theorem tw_4_124 : (Cond.static yJ3_checkIndex_8e157) ∈ GW := mGW (tb4 (List.mem_of_getElem? (i := 124) rfl)) rfl
theorem tw_4_125 : (Cond.code yJ3_checkIndex_8e157 prog_34_method_11_code 3 (Option.some Jvm.ClassFile.FieldType.int)) ∈ GW := mGW (tb4 (List.mem_of_getElem? (i := 125) rfl)) rfl
theorem tw_4_126 : (Cond.methodLink "java/util/ArrayList" 123 yJx4a65c_elementData_915e3) ∈ GW := mGW (tb4 (List.mem_of_getElem? (i := 126) rfl)) rfl
theorem tw_4_127 : (Cond.instanceMethod yJx4a65c_elementData_915e3) ∈ GW := mGW (tb4 (List.mem_of_getElem? (i := 127) rfl)) rfl
theorem tw_4_128 : (Cond.selects "java/util/ArrayList" yJx4a65c_elementData_915e3 yJx4a65c_elementData_915e3) ∈ GW := mGW (tb4 (List.mem_of_getElem? (i := 128) rfl)) rfl
theorem tw_4_129 : (Cond.code yJx4a65c_elementData_915e3 prog_26_method_18_code 2 (Option.some (Jvm.ClassFile.FieldType.object "java/lang/Object"))) ∈ GW := mGW (tb4 (List.mem_of_getElem? (i := 129) rfl)) rfl
theorem tw_4_130 : (Cond.methodLink "Trenchboard" 394 yX5_isFillOf) ∈ GW := mGW (tb4 (List.mem_of_getElem? (i := 130) rfl)) rfl
theorem tw_4_131 : (Cond.instanceMethod yX5_isFillOf) ∈ GW := mGW (tb4 (List.mem_of_getElem? (i := 131) rfl)) rfl
theorem tw_4_132 : (Cond.selects "Trenchboard$Telling" yX5_isFillOf yX5_isFillOf) ∈ GW := mGW (tb4 (List.mem_of_getElem? (i := 132) rfl)) rfl
theorem tw_4_133 : (Cond.code yX5_isFillOf prog_7_method_2_code 3 (Option.some Jvm.ClassFile.FieldType.boolean)) ∈ GW := mGW (tb4 (List.mem_of_getElem? (i := 133) rfl)) rfl
theorem tw_4_134 : (Cond.methodLink "Trenchboard" 404 yX5_isSurfaceOf) ∈ GW := mGW (tb4 (List.mem_of_getElem? (i := 134) rfl)) rfl
theorem tw_4_135 : (Cond.instanceMethod yX5_isSurfaceOf) ∈ GW := mGW (tb4 (List.mem_of_getElem? (i := 135) rfl)) rfl
theorem tw_4_136 : (Cond.selects "Trenchboard$Telling" yX5_isSurfaceOf yX5_isSurfaceOf) ∈ GW := mGW (tb4 (List.mem_of_getElem? (i := 136) rfl)) rfl
theorem tw_4_137 : (Cond.code yX5_isSurfaceOf prog_7_method_3_code 2 (Option.some Jvm.ClassFile.FieldType.boolean)) ∈ GW := mGW (tb4 (List.mem_of_getElem? (i := 137) rfl)) rfl
theorem tw_4_138 : (Cond.methodLink "TrenchboardLaw" 90 yX8_bars) ∈ GW := mGW (tb4 (List.mem_of_getElem? (i := 138) rfl)) rfl
theorem tw_4_139 : (Cond.instanceMethod yX8_bars) ∈ GW := mGW (tb4 (List.mem_of_getElem? (i := 139) rfl)) rfl
theorem tw_4_140 : (Cond.selects "Trenchboard" yX8_bars yX8_bars) ∈ GW := mGW (tb4 (List.mem_of_getElem? (i := 140) rfl)) rfl
theorem tw_4_141 : (Cond.code yX8_bars prog_1_method_27_code 3 (Option.some Jvm.ClassFile.FieldType.int)) ∈ GW := mGW (tb4 (List.mem_of_getElem? (i := 141) rfl)) rfl
theorem tw_4_142 : (Cond.methodLink "TrenchboardLaw" 93 yX8_meets) ∈ GW := mGW (tb4 (List.mem_of_getElem? (i := 142) rfl)) rfl
theorem tw_4_143 : (Cond.instanceMethod yX8_meets) ∈ GW := mGW (tb4 (List.mem_of_getElem? (i := 143) rfl)) rfl
theorem tw_4_144 : (Cond.selects "Trenchboard" yX8_meets yX8_meets) ∈ GW := mGW (tb4 (List.mem_of_getElem? (i := 144) rfl)) rfl
theorem tw_4_145 : (Cond.code yX8_meets prog_1_method_28_code 4 (Option.some Jvm.ClassFile.FieldType.int)) ∈ GW := mGW (tb4 (List.mem_of_getElem? (i := 145) rfl)) rfl
theorem tw_4_146 : (Cond.stringRef "Trenchboard" 411 "from below 0") ∈ lw_tbl := tb4 (List.mem_of_getElem? (i := 146) rfl)
theorem tw_4_147 : (Cond.methodLink "TrenchboardLaw" 96 yX8_of) ∈ GW := mGW (tb4 (List.mem_of_getElem? (i := 147) rfl)) rfl
theorem tw_4_148 : (Cond.instanceMethod yX8_of) ∈ GW := mGW (tb4 (List.mem_of_getElem? (i := 148) rfl)) rfl
theorem tw_4_149 : (Cond.selects "Trenchboard" yX8_of yX8_of) ∈ GW := mGW (tb4 (List.mem_of_getElem? (i := 149) rfl)) rfl
theorem tw_4_150 : (Cond.code yX8_of prog_1_method_29_code 4 (Option.some Jvm.ClassFile.FieldType.int)) ∈ GW := mGW (tb4 (List.mem_of_getElem? (i := 150) rfl)) rfl
theorem tw_4_151 : (Cond.methodLink "TrenchboardLaw" 102 yX8_search) ∈ GW := mGW (tb4 (List.mem_of_getElem? (i := 151) rfl)) rfl
theorem tw_4_152 : (Cond.instanceMethod yX8_search) ∈ GW := mGW (tb4 (List.mem_of_getElem? (i := 152) rfl)) rfl
theorem tw_4_153 : (Cond.selects "Trenchboard" yX8_search yX8_search) ∈ GW := mGW (tb4 (List.mem_of_getElem? (i := 153) rfl)) rfl
theorem tw_4_154 : (Cond.code yX8_search prog_1_method_31_code 5 (Option.some Jvm.ClassFile.FieldType.int)) ∈ GW := mGW (tb4 (List.mem_of_getElem? (i := 154) rfl)) rfl
theorem tw_4_155 : (Cond.stringRef "Trenchboard" 415 "metres the wrong way round") ∈ lw_tbl := tb4 (List.mem_of_getElem? (i := 155) rfl)
theorem tw_4_156 : (Cond.methodLink "TrenchboardLaw" 105 yX8_queue) ∈ GW := mGW (tb4 (List.mem_of_getElem? (i := 156) rfl)) rfl
theorem tw_4_157 : (Cond.instanceMethod yX8_queue) ∈ GW := mGW (tb4 (List.mem_of_getElem? (i := 157) rfl)) rfl
theorem tw_4_158 : (Cond.selects "Trenchboard" yX8_queue yX8_queue) ∈ GW := mGW (tb4 (List.mem_of_getElem? (i := 158) rfl)) rfl
theorem tw_4_159 : (Cond.code yX8_queue prog_1_method_32_code 3 (Option.some Jvm.ClassFile.FieldType.int)) ∈ GW := mGW (tb4 (List.mem_of_getElem? (i := 159) rfl)) rfl
theorem tw_4_160 : (Cond.methodLink "TrenchboardLaw" 108 yX8_due) ∈ GW := mGW (tb4 (List.mem_of_getElem? (i := 160) rfl)) rfl
theorem tw_4_161 : (Cond.instanceMethod yX8_due) ∈ GW := mGW (tb4 (List.mem_of_getElem? (i := 161) rfl)) rfl
theorem tw_4_162 : (Cond.selects "Trenchboard" yX8_due yX8_due) ∈ GW := mGW (tb4 (List.mem_of_getElem? (i := 162) rfl)) rfl
theorem tw_4_163 : (Cond.code yX8_due prog_1_method_33_code 4 (Option.some Jvm.ClassFile.FieldType.int)) ∈ GW := mGW (tb4 (List.mem_of_getElem? (i := 163) rfl)) rfl
theorem tw_4_164 : (Cond.stringRef "Trenchboard" 428 "no such promoter") ∈ lw_tbl := tb4 (List.mem_of_getElem? (i := 164) rfl)
theorem tw_4_165 : (Cond.methodLink "Trenchboard" 433 yJ9_min_7cf53) ∈ GW := mGW (tb4 (List.mem_of_getElem? (i := 165) rfl)) rfl
theorem tw_4_166 : (Cond.methodLink "TrenchboardLaw" 115 yX8_moneyAnew) ∈ GW := mGW (tb4 (List.mem_of_getElem? (i := 166) rfl)) rfl
theorem tw_4_167 : (Cond.instanceMethod yX8_moneyAnew) ∈ GW := mGW (tb4 (List.mem_of_getElem? (i := 167) rfl)) rfl
theorem tw_4_168 : (Cond.selects "Trenchboard" yX8_moneyAnew yX8_moneyAnew) ∈ GW := mGW (tb4 (List.mem_of_getElem? (i := 168) rfl)) rfl
theorem tw_4_169 : (Cond.code yX8_moneyAnew prog_1_method_35_code 2 (Option.some Jvm.ClassFile.FieldType.long)) ∈ GW := mGW (tb4 (List.mem_of_getElem? (i := 169) rfl)) rfl
theorem tw_4_170 : (Cond.methodLink "Trenchboard" 446 yX1_balanceOf) ∈ GW := mGW (tb4 (List.mem_of_getElem? (i := 170) rfl)) rfl
theorem tw_4_171 : (Cond.instanceMethod yX1_balanceOf) ∈ GW := mGW (tb4 (List.mem_of_getElem? (i := 171) rfl)) rfl
theorem tw_4_172 : (Cond.selects "Trenchboard$Ledger" yX1_balanceOf yX1_balanceOf) ∈ GW := mGW (tb4 (List.mem_of_getElem? (i := 172) rfl)) rfl
theorem tw_4_173 : (Cond.code yX1_balanceOf prog_3_method_3_code 6 (Option.some Jvm.ClassFile.FieldType.long)) ∈ GW := mGW (tb4 (List.mem_of_getElem? (i := 173) rfl)) rfl
theorem tw_4_174 : (Cond.constant "TrenchboardLaw" 120 (-1711000)) ∈ GW := mGW (tb4 (List.mem_of_getElem? (i := 174) rfl)) rfl
theorem tw_4_175 : (Cond.constant "TrenchboardLaw" 123 (-1712000)) ∈ GW := mGW (tb4 (List.mem_of_getElem? (i := 175) rfl)) rfl
theorem tw_4_176 : (Cond.constant "TrenchboardLaw" 126 (-1713000)) ∈ GW := mGW (tb4 (List.mem_of_getElem? (i := 176) rfl)) rfl
theorem tw_4_177 : (Cond.methodLink "TrenchboardLaw" 162 yL_isRefused) ∈ GW := mGW (tb4 (List.mem_of_getElem? (i := 177) rfl)) rfl
theorem tw_4_178 : (Cond.static yL_isRefused) ∈ GW := mGW (tb4 (List.mem_of_getElem? (i := 178) rfl)) rfl
theorem tw_4_179 : (Cond.code yL_isRefused method_8_code 15 (Option.some Jvm.ClassFile.FieldType.boolean)) ∈ GW := mGW (tb4 (List.mem_of_getElem? (i := 179) rfl)) rfl
theorem tw_4_180 : (Cond.methodLink "TrenchboardLaw" 143 yL_all) ∈ GW := mGW (tb4 (List.mem_of_getElem? (i := 180) rfl)) rfl
theorem tw_4_181 : (Cond.static yL_all) ∈ GW := mGW (tb4 (List.mem_of_getElem? (i := 181) rfl)) rfl
theorem tw_4_182 : (Cond.code yL_all method_5_code 6 (Option.some Jvm.ClassFile.FieldType.long)) ∈ GW := mGW (tb4 (List.mem_of_getElem? (i := 182) rfl)) rfl
theorem tw_4_183 : (Cond.constantLong "TrenchboardLaw" 131 7) ∈ GW := mGW (tb4 (List.mem_of_getElem? (i := 183) rfl)) rfl
theorem tw_4_184 : (Cond.constantLong "TrenchboardLaw" 133 1000003) ∈ GW := mGW (tb4 (List.mem_of_getElem? (i := 184) rfl)) rfl
theorem tw_4_185 : (Cond.constantLong "TrenchboardLaw" 135 31) ∈ GW := mGW (tb4 (List.mem_of_getElem? (i := 185) rfl)) rfl
theorem tw_4_186 : (Cond.methodLink "TrenchboardLaw" 147 yL_off) ∈ GW := mGW (tb4 (List.mem_of_getElem? (i := 186) rfl)) rfl
theorem tw_4_187 : (Cond.static yL_off) ∈ GW := mGW (tb4 (List.mem_of_getElem? (i := 187) rfl)) rfl
theorem tw_4_188 : (Cond.code yL_off method_7_code 7 (Option.some Jvm.ClassFile.FieldType.boolean)) ∈ GW := mGW (tb4 (List.mem_of_getElem? (i := 188) rfl)) rfl
theorem tw_4_189 : (Cond.methodLink "TrenchboardLaw" 151 yL_no) ∈ GW := mGW (tb4 (List.mem_of_getElem? (i := 189) rfl)) rfl
theorem tw_4_190 : (Cond.static yL_no) ∈ GW := mGW (tb4 (List.mem_of_getElem? (i := 190) rfl)) rfl
theorem tw_4_191 : (Cond.code yL_no method_6_code 5 (Option.some Jvm.ClassFile.FieldType.boolean)) ∈ GW := mGW (tb4 (List.mem_of_getElem? (i := 191) rfl)) rfl
theorem tw_4_192 : (Cond.methodLink "TrenchboardLaw" 155 yL_asks) ∈ GW := mGW (tb4 (List.mem_of_getElem? (i := 192) rfl)) rfl
theorem tw_4_193 : (Cond.static yL_asks) ∈ GW := mGW (tb4 (List.mem_of_getElem? (i := 193) rfl)) rfl
theorem tw_4_194 : (Cond.codeWith yL_asks method_4_code 9 (Option.some Jvm.ClassFile.FieldType.int) [((0 : Nat), (28 : Nat), (29 : Nat), (118 : Nat)), ((0 : Nat), (28 : Nat), (34 : Nat), (121 : Nat)), ((0 : Nat), (28 : Nat), (39 : Nat), (124 : Nat))]) ∈ GW := mGW (tb4 (List.mem_of_getElem? (i := 194) rfl)) rfl
theorem tw_4_195 : (Cond.methodLink "TrenchboardLaw" 127 yX8_ask) ∈ GW := mGW (tb4 (List.mem_of_getElem? (i := 195) rfl)) rfl
theorem tw_4_196 : (Cond.instanceMethod yX8_ask) ∈ GW := mGW (tb4 (List.mem_of_getElem? (i := 196) rfl)) rfl
theorem tw_4_197 : (Cond.selects "Trenchboard" yX8_ask yX8_ask) ∈ GW := mGW (tb4 (List.mem_of_getElem? (i := 197) rfl)) rfl
theorem tw_4_198 : (Cond.code yX8_ask prog_1_method_10_code 11 (Option.some Jvm.ClassFile.FieldType.int)) ∈ GW := mGW (tb4 (List.mem_of_getElem? (i := 198) rfl)) rfl
theorem tw_4_199 : (Cond.stringRef "Trenchboard" 195 "metres the wrong way round, depth or kind out of range") ∈ lw_tbl := tb4 (List.mem_of_getElem? (i := 199) rfl)
theorem tw_4_200 : (Cond.methodLink "Trenchboard" 197 yX4_noticeOf) ∈ GW := mGW (tb4 (List.mem_of_getElem? (i := 200) rfl)) rfl
theorem tw_4_201 : (Cond.instanceMethod yX4_noticeOf) ∈ GW := mGW (tb4 (List.mem_of_getElem? (i := 201) rfl)) rfl
theorem tw_4_202 : (Cond.selects "Trenchboard$Street" yX4_noticeOf yX4_noticeOf) ∈ GW := mGW (tb4 (List.mem_of_getElem? (i := 202) rfl)) rfl
theorem tw_4_203 : (Cond.code yX4_noticeOf prog_6_method_7_code 3 (Option.some Jvm.ClassFile.FieldType.int)) ∈ GW := mGW (tb4 (List.mem_of_getElem? (i := 203) rfl)) rfl
theorem tw_4_204 : (Cond.stringRef "Trenchboard" 201 "day or days out of range") ∈ lw_tbl := tb4 (List.mem_of_getElem? (i := 204) rfl)
theorem tw_4_205 : (Cond.stringRef "Trenchboard" 206 "no more works") ∈ lw_tbl := tb4 (List.mem_of_getElem? (i := 205) rfl)
theorem tw_4_206 : (Cond.instantiable "Trenchboard$Works" 18) ∈ GW := mGW (tb4 (List.mem_of_getElem? (i := 206) rfl)) rfl
theorem tw_4_207 : (Cond.methodLink "Trenchboard" 208 yX7_init) ∈ GW := mGW (tb4 (List.mem_of_getElem? (i := 207) rfl)) rfl
theorem tw_4_208 : (Cond.instanceMethod yX7_init) ∈ GW := mGW (tb4 (List.mem_of_getElem? (i := 208) rfl)) rfl
theorem tw_4_209 : (Cond.code yX7_init prog_9_method_1_code 6 (Option.none : Option Jvm.ClassFile.FieldType)) ∈ GW := mGW (tb4 (List.mem_of_getElem? (i := 209) rfl)) rfl
theorem tw_4_210 : (Cond.methodLink "Trenchboard$Works" 3 ⟨"java/lang/Object", "<init>", "()V"⟩) ∈ GW := mGW (tb4 (List.mem_of_getElem? (i := 210) rfl)) rfl
theorem tw_4_211 : (Cond.fieldLink "Trenchboard$Works" 9 "Trenchboard$Works" "number" "I") ∈ GW := mGW (tb4 (List.mem_of_getElem? (i := 211) rfl)) rfl
theorem tw_4_212 : (Cond.fieldLink "Trenchboard" 218 "Trenchboard$Works" "number" "I") ∈ GW := mGW (tb4 (List.mem_of_getElem? (i := 212) rfl)) rfl
theorem tw_4_213 : (Cond.fieldLink "Trenchboard$Works" 15 "Trenchboard$Works" "promoter" "I") ∈ GW := mGW (tb4 (List.mem_of_getElem? (i := 213) rfl)) rfl
theorem tw_4_214 : (Cond.fieldLink "Trenchboard" 319 "Trenchboard$Works" "promoter" "I") ∈ GW := mGW (tb4 (List.mem_of_getElem? (i := 214) rfl)) rfl
theorem tw_4_215 : (Cond.fieldLink "Trenchboard$Works" 18 "Trenchboard$Works" "street" "LTrenchboard$Street;") ∈ GW := mGW (tb4 (List.mem_of_getElem? (i := 215) rfl)) rfl
theorem tw_4_216 : (Cond.fieldLink "Trenchboard" 114 "Trenchboard$Works" "street" "LTrenchboard$Street;") ∈ GW := mGW (tb4 (List.mem_of_getElem? (i := 216) rfl)) rfl
theorem tw_4_217 : (Cond.fieldLink "Trenchboard$Works" 22 "Trenchboard$Works" "kind" "I") ∈ GW := mGW (tb4 (List.mem_of_getElem? (i := 217) rfl)) rfl
theorem tw_4_218 : (Cond.fieldLink "Trenchboard" 471 "Trenchboard$Works" "kind" "I") ∈ GW := mGW (tb4 (List.mem_of_getElem? (i := 218) rfl)) rfl
theorem tw_4_219 : (Cond.fieldLink "Trenchboard$Works" 25 "Trenchboard$Works" "askedOn" "I") ∈ GW := mGW (tb4 (List.mem_of_getElem? (i := 219) rfl)) rfl
theorem tw_4_220 : (Cond.fieldLink "Trenchboard$Works" 31 "Trenchboard$Works" "from" "I") ∈ GW := mGW (tb4 (List.mem_of_getElem? (i := 220) rfl)) rfl
theorem tw_4_221 : (Cond.fieldLink "Trenchboard$Works" 34 "Trenchboard$Works" "to" "I") ∈ GW := mGW (tb4 (List.mem_of_getElem? (i := 221) rfl)) rfl
theorem tw_4_222 : (Cond.fieldLink "Trenchboard$Works" 37 "Trenchboard$Works" "depth" "I") ∈ GW := mGW (tb4 (List.mem_of_getElem? (i := 222) rfl)) rfl
theorem tw_4_223 : (Cond.fieldLink "Trenchboard$Metre" 25 "Trenchboard$Works" "depth" "I") ∈ GW := mGW (tb4 (List.mem_of_getElem? (i := 223) rfl)) rfl
theorem tw_4_224 : (Cond.fieldLink "Trenchboard" 398 "Trenchboard$Works" "depth" "I") ∈ GW := mGW (tb4 (List.mem_of_getElem? (i := 224) rfl)) rfl
theorem tw_4_225 : (Cond.fieldLink "Trenchboard$Works" 40 "Trenchboard$Works" "first" "I") ∈ GW := mGW (tb4 (List.mem_of_getElem? (i := 225) rfl)) rfl
theorem tw_4_226 : (Cond.fieldLink "Trenchboard" 121 "Trenchboard$Works" "first" "I") ∈ GW := mGW (tb4 (List.mem_of_getElem? (i := 226) rfl)) rfl
theorem tw_4_227 : (Cond.fieldLink "Trenchboard$Works" 43 "Trenchboard$Works" "last" "I") ∈ GW := mGW (tb4 (List.mem_of_getElem? (i := 227) rfl)) rfl
theorem tw_4_228 : (Cond.fieldLink "Trenchboard" 124 "Trenchboard$Works" "last" "I") ∈ GW := mGW (tb4 (List.mem_of_getElem? (i := 228) rfl)) rfl
theorem tw_4_229 : (Cond.fieldLink "Trenchboard$Works" 28 "Trenchboard$Works" "state" "I") ∈ GW := mGW (tb4 (List.mem_of_getElem? (i := 229) rfl)) rfl
theorem tw_4_230 : (Cond.fieldLink "Trenchboard" 118 "Trenchboard$Works" "state" "I") ∈ GW := mGW (tb4 (List.mem_of_getElem? (i := 230) rfl)) rfl
theorem tw_4_231 : (Cond.fieldLink "Trenchboard$Works" 53 "Trenchboard$Works" "conditions" "I") ∈ GW := mGW (tb4 (List.mem_of_getElem? (i := 231) rfl)) rfl
theorem tw_4_232 : (Cond.fieldLink "Trenchboard" 249 "Trenchboard$Works" "conditions" "I") ∈ GW := mGW (tb4 (List.mem_of_getElem? (i := 232) rfl)) rfl
theorem tw_4_233 : (Cond.fieldLink "Trenchboard" 252 "Trenchboard$Works" "version" "I") ∈ GW := mGW (tb4 (List.mem_of_getElem? (i := 233) rfl)) rfl
theorem tw_4_234 : (Cond.fieldLink "Trenchboard" 328 "Trenchboard$Works" "finds" "I") ∈ GW := mGW (tb4 (List.mem_of_getElem? (i := 234) rfl)) rfl
theorem tw_4_235 : (Cond.fieldLink "Trenchboard$Works" 46 "Trenchboard$Works" "agreeing" "I") ∈ GW := mGW (tb4 (List.mem_of_getElem? (i := 235) rfl)) rfl
theorem tw_4_236 : (Cond.fieldLink "Trenchboard" 260 "Trenchboard$Works" "agreeing" "I") ∈ GW := mGW (tb4 (List.mem_of_getElem? (i := 236) rfl)) rfl
theorem tw_4_237 : (Cond.fieldLink "Trenchboard$Works" 56 "Trenchboard$Works" "openMetres" "I") ∈ GW := mGW (tb4 (List.mem_of_getElem? (i := 237) rfl)) rfl
theorem tw_4_238 : (Cond.fieldLink "Trenchboard" 300 "Trenchboard$Works" "openMetres" "I") ∈ GW := mGW (tb4 (List.mem_of_getElem? (i := 238) rfl)) rfl
theorem tw_4_239 : (Cond.fieldLink "Trenchboard$Works" 59 "Trenchboard$Works" "plated" "Z") ∈ GW := mGW (tb4 (List.mem_of_getElem? (i := 239) rfl)) rfl
theorem tw_5_0 : (Cond.fieldLink "Trenchboard" 277 "Trenchboard$Works" "plated" "Z") ∈ GW := mGW (tb5 (List.mem_of_getElem? (i := 0) rfl)) rfl
theorem tw_5_1 : (Cond.fieldLink "Trenchboard" 255 "Trenchboard$Works" "exempted" "Z") ∈ GW := mGW (tb5 (List.mem_of_getElem? (i := 1) rfl)) rfl
theorem tw_5_2 : (Cond.laysFinal "Trenchboard$Works" "Trenchboard$Works" "number" "I") ∈ GW := mGW (tb5 (List.mem_of_getElem? (i := 2) rfl)) rfl
theorem tw_5_4 : (Cond.laysFinal "Trenchboard$Works" "Trenchboard$Works" "promoter" "I") ∈ GW := mGW (tb5 (List.mem_of_getElem? (i := 4) rfl)) rfl
theorem tw_5_6 : (Cond.laysFinal "Trenchboard$Works" "Trenchboard$Works" "street" "LTrenchboard$Street;") ∈ GW := mGW (tb5 (List.mem_of_getElem? (i := 6) rfl)) rfl
theorem tw_5_8 : (Cond.laysFinal "Trenchboard$Works" "Trenchboard$Works" "kind" "I") ∈ GW := mGW (tb5 (List.mem_of_getElem? (i := 8) rfl)) rfl
theorem tw_5_10 : (Cond.laysFinal "Trenchboard$Works" "Trenchboard$Works" "askedOn" "I") ∈ GW := mGW (tb5 (List.mem_of_getElem? (i := 10) rfl)) rfl
theorem tw_5_12 : (Cond.lays "Trenchboard$Works" "Trenchboard$Works" "from" "I") ∈ GW := mGW (tb5 (List.mem_of_getElem? (i := 12) rfl)) rfl
theorem tw_5_14 : (Cond.lays "Trenchboard$Works" "Trenchboard$Works" "to" "I") ∈ GW := mGW (tb5 (List.mem_of_getElem? (i := 14) rfl)) rfl
theorem tw_5_16 : (Cond.lays "Trenchboard$Works" "Trenchboard$Works" "depth" "I") ∈ GW := mGW (tb5 (List.mem_of_getElem? (i := 16) rfl)) rfl
theorem tw_5_18 : (Cond.lays "Trenchboard$Works" "Trenchboard$Works" "first" "I") ∈ GW := mGW (tb5 (List.mem_of_getElem? (i := 18) rfl)) rfl
theorem tw_5_20 : (Cond.lays "Trenchboard$Works" "Trenchboard$Works" "last" "I") ∈ GW := mGW (tb5 (List.mem_of_getElem? (i := 20) rfl)) rfl
theorem tw_5_22 : (Cond.lays "Trenchboard$Works" "Trenchboard$Works" "state" "I") ∈ GW := mGW (tb5 (List.mem_of_getElem? (i := 22) rfl)) rfl
theorem tw_5_24 : (Cond.lays "Trenchboard$Works" "Trenchboard$Works" "conditions" "I") ∈ GW := mGW (tb5 (List.mem_of_getElem? (i := 24) rfl)) rfl
theorem tw_5_26 : (Cond.lays "Trenchboard$Works" "Trenchboard$Works" "version" "I") ∈ GW := mGW (tb5 (List.mem_of_getElem? (i := 26) rfl)) rfl
theorem tw_5_28 : (Cond.lays "Trenchboard$Works" "Trenchboard$Works" "finds" "I") ∈ GW := mGW (tb5 (List.mem_of_getElem? (i := 28) rfl)) rfl
theorem tw_5_30 : (Cond.lays "Trenchboard$Works" "Trenchboard$Works" "agreeing" "I") ∈ GW := mGW (tb5 (List.mem_of_getElem? (i := 30) rfl)) rfl
theorem tw_5_32 : (Cond.lays "Trenchboard$Works" "Trenchboard$Works" "openMetres" "I") ∈ GW := mGW (tb5 (List.mem_of_getElem? (i := 32) rfl)) rfl
theorem tw_5_34 : (Cond.lays "Trenchboard$Works" "Trenchboard$Works" "plated" "Z") ∈ GW := mGW (tb5 (List.mem_of_getElem? (i := 34) rfl)) rfl
theorem tw_5_36 : (Cond.lays "Trenchboard$Works" "Trenchboard$Works" "exempted" "Z") ∈ GW := mGW (tb5 (List.mem_of_getElem? (i := 36) rfl)) rfl
theorem tw_5_38 : (Cond.superclass "Trenchboard$Works" "java/lang/Object") ∈ lw_tbl := tb5 (List.mem_of_getElem? (i := 38) rfl)
theorem tw_5_39 : (Cond.methodLink "Trenchboard" 211 yX7_placeAt) ∈ GW := mGW (tb5 (List.mem_of_getElem? (i := 39) rfl)) rfl
theorem tw_5_40 : (Cond.instanceMethod yX7_placeAt) ∈ GW := mGW (tb5 (List.mem_of_getElem? (i := 40) rfl)) rfl
theorem tw_5_41 : (Cond.selects "Trenchboard$Works" yX7_placeAt yX7_placeAt) ∈ GW := mGW (tb5 (List.mem_of_getElem? (i := 41) rfl)) rfl
theorem tw_5_42 : (Cond.code yX7_placeAt prog_9_method_2_code 4 (Option.none : Option Jvm.ClassFile.FieldType)) ∈ GW := mGW (tb5 (List.mem_of_getElem? (i := 42) rfl)) rfl
theorem tw_5_43 : (Cond.methodLink "Trenchboard" 214 yX7_planFor) ∈ GW := mGW (tb5 (List.mem_of_getElem? (i := 43) rfl)) rfl
theorem tw_5_44 : (Cond.instanceMethod yX7_planFor) ∈ GW := mGW (tb5 (List.mem_of_getElem? (i := 44) rfl)) rfl
theorem tw_5_45 : (Cond.selects "Trenchboard$Works" yX7_planFor yX7_planFor) ∈ GW := mGW (tb5 (List.mem_of_getElem? (i := 45) rfl)) rfl
theorem tw_5_46 : (Cond.code yX7_planFor prog_9_method_3_code 3 (Option.none : Option Jvm.ClassFile.FieldType)) ∈ GW := mGW (tb5 (List.mem_of_getElem? (i := 46) rfl)) rfl
theorem tw_5_47 : (Cond.methodLink "TrenchboardLaw" 184 yL_areSound) ∈ GW := mGW (tb5 (List.mem_of_getElem? (i := 47) rfl)) rfl
theorem tw_5_48 : (Cond.static yL_areSound) ∈ GW := mGW (tb5 (List.mem_of_getElem? (i := 48) rfl)) rfl
theorem tw_5_49 : (Cond.code yL_areSound method_9_code 14 (Option.some Jvm.ClassFile.FieldType.boolean)) ∈ GW := mGW (tb5 (List.mem_of_getElem? (i := 49) rfl)) rfl
theorem tw_5_50 : (Cond.methodLink "TrenchboardLaw" 170 yL_isLaid) ∈ GW := mGW (tb5 (List.mem_of_getElem? (i := 50) rfl)) rfl
theorem tw_5_51 : (Cond.static yL_isLaid) ∈ GW := mGW (tb5 (List.mem_of_getElem? (i := 51) rfl)) rfl
theorem tw_5_52 : (Cond.code yL_isLaid method_10_code 11 (Option.some Jvm.ClassFile.FieldType.boolean)) ∈ GW := mGW (tb5 (List.mem_of_getElem? (i := 52) rfl)) rfl
theorem tw_5_53 : (Cond.methodLink "TrenchboardLaw" 174 yL_isAsked) ∈ GW := mGW (tb5 (List.mem_of_getElem? (i := 53) rfl)) rfl
theorem tw_5_54 : (Cond.static yL_isAsked) ∈ GW := mGW (tb5 (List.mem_of_getElem? (i := 54) rfl)) rfl
theorem tw_5_55 : (Cond.code yL_isAsked method_11_code 12 (Option.some Jvm.ClassFile.FieldType.boolean)) ∈ GW := mGW (tb5 (List.mem_of_getElem? (i := 55) rfl)) rfl
theorem tw_5_56 : (Cond.methodLink "TrenchboardLaw" 181 yL_isDone) ∈ GW := mGW (tb5 (List.mem_of_getElem? (i := 56) rfl)) rfl
theorem tw_5_57 : (Cond.static yL_isDone) ∈ GW := mGW (tb5 (List.mem_of_getElem? (i := 57) rfl)) rfl
theorem tw_5_58 : (Cond.code yL_isDone method_12_code 17 (Option.some Jvm.ClassFile.FieldType.boolean)) ∈ GW := mGW (tb5 (List.mem_of_getElem? (i := 58) rfl)) rfl
theorem tw_5_59 : (Cond.constantLong "TrenchboardLaw" 159 1000) ∈ GW := mGW (tb5 (List.mem_of_getElem? (i := 59) rfl)) rfl
theorem tw_5_60 : (Cond.methodLink "TrenchboardLaw" 177 yL_isPassed) ∈ GW := mGW (tb5 (List.mem_of_getElem? (i := 60) rfl)) rfl
theorem tw_5_61 : (Cond.static yL_isPassed) ∈ GW := mGW (tb5 (List.mem_of_getElem? (i := 61) rfl)) rfl
theorem tw_5_62 : (Cond.code yL_isPassed method_13_code 12 (Option.some Jvm.ClassFile.FieldType.boolean)) ∈ GW := mGW (tb5 (List.mem_of_getElem? (i := 62) rfl)) rfl
theorem tw_5_63 : (Cond.sameMethod "java/lang/Throwable" "java/lang/Throwable" "fillInStackTrace" "(I)Ljava/lang/Throwable;") ∈ lw_tbl := tb5 (List.mem_of_getElem? (i := 63) rfl)
theorem tw_5_64 : (Cond.castable "Trenchboard$Street" "java/lang/Object") ∈ lw_tbl := tb5 (List.mem_of_getElem? (i := 64) rfl)
theorem tw_5_65 : (Cond.castable "Trenchboard$Thing" "java/lang/Object") ∈ lw_tbl := tb5 (List.mem_of_getElem? (i := 65) rfl)
theorem tw_5_66 : (Cond.castable "Trenchboard$Works" "java/lang/Object") ∈ lw_tbl := tb5 (List.mem_of_getElem? (i := 66) rfl)
theorem tw_5_67 : (Cond.castable "Trenchboard$Party" "java/lang/Object") ∈ lw_tbl := tb5 (List.mem_of_getElem? (i := 67) rfl)
theorem tw_5_68 : (Cond.castable "Trenchboard$Metre" "java/lang/Object") ∈ lw_tbl := tb5 (List.mem_of_getElem? (i := 68) rfl)
theorem tw_5_69 : (Cond.castable "Trenchboard" "java/lang/Object") ∈ lw_tbl := tb5 (List.mem_of_getElem? (i := 69) rfl)
theorem tw_5_70 : (Cond.castable "Trenchboard$Ledger" "java/lang/Object") ∈ lw_tbl := tb5 (List.mem_of_getElem? (i := 70) rfl)
theorem tw_5_71 : (Cond.castable "java/util/ArrayList" "java/lang/Object") ∈ lw_tbl := tb5 (List.mem_of_getElem? (i := 71) rfl)
theorem tw_5_72 : (Cond.castable "java/lang/IndexOutOfBoundsException" "java/lang/Object") ∈ lw_tbl := tb5 (List.mem_of_getElem? (i := 72) rfl)
theorem tw_5_73 : (Cond.castable "java/lang/IllegalArgumentException" "java/lang/Object") ∈ lw_tbl := tb5 (List.mem_of_getElem? (i := 73) rfl)
theorem tw_5_74 : (Cond.castable "java/lang/IllegalStateException" "java/lang/Object") ∈ lw_tbl := tb5 (List.mem_of_getElem? (i := 74) rfl)
theorem tw_5_75 : (Cond.castable "Trenchboard$Telling" "java/lang/Object") ∈ lw_tbl := tb5 (List.mem_of_getElem? (i := 75) rfl)
theorem tw_5_76 : (Cond.castable "Trenchboard$Fill" "java/lang/Object") ∈ lw_tbl := tb5 (List.mem_of_getElem? (i := 76) rfl)
theorem tw_5_77 : (Cond.castable "java/lang/Throwable" "java/lang/Object") ∈ lw_tbl := tb5 (List.mem_of_getElem? (i := 77) rfl)
theorem tw_5_78 : (Cond.castable "java/lang/String" "java/lang/Object") ∈ lw_tbl := tb5 (List.mem_of_getElem? (i := 78) rfl)
theorem tw_5_79 : (Cond.sameMethod "[Ljava/lang/Object;" "java/lang/Object" "getClass" "()Ljava/lang/Class;") ∈ lw_tbl := tb5 (List.mem_of_getElem? (i := 79) rfl)
theorem tw_5_80 : (Cond.selects "[Ljava/lang/Object;" ⟨"java/lang/Object", "getClass", "()Ljava/lang/Class;"⟩ ⟨"java/lang/Object", "getClass", "()Ljava/lang/Class;"⟩) ∈ GW := mGW (tb5 (List.mem_of_getElem? (i := 80) rfl)) rfl
theorem tw_5_81 : (Cond.declares ⟨"java/lang/Object", "getClass", "()Ljava/lang/Class;"⟩) ∈ lw_tbl := tb5 (List.mem_of_getElem? (i := 81) rfl)
theorem tw_5_82 : (Cond.castable "[LTrenchboard$Street;" "java/lang/Object") ∈ lw_tbl := tb5 (List.mem_of_getElem? (i := 82) rfl)
theorem tw_5_83 : (Cond.castable "[LTrenchboard$Thing;" "java/lang/Object") ∈ lw_tbl := tb5 (List.mem_of_getElem? (i := 83) rfl)
theorem tw_5_84 : (Cond.castable "[LTrenchboard$Works;" "java/lang/Object") ∈ lw_tbl := tb5 (List.mem_of_getElem? (i := 84) rfl)
theorem tw_5_85 : (Cond.castable "[LTrenchboard$Party;" "java/lang/Object") ∈ lw_tbl := tb5 (List.mem_of_getElem? (i := 85) rfl)
theorem tw_5_86 : (Cond.castable "[I" "java/lang/Object") ∈ lw_tbl := tb5 (List.mem_of_getElem? (i := 86) rfl)
theorem tw_5_87 : (Cond.castable "[B" "java/lang/Object") ∈ lw_tbl := tb5 (List.mem_of_getElem? (i := 87) rfl)
theorem tw_5_88 : (Cond.castable "[LTrenchboard$Metre;" "java/lang/Object") ∈ lw_tbl := tb5 (List.mem_of_getElem? (i := 88) rfl)
theorem tw_5_89 : (Cond.castable "[Ljava/lang/Object;" "java/lang/Object") ∈ lw_tbl := tb5 (List.mem_of_getElem? (i := 89) rfl)
theorem tw_1_32 : Cond.code Lib.objectInit ⟨#[0xb1]⟩ 1 none ∈ GW := mGW (tb1 (List.mem_of_getElem? (i := 32) rfl)) rfl
theorem tw_0_0 : Cond.selects "Trenchboard" yX8_streetAt yX8_streetAt ∈ GW := mGW (tb0 (List.mem_of_getElem? (i := 0) rfl)) rfl
theorem tw_0_2 : Cond.selects "Trenchboard" yX8_whoIsLiable yX8_whoIsLiable ∈ GW := mGW (tb0 (List.mem_of_getElem? (i := 2) rfl)) rfl
theorem tw_0_3 : Cond.selects "Trenchboard" yX8_today yX8_today ∈ GW := mGW (tb0 (List.mem_of_getElem? (i := 3) rfl)) rfl
theorem tw_0_4 : Cond.selects "Trenchboard" yX8_isSuspect yX8_isSuspect ∈ GW := mGW (tb0 (List.mem_of_getElem? (i := 4) rfl)) rfl
theorem tw_0_5 : Cond.selects "Trenchboard" yX8_suspects yX8_suspects ∈ GW := mGW (tb0 (List.mem_of_getElem? (i := 5) rfl)) rfl
theorem tw_0_6 : Cond.selects "Trenchboard" yX8_partyAt yX8_partyAt ∈ GW := mGW (tb0 (List.mem_of_getElem? (i := 6) rfl)) rfl
theorem tw_0_7 : Cond.selects "Trenchboard" yX8_tell yX8_tell ∈ GW := mGW (tb0 (List.mem_of_getElem? (i := 7) rfl)) rfl
theorem tw_0_8 : Cond.selects "java/util/ArrayList" yJx4a65c_add_72be8 yJx4a65c_add_72be8 ∈ GW := mGW (tb0 (List.mem_of_getElem? (i := 8) rfl)) rfl
theorem tw_0_9 : Cond.selects "java/util/ArrayList" yJx4a65c_grow_d5877 yJx4a65c_grow_d5877 ∈ GW := mGW (tb0 (List.mem_of_getElem? (i := 9) rfl)) rfl
theorem tw_0_10 : Cond.selects "java/util/ArrayList" yJx4a65c_grow_92f84 yJx4a65c_grow_92f84 ∈ GW := mGW (tb0 (List.mem_of_getElem? (i := 10) rfl)) rfl
theorem tw_0_11 : Cond.selects "Trenchboard" yX8_thingAt yX8_thingAt ∈ GW := mGW (tb0 (List.mem_of_getElem? (i := 11) rfl)) rfl
theorem tw_0_12 : Cond.selects "Trenchboard" yX8_worksAt yX8_worksAt ∈ GW := mGW (tb0 (List.mem_of_getElem? (i := 12) rfl)) rfl
theorem tw_0_13 : Cond.selects "Trenchboard" yX8_whatBars yX8_whatBars ∈ GW := mGW (tb0 (List.mem_of_getElem? (i := 13) rfl)) rfl
theorem tw_0_14 : Cond.selects "Trenchboard" yX8_firstMet yX8_firstMet ∈ GW := mGW (tb0 (List.mem_of_getElem? (i := 14) rfl)) rfl
theorem tw_0_15 : Cond.selects "Trenchboard" yX8_permit yX8_permit ∈ GW := mGW (tb0 (List.mem_of_getElem? (i := 15) rfl)) rfl
theorem tw_0_16 : Cond.selects "Trenchboard" yX8_pay yX8_pay ∈ GW := mGW (tb0 (List.mem_of_getElem? (i := 16) rfl)) rfl
theorem tw_0_17 : Cond.selects "Trenchboard" yX8_isBusy yX8_isBusy ∈ GW := mGW (tb0 (List.mem_of_getElem? (i := 17) rfl)) rfl
theorem tw_0_18 : Cond.selects "Trenchboard" yX8_strikeThings yX8_strikeThings ∈ GW := mGW (tb0 (List.mem_of_getElem? (i := 18) rfl)) rfl
theorem tw_0_19 : Cond.selects "Trenchboard" yX8_countFill yX8_countFill ∈ GW := mGW (tb0 (List.mem_of_getElem? (i := 19) rfl)) rfl
theorem tw_0_20 : Cond.selects "Trenchboard" yX8_goOneHour yX8_goOneHour ∈ GW := mGW (tb0 (List.mem_of_getElem? (i := 20) rfl)) rfl
theorem tw_0_21 : Cond.selects "Trenchboard" yX8_settleAsked yX8_settleAsked ∈ GW := mGW (tb0 (List.mem_of_getElem? (i := 21) rfl)) rfl
theorem tw_0_22 : Cond.selects "Trenchboard" yX8_fineLate yX8_fineLate ∈ GW := mGW (tb0 (List.mem_of_getElem? (i := 22) rfl)) rfl
theorem tw_0_23 : Cond.selects "Trenchboard" yX8_takeStreets yX8_takeStreets ∈ GW := mGW (tb0 (List.mem_of_getElem? (i := 23) rfl)) rfl
theorem tw_0_24 : Cond.selects "Trenchboard" yX8_chargeTakers yX8_chargeTakers ∈ GW := mGW (tb0 (List.mem_of_getElem? (i := 24) rfl)) rfl
theorem tw_0_25 : Cond.selects "Trenchboard" yX8_moveQueues yX8_moveQueues ∈ GW := mGW (tb0 (List.mem_of_getElem? (i := 25) rfl)) rfl
theorem tw_0_26 : Cond.selects "Trenchboard" yX8_countFault yX8_countFault ∈ GW := mGW (tb0 (List.mem_of_getElem? (i := 26) rfl)) rfl
theorem tw_0_27 : Cond.selects "Trenchboard" yX8_countCore yX8_countCore ∈ GW := mGW (tb0 (List.mem_of_getElem? (i := 27) rfl)) rfl
theorem fwX0 : ∀ w ∈ u_ws RX0 TX0 6, w ∈ GW := by
  intro w h
  obtain ⟨j, hj, rfl⟩ := List.mem_map.mp h
  have hj := List.mem_range.mp hj
  rcases (show j = 0 ∨ j = 1 ∨ j = 2 ∨ j = 3 ∨ j = 4 ∨ j = 5 by omega) with rfl | rfl | rfl | rfl | rfl | rfl
  · exact tw_4_14
  · exact tw_4_16
  · exact tw_4_18
  · exact tw_4_20
  · exact tw_4_22
  · exact tw_4_24
theorem fwX1 : ∀ w ∈ u_ws RX1 TX1 2, w ∈ GW := by
  intro w h
  obtain ⟨j, hj, rfl⟩ := List.mem_map.mp h
  have hj := List.mem_range.mp hj
  rcases (show j = 0 ∨ j = 1 by omega) with rfl | rfl
  · exact tw_1_49
  · exact tw_1_51
theorem fwX2 : ∀ w ∈ u_ws RX2 TX2 4, w ∈ GW := by
  intro w h
  obtain ⟨j, hj, rfl⟩ := List.mem_map.mp h
  have hj := List.mem_range.mp hj
  rcases (show j = 0 ∨ j = 1 ∨ j = 2 ∨ j = 3 by omega) with rfl | rfl | rfl | rfl
  · exact tw_2_86
  · exact tw_2_88
  · exact tw_2_90
  · exact tw_2_92
theorem fwX3 : ∀ w ∈ u_ws RX3 TX3 4, w ∈ GW := by
  intro w h
  obtain ⟨j, hj, rfl⟩ := List.mem_map.mp h
  have hj := List.mem_range.mp hj
  rcases (show j = 0 ∨ j = 1 ∨ j = 2 ∨ j = 3 by omega) with rfl | rfl | rfl | rfl
  · exact tw_1_90
  · exact tw_1_92
  · exact tw_1_94
  · exact tw_1_96
theorem fwX4 : ∀ w ∈ u_ws RX4 TX4 12, w ∈ GW := by
  intro w h
  obtain ⟨j, hj, rfl⟩ := List.mem_map.mp h
  have hj := List.mem_range.mp hj
  rcases (show j = 0 ∨ j = 1 ∨ j = 2 ∨ j = 3 ∨ j = 4 ∨ j = 5 ∨ j = 6 ∨ j = 7 ∨ j = 8 ∨ j = 9 ∨ j = 10 ∨ j = 11 by omega) with rfl | rfl | rfl | rfl | rfl | rfl | rfl | rfl | rfl | rfl | rfl | rfl
  · exact tw_2_115
  · exact tw_2_117
  · exact tw_2_119
  · exact tw_2_121
  · exact tw_2_123
  · exact tw_2_125
  · exact tw_2_127
  · exact tw_2_129
  · exact tw_2_131
  · exact tw_2_133
  · exact tw_2_135
  · exact tw_2_137
theorem fwX5 : ∀ w ∈ u_ws RX5 TX5 4, w ∈ GW := by
  intro w h
  obtain ⟨j, hj, rfl⟩ := List.mem_map.mp h
  have hj := List.mem_range.mp hj
  rcases (show j = 0 ∨ j = 1 ∨ j = 2 ∨ j = 3 by omega) with rfl | rfl | rfl | rfl
  · exact tw_2_166
  · exact tw_2_168
  · exact tw_2_170
  · exact tw_2_172
theorem fwX6 : ∀ w ∈ u_ws RX6 TX6 8, w ∈ GW := by
  intro w h
  obtain ⟨j, hj, rfl⟩ := List.mem_map.mp h
  have hj := List.mem_range.mp hj
  rcases (show j = 0 ∨ j = 1 ∨ j = 2 ∨ j = 3 ∨ j = 4 ∨ j = 5 ∨ j = 6 ∨ j = 7 by omega) with rfl | rfl | rfl | rfl | rfl | rfl | rfl | rfl
  · exact tw_3_38
  · exact tw_3_40
  · exact tw_3_42
  · exact tw_3_44
  · exact tw_3_46
  · exact tw_3_48
  · exact tw_3_50
  · exact tw_3_52
theorem fwX7 : ∀ w ∈ u_ws RX7 TX7 18, w ∈ GW := by
  intro w h
  obtain ⟨j, hj, rfl⟩ := List.mem_map.mp h
  have hj := List.mem_range.mp hj
  rcases (show j = 0 ∨ j = 1 ∨ j = 2 ∨ j = 3 ∨ j = 4 ∨ j = 5 ∨ j = 6 ∨ j = 7 ∨ j = 8 ∨ j = 9 ∨ j = 10 ∨ j = 11 ∨ j = 12 ∨ j = 13 ∨ j = 14 ∨ j = 15 ∨ j = 16 ∨ j = 17 by omega) with rfl | rfl | rfl | rfl | rfl | rfl | rfl | rfl | rfl | rfl | rfl | rfl | rfl | rfl | rfl | rfl | rfl | rfl
  · exact tw_5_2
  · exact tw_5_4
  · exact tw_5_6
  · exact tw_5_8
  · exact tw_5_10
  · exact tw_5_12
  · exact tw_5_14
  · exact tw_5_16
  · exact tw_5_18
  · exact tw_5_20
  · exact tw_5_22
  · exact tw_5_24
  · exact tw_5_26
  · exact tw_5_28
  · exact tw_5_30
  · exact tw_5_32
  · exact tw_5_34
  · exact tw_5_36
theorem fwX8 : ∀ w ∈ u_ws RX8 TX8 10, w ∈ GW := by
  intro w h
  obtain ⟨j, hj, rfl⟩ := List.mem_map.mp h
  have hj := List.mem_range.mp hj
  rcases (show j = 0 ∨ j = 1 ∨ j = 2 ∨ j = 3 ∨ j = 4 ∨ j = 5 ∨ j = 6 ∨ j = 7 ∨ j = 8 ∨ j = 9 by omega) with rfl | rfl | rfl | rfl | rfl | rfl | rfl | rfl | rfl | rfl
  · exact tw_1_109
  · exact tw_1_111
  · exact tw_1_113
  · exact tw_1_115
  · exact tw_1_117
  · exact tw_1_119
  · exact tw_1_121
  · exact tw_1_123
  · exact tw_1_125
  · exact tw_1_127
theorem fwJx4a65c : ∀ w ∈ u_ws RJx4a65c TJx4a65c 3, w ∈ GW := by
  intro w h
  obtain ⟨j, hj, rfl⟩ := List.mem_map.mp h
  have hj := List.mem_range.mp hj
  rcases (show j = 0 ∨ j = 1 ∨ j = 2 by omega) with rfl | rfl | rfl
  · exact tw_1_78
  · exact tw_1_74
  · exact tw_1_76
theorem goodW {c0 : Cond} {y : MethodName} {b : ByteArray} {n : Nat} {r : Option FieldType} (h : Cond.code y b n r ∈ GW) : GoodIn (c0 :: GW) (Wm y b n r) := fun w hw => by
  have hw' : w ∈ GW := by
    rcases List.mem_cons.mp hw with rfl | hw
    · exact h
    · exact hw
  exact ⟨List.mem_cons_of_mem _ hw', good_of_word (GW_good hw')⟩
theorem goodL {y : MethodName} {b : ByteArray} {n : Nat} {r : Option FieldType} (h : Cond.code y b n r ∈ GW) : GoodIn lw_tbl (Wm y b n r) := fun w hw => by
  have hw' : w ∈ GW := by
    rcases List.mem_cons.mp hw with rfl | hw
    · exact h
    · exact hw
  exact ⟨GW_tbl hw', good_of_word (GW_good hw')⟩
theorem hy_X0_init : yX0_init.cls ≠ "java/lang/invoke/MethodHandle" ∧ yX0_init.cls ≠ "java/lang/invoke/VarHandle" ∧ (parseMethodDescriptor yX0_init.desc).map (fun d => d.parameters.length) = some 5 := by decide +kernel
theorem hy_X1_init : yX1_init.cls ≠ "java/lang/invoke/MethodHandle" ∧ yX1_init.cls ≠ "java/lang/invoke/VarHandle" ∧ (parseMethodDescriptor yX1_init.desc).map (fun d => d.parameters.length) = some 0 := by decide +kernel
theorem hy_X1_enter : yX1_enter.cls ≠ "java/lang/invoke/MethodHandle" ∧ yX1_enter.cls ≠ "java/lang/invoke/VarHandle" ∧ (parseMethodDescriptor yX1_enter.desc).map (fun d => d.parameters.length) = some 3 := by decide +kernel
theorem hy_X1_balanceOf : yX1_balanceOf.cls ≠ "java/lang/invoke/MethodHandle" ∧ yX1_balanceOf.cls ≠ "java/lang/invoke/VarHandle" ∧ (parseMethodDescriptor yX1_balanceOf.desc).map (fun d => d.parameters.length) = some 1 := by decide +kernel
theorem hy_X2_init : yX2_init.cls ≠ "java/lang/invoke/MethodHandle" ∧ yX2_init.cls ≠ "java/lang/invoke/VarHandle" ∧ (parseMethodDescriptor yX2_init.desc).map (fun d => d.parameters.length) = some 0 := by decide +kernel
theorem hy_X2_latestAsDeepAs : yX2_latestAsDeepAs.cls ≠ "java/lang/invoke/MethodHandle" ∧ yX2_latestAsDeepAs.cls ≠ "java/lang/invoke/VarHandle" ∧ (parseMethodDescriptor yX2_latestAsDeepAs.desc).map (fun d => d.parameters.length) = some 1 := by decide +kernel
theorem hy_X3_init : yX3_init.cls ≠ "java/lang/invoke/MethodHandle" ∧ yX3_init.cls ≠ "java/lang/invoke/VarHandle" ∧ (parseMethodDescriptor yX3_init.desc).map (fun d => d.parameters.length) = some 0 := by decide +kernel
theorem hy_X4_init : yX4_init.cls ≠ "java/lang/invoke/MethodHandle" ∧ yX4_init.cls ≠ "java/lang/invoke/VarHandle" ∧ (parseMethodDescriptor yX4_init.desc).map (fun d => d.parameters.length) = some 5 := by decide +kernel
theorem hy_X4_metreAt : yX4_metreAt.cls ≠ "java/lang/invoke/MethodHandle" ∧ yX4_metreAt.cls ≠ "java/lang/invoke/VarHandle" ∧ (parseMethodDescriptor yX4_metreAt.desc).map (fun d => d.parameters.length) = some 1 := by decide +kernel
theorem hy_X4_hasOpenMetre : yX4_hasOpenMetre.cls ≠ "java/lang/invoke/MethodHandle" ∧ yX4_hasOpenMetre.cls ≠ "java/lang/invoke/VarHandle" ∧ (parseMethodDescriptor yX4_hasOpenMetre.desc).map (fun d => d.parameters.length) = some 0 := by decide +kernel
theorem hy_X4_hasEmbargoIn : yX4_hasEmbargoIn.cls ≠ "java/lang/invoke/MethodHandle" ∧ yX4_hasEmbargoIn.cls ≠ "java/lang/invoke/VarHandle" ∧ (parseMethodDescriptor yX4_hasEmbargoIn.desc).map (fun d => d.parameters.length) = some 2 := by decide +kernel
theorem hy_X4_isNewIn : yX4_isNewIn.cls ≠ "java/lang/invoke/MethodHandle" ∧ yX4_isNewIn.cls ≠ "java/lang/invoke/VarHandle" ∧ (parseMethodDescriptor yX4_isNewIn.desc).map (fun d => d.parameters.length) = some 2 := by decide +kernel
theorem hy_X4_weight : yX4_weight.cls ≠ "java/lang/invoke/MethodHandle" ∧ yX4_weight.cls ≠ "java/lang/invoke/VarHandle" ∧ (parseMethodDescriptor yX4_weight.desc).map (fun d => d.parameters.length) = some 0 := by decide +kernel
theorem hy_X4_noticeOf : yX4_noticeOf.cls ≠ "java/lang/invoke/MethodHandle" ∧ yX4_noticeOf.cls ≠ "java/lang/invoke/VarHandle" ∧ (parseMethodDescriptor yX4_noticeOf.desc).map (fun d => d.parameters.length) = some 1 := by decide +kernel
theorem hy_X4_sendFlow : yX4_sendFlow.cls ≠ "java/lang/invoke/MethodHandle" ∧ yX4_sendFlow.cls ≠ "java/lang/invoke/VarHandle" ∧ (parseMethodDescriptor yX4_sendFlow.desc).map (fun d => d.parameters.length) = some 0 := by decide +kernel
theorem hy_X4_letThrough : yX4_letThrough.cls ≠ "java/lang/invoke/MethodHandle" ∧ yX4_letThrough.cls ≠ "java/lang/invoke/VarHandle" ∧ (parseMethodDescriptor yX4_letThrough.desc).map (fun d => d.parameters.length) = some 0 := by decide +kernel
theorem hy_X5_init : yX5_init.cls ≠ "java/lang/invoke/MethodHandle" ∧ yX5_init.cls ≠ "java/lang/invoke/VarHandle" ∧ (parseMethodDescriptor yX5_init.desc).map (fun d => d.parameters.length) = some 4 := by decide +kernel
theorem hy_X5_isFillOf : yX5_isFillOf.cls ≠ "java/lang/invoke/MethodHandle" ∧ yX5_isFillOf.cls ≠ "java/lang/invoke/VarHandle" ∧ (parseMethodDescriptor yX5_isFillOf.desc).map (fun d => d.parameters.length) = some 2 := by decide +kernel
theorem hy_X5_isSurfaceOf : yX5_isSurfaceOf.cls ≠ "java/lang/invoke/MethodHandle" ∧ yX5_isSurfaceOf.cls ≠ "java/lang/invoke/VarHandle" ∧ (parseMethodDescriptor yX5_isSurfaceOf.desc).map (fun d => d.parameters.length) = some 1 := by decide +kernel
theorem hy_X6_init : yX6_init.cls ≠ "java/lang/invoke/MethodHandle" ∧ yX6_init.cls ≠ "java/lang/invoke/VarHandle" ∧ (parseMethodDescriptor yX6_init.desc).map (fun d => d.parameters.length) = some 5 := by decide +kernel
theorem hy_X6_putRecord : yX6_putRecord.cls ≠ "java/lang/invoke/MethodHandle" ∧ yX6_putRecord.cls ≠ "java/lang/invoke/VarHandle" ∧ (parseMethodDescriptor yX6_putRecord.desc).map (fun d => d.parameters.length) = some 3 := by decide +kernel
theorem hy_X6_suspectMetres : yX6_suspectMetres.cls ≠ "java/lang/invoke/MethodHandle" ∧ yX6_suspectMetres.cls ≠ "java/lang/invoke/VarHandle" ∧ (parseMethodDescriptor yX6_suspectMetres.desc).map (fun d => d.parameters.length) = some 0 := by decide +kernel
theorem hy_X6_liesAt : yX6_liesAt.cls ≠ "java/lang/invoke/MethodHandle" ∧ yX6_liesAt.cls ≠ "java/lang/invoke/VarHandle" ∧ (parseMethodDescriptor yX6_liesAt.desc).map (fun d => d.parameters.length) = some 2 := by decide +kernel
theorem hy_X6_liesInSureMetre : yX6_liesInSureMetre.cls ≠ "java/lang/invoke/MethodHandle" ∧ yX6_liesInSureMetre.cls ≠ "java/lang/invoke/VarHandle" ∧ (parseMethodDescriptor yX6_liesInSureMetre.desc).map (fun d => d.parameters.length) = some 0 := by decide +kernel
theorem hy_X7_init : yX7_init.cls ≠ "java/lang/invoke/MethodHandle" ∧ yX7_init.cls ≠ "java/lang/invoke/VarHandle" ∧ (parseMethodDescriptor yX7_init.desc).map (fun d => d.parameters.length) = some 5 := by decide +kernel
theorem hy_X7_placeAt : yX7_placeAt.cls ≠ "java/lang/invoke/MethodHandle" ∧ yX7_placeAt.cls ≠ "java/lang/invoke/VarHandle" ∧ (parseMethodDescriptor yX7_placeAt.desc).map (fun d => d.parameters.length) = some 3 := by decide +kernel
theorem hy_X7_planFor : yX7_planFor.cls ≠ "java/lang/invoke/MethodHandle" ∧ yX7_planFor.cls ≠ "java/lang/invoke/VarHandle" ∧ (parseMethodDescriptor yX7_planFor.desc).map (fun d => d.parameters.length) = some 2 := by decide +kernel
theorem hy_X7_bit : yX7_bit.cls ≠ "java/lang/invoke/MethodHandle" ∧ yX7_bit.cls ≠ "java/lang/invoke/VarHandle" ∧ (parseMethodDescriptor yX7_bit.desc).map (fun d => d.parameters.length) = some 0 := by decide +kernel
theorem hy_X7_agreesWith : yX7_agreesWith.cls ≠ "java/lang/invoke/MethodHandle" ∧ yX7_agreesWith.cls ≠ "java/lang/invoke/VarHandle" ∧ (parseMethodDescriptor yX7_agreesWith.desc).map (fun d => d.parameters.length) = some 1 := by decide +kernel
theorem hy_X7_isStanding : yX7_isStanding.cls ≠ "java/lang/invoke/MethodHandle" ∧ yX7_isStanding.cls ≠ "java/lang/invoke/VarHandle" ∧ (parseMethodDescriptor yX7_isStanding.desc).map (fun d => d.parameters.length) = some 0 := by decide +kernel
theorem hy_X7_isOver : yX7_isOver.cls ≠ "java/lang/invoke/MethodHandle" ∧ yX7_isOver.cls ≠ "java/lang/invoke/VarHandle" ∧ (parseMethodDescriptor yX7_isOver.desc).map (fun d => d.parameters.length) = some 0 := by decide +kernel
theorem hy_X7_hasCondition : yX7_hasCondition.cls ≠ "java/lang/invoke/MethodHandle" ∧ yX7_hasCondition.cls ≠ "java/lang/invoke/VarHandle" ∧ (parseMethodDescriptor yX7_hasCondition.desc).map (fun d => d.parameters.length) = some 1 := by decide +kernel
theorem hy_X7_takesStreet : yX7_takesStreet.cls ≠ "java/lang/invoke/MethodHandle" ∧ yX7_takesStreet.cls ≠ "java/lang/invoke/VarHandle" ∧ (parseMethodDescriptor yX7_takesStreet.desc).map (fun d => d.parameters.length) = some 0 := by decide +kernel
theorem hy_X7_endOn : yX7_endOn.cls ≠ "java/lang/invoke/MethodHandle" ∧ yX7_endOn.cls ≠ "java/lang/invoke/VarHandle" ∧ (parseMethodDescriptor yX7_endOn.desc).map (fun d => d.parameters.length) = some 1 := by decide +kernel
theorem hy_X7_settledOn : yX7_settledOn.cls ≠ "java/lang/invoke/MethodHandle" ∧ yX7_settledOn.cls ≠ "java/lang/invoke/VarHandle" ∧ (parseMethodDescriptor yX7_settledOn.desc).map (fun d => d.parameters.length) = some 0 := by decide +kernel
theorem hy_X7_permitCost : yX7_permitCost.cls ≠ "java/lang/invoke/MethodHandle" ∧ yX7_permitCost.cls ≠ "java/lang/invoke/VarHandle" ∧ (parseMethodDescriptor yX7_permitCost.desc).map (fun d => d.parameters.length) = some 0 := by decide +kernel
theorem hy_X7_daysLiable : yX7_daysLiable.cls ≠ "java/lang/invoke/MethodHandle" ∧ yX7_daysLiable.cls ≠ "java/lang/invoke/VarHandle" ∧ (parseMethodDescriptor yX7_daysLiable.desc).map (fun d => d.parameters.length) = some 0 := by decide +kernel
theorem hy_X7_ownMetreAt : yX7_ownMetreAt.cls ≠ "java/lang/invoke/MethodHandle" ∧ yX7_ownMetreAt.cls ≠ "java/lang/invoke/VarHandle" ∧ (parseMethodDescriptor yX7_ownMetreAt.desc).map (fun d => d.parameters.length) = some 1 := by decide +kernel
theorem hy_X7_mayMeet : yX7_mayMeet.cls ≠ "java/lang/invoke/MethodHandle" ∧ yX7_mayMeet.cls ≠ "java/lang/invoke/VarHandle" ∧ (parseMethodDescriptor yX7_mayMeet.desc).map (fun d => d.parameters.length) = some 2 := by decide +kernel
theorem hy_X7_areNear : yX7_areNear.cls ≠ "java/lang/invoke/MethodHandle" ∧ yX7_areNear.cls ≠ "java/lang/invoke/VarHandle" ∧ (parseMethodDescriptor yX7_areNear.desc).map (fun d => d.parameters.length) = some 2 := by decide +kernel
theorem hy_X8_init : yX8_init.cls ≠ "java/lang/invoke/MethodHandle" ∧ yX8_init.cls ≠ "java/lang/invoke/VarHandle" ∧ (parseMethodDescriptor yX8_init.desc).map (fun d => d.parameters.length) = some 0 := by decide +kernel
theorem hy_X8_street : yX8_street.cls ≠ "java/lang/invoke/MethodHandle" ∧ yX8_street.cls ≠ "java/lang/invoke/VarHandle" ∧ (parseMethodDescriptor yX8_street.desc).map (fun d => d.parameters.length) = some 4 := by decide +kernel
theorem hy_X8_surface : yX8_surface.cls ≠ "java/lang/invoke/MethodHandle" ∧ yX8_surface.cls ≠ "java/lang/invoke/VarHandle" ∧ (parseMethodDescriptor yX8_surface.desc).map (fun d => d.parameters.length) = some 1 := by decide +kernel
theorem hy_X8_embargo : yX8_embargo.cls ≠ "java/lang/invoke/MethodHandle" ∧ yX8_embargo.cls ≠ "java/lang/invoke/VarHandle" ∧ (parseMethodDescriptor yX8_embargo.desc).map (fun d => d.parameters.length) = some 3 := by decide +kernel
theorem hy_X8_thing : yX8_thing.cls ≠ "java/lang/invoke/MethodHandle" ∧ yX8_thing.cls ≠ "java/lang/invoke/VarHandle" ∧ (parseMethodDescriptor yX8_thing.desc).map (fun d => d.parameters.length) = some 5 := by decide +kernel
theorem hy_X8_record : yX8_record.cls ≠ "java/lang/invoke/MethodHandle" ∧ yX8_record.cls ≠ "java/lang/invoke/VarHandle" ∧ (parseMethodDescriptor yX8_record.desc).map (fun d => d.parameters.length) = some 4 := by decide +kernel
theorem hy_X8_lose : yX8_lose.cls ≠ "java/lang/invoke/MethodHandle" ∧ yX8_lose.cls ≠ "java/lang/invoke/VarHandle" ∧ (parseMethodDescriptor yX8_lose.desc).map (fun d => d.parameters.length) = some 1 := by decide +kernel
theorem hy_X8_survey : yX8_survey.cls ≠ "java/lang/invoke/MethodHandle" ∧ yX8_survey.cls ≠ "java/lang/invoke/VarHandle" ∧ (parseMethodDescriptor yX8_survey.desc).map (fun d => d.parameters.length) = some 1 := by decide +kernel
theorem hy_X8_trial : yX8_trial.cls ≠ "java/lang/invoke/MethodHandle" ∧ yX8_trial.cls ≠ "java/lang/invoke/VarHandle" ∧ (parseMethodDescriptor yX8_trial.desc).map (fun d => d.parameters.length) = some 2 := by decide +kernel
theorem hy_X8_ask : yX8_ask.cls ≠ "java/lang/invoke/MethodHandle" ∧ yX8_ask.cls ≠ "java/lang/invoke/VarHandle" ∧ (parseMethodDescriptor yX8_ask.desc).map (fun d => d.parameters.length) = some 8 := by decide +kernel
theorem hy_X8_grant : yX8_grant.cls ≠ "java/lang/invoke/MethodHandle" ∧ yX8_grant.cls ≠ "java/lang/invoke/VarHandle" ∧ (parseMethodDescriptor yX8_grant.desc).map (fun d => d.parameters.length) = some 2 := by decide +kernel
theorem hy_X8_refuse : yX8_refuse.cls ≠ "java/lang/invoke/MethodHandle" ∧ yX8_refuse.cls ≠ "java/lang/invoke/VarHandle" ∧ (parseMethodDescriptor yX8_refuse.desc).map (fun d => d.parameters.length) = some 1 := by decide +kernel
theorem hy_X8_vary : yX8_vary.cls ≠ "java/lang/invoke/MethodHandle" ∧ yX8_vary.cls ≠ "java/lang/invoke/VarHandle" ∧ (parseMethodDescriptor yX8_vary.desc).map (fun d => d.parameters.length) = some 2 := by decide +kernel
theorem hy_X8_exempt : yX8_exempt.cls ≠ "java/lang/invoke/MethodHandle" ∧ yX8_exempt.cls ≠ "java/lang/invoke/VarHandle" ∧ (parseMethodDescriptor yX8_exempt.desc).map (fun d => d.parameters.length) = some 1 := by decide +kernel
theorem hy_X8_agree : yX8_agree.cls ≠ "java/lang/invoke/MethodHandle" ∧ yX8_agree.cls ≠ "java/lang/invoke/VarHandle" ∧ (parseMethodDescriptor yX8_agree.desc).map (fun d => d.parameters.length) = some 2 := by decide +kernel
theorem hy_X8_start : yX8_start.cls ≠ "java/lang/invoke/MethodHandle" ∧ yX8_start.cls ≠ "java/lang/invoke/VarHandle" ∧ (parseMethodDescriptor yX8_start.desc).map (fun d => d.parameters.length) = some 1 := by decide +kernel
theorem hy_X8_open : yX8_open.cls ≠ "java/lang/invoke/MethodHandle" ∧ yX8_open.cls ≠ "java/lang/invoke/VarHandle" ∧ (parseMethodDescriptor yX8_open.desc).map (fun d => d.parameters.length) = some 2 := by decide +kernel
theorem hy_X8_fill : yX8_fill.cls ≠ "java/lang/invoke/MethodHandle" ∧ yX8_fill.cls ≠ "java/lang/invoke/VarHandle" ∧ (parseMethodDescriptor yX8_fill.desc).map (fun d => d.parameters.length) = some 3 := by decide +kernel
theorem hy_X8_plate : yX8_plate.cls ≠ "java/lang/invoke/MethodHandle" ∧ yX8_plate.cls ≠ "java/lang/invoke/VarHandle" ∧ (parseMethodDescriptor yX8_plate.desc).map (fun d => d.parameters.length) = some 1 := by decide +kernel
theorem hy_X8_extend : yX8_extend.cls ≠ "java/lang/invoke/MethodHandle" ∧ yX8_extend.cls ≠ "java/lang/invoke/VarHandle" ∧ (parseMethodDescriptor yX8_extend.desc).map (fun d => d.parameters.length) = some 1 := by decide +kernel
theorem hy_X8_stop : yX8_stop.cls ≠ "java/lang/invoke/MethodHandle" ∧ yX8_stop.cls ≠ "java/lang/invoke/VarHandle" ∧ (parseMethodDescriptor yX8_stop.desc).map (fun d => d.parameters.length) = some 1 := by decide +kernel
theorem hy_X8_pass : yX8_pass.cls ≠ "java/lang/invoke/MethodHandle" ∧ yX8_pass.cls ≠ "java/lang/invoke/VarHandle" ∧ (parseMethodDescriptor yX8_pass.desc).map (fun d => d.parameters.length) = some 1 := by decide +kernel
theorem hy_X8_defect : yX8_defect.cls ≠ "java/lang/invoke/MethodHandle" ∧ yX8_defect.cls ≠ "java/lang/invoke/VarHandle" ∧ (parseMethodDescriptor yX8_defect.desc).map (fun d => d.parameters.length) = some 3 := by decide +kernel
theorem hy_X8_core : yX8_core.cls ≠ "java/lang/invoke/MethodHandle" ∧ yX8_core.cls ≠ "java/lang/invoke/VarHandle" ∧ (parseMethodDescriptor yX8_core.desc).map (fun d => d.parameters.length) = some 2 := by decide +kernel
theorem hy_X8_liable : yX8_liable.cls ≠ "java/lang/invoke/MethodHandle" ∧ yX8_liable.cls ≠ "java/lang/invoke/VarHandle" ∧ (parseMethodDescriptor yX8_liable.desc).map (fun d => d.parameters.length) = some 3 := by decide +kernel
theorem hy_X8_liableAnew : yX8_liableAnew.cls ≠ "java/lang/invoke/MethodHandle" ∧ yX8_liableAnew.cls ≠ "java/lang/invoke/VarHandle" ∧ (parseMethodDescriptor yX8_liableAnew.desc).map (fun d => d.parameters.length) = some 3 := by decide +kernel
theorem hy_X8_bars : yX8_bars.cls ≠ "java/lang/invoke/MethodHandle" ∧ yX8_bars.cls ≠ "java/lang/invoke/VarHandle" ∧ (parseMethodDescriptor yX8_bars.desc).map (fun d => d.parameters.length) = some 1 := by decide +kernel
theorem hy_X8_meets : yX8_meets.cls ≠ "java/lang/invoke/MethodHandle" ∧ yX8_meets.cls ≠ "java/lang/invoke/VarHandle" ∧ (parseMethodDescriptor yX8_meets.desc).map (fun d => d.parameters.length) = some 2 := by decide +kernel
theorem hy_X8_of : yX8_of.cls ≠ "java/lang/invoke/MethodHandle" ∧ yX8_of.cls ≠ "java/lang/invoke/VarHandle" ∧ (parseMethodDescriptor yX8_of.desc).map (fun d => d.parameters.length) = some 2 := by decide +kernel
theorem hy_X8_metre : yX8_metre.cls ≠ "java/lang/invoke/MethodHandle" ∧ yX8_metre.cls ≠ "java/lang/invoke/VarHandle" ∧ (parseMethodDescriptor yX8_metre.desc).map (fun d => d.parameters.length) = some 3 := by decide +kernel
theorem hy_X8_search : yX8_search.cls ≠ "java/lang/invoke/MethodHandle" ∧ yX8_search.cls ≠ "java/lang/invoke/VarHandle" ∧ (parseMethodDescriptor yX8_search.desc).map (fun d => d.parameters.length) = some 3 := by decide +kernel
theorem hy_X8_queue : yX8_queue.cls ≠ "java/lang/invoke/MethodHandle" ∧ yX8_queue.cls ≠ "java/lang/invoke/VarHandle" ∧ (parseMethodDescriptor yX8_queue.desc).map (fun d => d.parameters.length) = some 1 := by decide +kernel
theorem hy_X8_due : yX8_due.cls ≠ "java/lang/invoke/MethodHandle" ∧ yX8_due.cls ≠ "java/lang/invoke/VarHandle" ∧ (parseMethodDescriptor yX8_due.desc).map (fun d => d.parameters.length) = some 1 := by decide +kernel
theorem hy_X8_money : yX8_money.cls ≠ "java/lang/invoke/MethodHandle" ∧ yX8_money.cls ≠ "java/lang/invoke/VarHandle" ∧ (parseMethodDescriptor yX8_money.desc).map (fun d => d.parameters.length) = some 1 := by decide +kernel
theorem hy_X8_moneyAnew : yX8_moneyAnew.cls ≠ "java/lang/invoke/MethodHandle" ∧ yX8_moneyAnew.cls ≠ "java/lang/invoke/VarHandle" ∧ (parseMethodDescriptor yX8_moneyAnew.desc).map (fun d => d.parameters.length) = some 1 := by decide +kernel
theorem hy_X8_streetAt : yX8_streetAt.cls ≠ "java/lang/invoke/MethodHandle" ∧ yX8_streetAt.cls ≠ "java/lang/invoke/VarHandle" ∧ (parseMethodDescriptor yX8_streetAt.desc).map (fun d => d.parameters.length) = some 1 := by decide +kernel
theorem hy_X8_thingAt : yX8_thingAt.cls ≠ "java/lang/invoke/MethodHandle" ∧ yX8_thingAt.cls ≠ "java/lang/invoke/VarHandle" ∧ (parseMethodDescriptor yX8_thingAt.desc).map (fun d => d.parameters.length) = some 1 := by decide +kernel
theorem hy_X8_worksAt : yX8_worksAt.cls ≠ "java/lang/invoke/MethodHandle" ∧ yX8_worksAt.cls ≠ "java/lang/invoke/VarHandle" ∧ (parseMethodDescriptor yX8_worksAt.desc).map (fun d => d.parameters.length) = some 1 := by decide +kernel
theorem hy_X8_partyAt : yX8_partyAt.cls ≠ "java/lang/invoke/MethodHandle" ∧ yX8_partyAt.cls ≠ "java/lang/invoke/VarHandle" ∧ (parseMethodDescriptor yX8_partyAt.desc).map (fun d => d.parameters.length) = some 1 := by decide +kernel
theorem hy_X8_isPromoter : yX8_isPromoter.cls ≠ "java/lang/invoke/MethodHandle" ∧ yX8_isPromoter.cls ≠ "java/lang/invoke/VarHandle" ∧ (parseMethodDescriptor yX8_isPromoter.desc).map (fun d => d.parameters.length) = some 1 := by decide +kernel
theorem hy_X8_numberOf : yX8_numberOf.cls ≠ "java/lang/invoke/MethodHandle" ∧ yX8_numberOf.cls ≠ "java/lang/invoke/VarHandle" ∧ (parseMethodDescriptor yX8_numberOf.desc).map (fun d => d.parameters.length) = some 1 := by decide +kernel
theorem hy_X8_today : yX8_today.cls ≠ "java/lang/invoke/MethodHandle" ∧ yX8_today.cls ≠ "java/lang/invoke/VarHandle" ∧ (parseMethodDescriptor yX8_today.desc).map (fun d => d.parameters.length) = some 0 := by decide +kernel
theorem hy_X8_isBusy : yX8_isBusy.cls ≠ "java/lang/invoke/MethodHandle" ∧ yX8_isBusy.cls ≠ "java/lang/invoke/VarHandle" ∧ (parseMethodDescriptor yX8_isBusy.desc).map (fun d => d.parameters.length) = some 0 := by decide +kernel
theorem hy_X8_overlap : yX8_overlap.cls ≠ "java/lang/invoke/MethodHandle" ∧ yX8_overlap.cls ≠ "java/lang/invoke/VarHandle" ∧ (parseMethodDescriptor yX8_overlap.desc).map (fun d => d.parameters.length) = some 4 := by decide +kernel
theorem hy_X8_tell : yX8_tell.cls ≠ "java/lang/invoke/MethodHandle" ∧ yX8_tell.cls ≠ "java/lang/invoke/VarHandle" ∧ (parseMethodDescriptor yX8_tell.desc).map (fun d => d.parameters.length) = some 1 := by decide +kernel
theorem hy_X8_countFill : yX8_countFill.cls ≠ "java/lang/invoke/MethodHandle" ∧ yX8_countFill.cls ≠ "java/lang/invoke/VarHandle" ∧ (parseMethodDescriptor yX8_countFill.desc).map (fun d => d.parameters.length) = some 1 := by decide +kernel
theorem hy_X8_countFault : yX8_countFault.cls ≠ "java/lang/invoke/MethodHandle" ∧ yX8_countFault.cls ≠ "java/lang/invoke/VarHandle" ∧ (parseMethodDescriptor yX8_countFault.desc).map (fun d => d.parameters.length) = some 1 := by decide +kernel
theorem hy_X8_countCore : yX8_countCore.cls ≠ "java/lang/invoke/MethodHandle" ∧ yX8_countCore.cls ≠ "java/lang/invoke/VarHandle" ∧ (parseMethodDescriptor yX8_countCore.desc).map (fun d => d.parameters.length) = some 1 := by decide +kernel
theorem hy_X8_pay : yX8_pay.cls ≠ "java/lang/invoke/MethodHandle" ∧ yX8_pay.cls ≠ "java/lang/invoke/VarHandle" ∧ (parseMethodDescriptor yX8_pay.desc).map (fun d => d.parameters.length) = some 3 := by decide +kernel
theorem hy_X8_suspects : yX8_suspects.cls ≠ "java/lang/invoke/MethodHandle" ∧ yX8_suspects.cls ≠ "java/lang/invoke/VarHandle" ∧ (parseMethodDescriptor yX8_suspects.desc).map (fun d => d.parameters.length) = some 3 := by decide +kernel
theorem hy_X8_isSuspect : yX8_isSuspect.cls ≠ "java/lang/invoke/MethodHandle" ∧ yX8_isSuspect.cls ≠ "java/lang/invoke/VarHandle" ∧ (parseMethodDescriptor yX8_isSuspect.desc).map (fun d => d.parameters.length) = some 2 := by decide +kernel
theorem hy_X8_strikeThings : yX8_strikeThings.cls ≠ "java/lang/invoke/MethodHandle" ∧ yX8_strikeThings.cls ≠ "java/lang/invoke/VarHandle" ∧ (parseMethodDescriptor yX8_strikeThings.desc).map (fun d => d.parameters.length) = some 2 := by decide +kernel
theorem hy_X8_permit : yX8_permit.cls ≠ "java/lang/invoke/MethodHandle" ∧ yX8_permit.cls ≠ "java/lang/invoke/VarHandle" ∧ (parseMethodDescriptor yX8_permit.desc).map (fun d => d.parameters.length) = some 2 := by decide +kernel
theorem hy_X8_whatBars : yX8_whatBars.cls ≠ "java/lang/invoke/MethodHandle" ∧ yX8_whatBars.cls ≠ "java/lang/invoke/VarHandle" ∧ (parseMethodDescriptor yX8_whatBars.desc).map (fun d => d.parameters.length) = some 1 := by decide +kernel
theorem hy_X8_firstMet : yX8_firstMet.cls ≠ "java/lang/invoke/MethodHandle" ∧ yX8_firstMet.cls ≠ "java/lang/invoke/VarHandle" ∧ (parseMethodDescriptor yX8_firstMet.desc).map (fun d => d.parameters.length) = some 4 := by decide +kernel
theorem hy_X8_goOneHour : yX8_goOneHour.cls ≠ "java/lang/invoke/MethodHandle" ∧ yX8_goOneHour.cls ≠ "java/lang/invoke/VarHandle" ∧ (parseMethodDescriptor yX8_goOneHour.desc).map (fun d => d.parameters.length) = some 0 := by decide +kernel
theorem hy_X8_settleAsked : yX8_settleAsked.cls ≠ "java/lang/invoke/MethodHandle" ∧ yX8_settleAsked.cls ≠ "java/lang/invoke/VarHandle" ∧ (parseMethodDescriptor yX8_settleAsked.desc).map (fun d => d.parameters.length) = some 0 := by decide +kernel
theorem hy_X8_fineLate : yX8_fineLate.cls ≠ "java/lang/invoke/MethodHandle" ∧ yX8_fineLate.cls ≠ "java/lang/invoke/VarHandle" ∧ (parseMethodDescriptor yX8_fineLate.desc).map (fun d => d.parameters.length) = some 0 := by decide +kernel
theorem hy_X8_takeStreets : yX8_takeStreets.cls ≠ "java/lang/invoke/MethodHandle" ∧ yX8_takeStreets.cls ≠ "java/lang/invoke/VarHandle" ∧ (parseMethodDescriptor yX8_takeStreets.desc).map (fun d => d.parameters.length) = some 0 := by decide +kernel
theorem hy_X8_chargeTakers : yX8_chargeTakers.cls ≠ "java/lang/invoke/MethodHandle" ∧ yX8_chargeTakers.cls ≠ "java/lang/invoke/VarHandle" ∧ (parseMethodDescriptor yX8_chargeTakers.desc).map (fun d => d.parameters.length) = some 0 := by decide +kernel
theorem hy_X8_moveQueues : yX8_moveQueues.cls ≠ "java/lang/invoke/MethodHandle" ∧ yX8_moveQueues.cls ≠ "java/lang/invoke/VarHandle" ∧ (parseMethodDescriptor yX8_moveQueues.desc).map (fun d => d.parameters.length) = some 0 := by decide +kernel
theorem hy_X8_whoIsLiable : yX8_whoIsLiable.cls ≠ "java/lang/invoke/MethodHandle" ∧ yX8_whoIsLiable.cls ≠ "java/lang/invoke/VarHandle" ∧ (parseMethodDescriptor yX8_whoIsLiable.desc).map (fun d => d.parameters.length) = some 3 := by decide +kernel
theorem hy_J9_max_7cf53 : yJ9_max_7cf53.cls ≠ "java/lang/invoke/MethodHandle" ∧ yJ9_max_7cf53.cls ≠ "java/lang/invoke/VarHandle" ∧ (parseMethodDescriptor yJ9_max_7cf53.desc).map (fun d => d.parameters.length) = some 2 := by decide +kernel
theorem hy_J9_min_7cf53 : yJ9_min_7cf53.cls ≠ "java/lang/invoke/MethodHandle" ∧ yJ9_min_7cf53.cls ≠ "java/lang/invoke/VarHandle" ∧ (parseMethodDescriptor yJ9_min_7cf53.desc).map (fun d => d.parameters.length) = some 2 := by decide +kernel
theorem hy_Jxa1e45_init_da8c8 : yJxa1e45_init_da8c8.cls ≠ "java/lang/invoke/MethodHandle" ∧ yJxa1e45_init_da8c8.cls ≠ "java/lang/invoke/VarHandle" ∧ (parseMethodDescriptor yJxa1e45_init_da8c8.desc).map (fun d => d.parameters.length) = some 0 := by decide +kernel
theorem hy_Jxc12de_init_da8c8 : yJxc12de_init_da8c8.cls ≠ "java/lang/invoke/MethodHandle" ∧ yJxc12de_init_da8c8.cls ≠ "java/lang/invoke/VarHandle" ∧ (parseMethodDescriptor yJxc12de_init_da8c8.desc).map (fun d => d.parameters.length) = some 0 := by decide +kernel
theorem hy_Jx4a65c_init_da8c8 : yJx4a65c_init_da8c8.cls ≠ "java/lang/invoke/MethodHandle" ∧ yJx4a65c_init_da8c8.cls ≠ "java/lang/invoke/VarHandle" ∧ (parseMethodDescriptor yJx4a65c_init_da8c8.desc).map (fun d => d.parameters.length) = some 0 := by decide +kernel
theorem hy_Jx4a65c_grow_92f84 : yJx4a65c_grow_92f84.cls ≠ "java/lang/invoke/MethodHandle" ∧ yJx4a65c_grow_92f84.cls ≠ "java/lang/invoke/VarHandle" ∧ (parseMethodDescriptor yJx4a65c_grow_92f84.desc).map (fun d => d.parameters.length) = some 1 := by decide +kernel
theorem hy_Jx4a65c_grow_d5877 : yJx4a65c_grow_d5877.cls ≠ "java/lang/invoke/MethodHandle" ∧ yJx4a65c_grow_d5877.cls ≠ "java/lang/invoke/VarHandle" ∧ (parseMethodDescriptor yJx4a65c_grow_d5877.desc).map (fun d => d.parameters.length) = some 0 := by decide +kernel
theorem hy_Jx4a65c_size_8abf5 : yJx4a65c_size_8abf5.cls ≠ "java/lang/invoke/MethodHandle" ∧ yJx4a65c_size_8abf5.cls ≠ "java/lang/invoke/VarHandle" ∧ (parseMethodDescriptor yJx4a65c_size_8abf5.desc).map (fun d => d.parameters.length) = some 0 := by decide +kernel
theorem hy_Jx4a65c_elementData_915e3 : yJx4a65c_elementData_915e3.cls ≠ "java/lang/invoke/MethodHandle" ∧ yJx4a65c_elementData_915e3.cls ≠ "java/lang/invoke/VarHandle" ∧ (parseMethodDescriptor yJx4a65c_elementData_915e3.desc).map (fun d => d.parameters.length) = some 1 := by decide +kernel
theorem hy_Jx4a65c_get_915e3 : yJx4a65c_get_915e3.cls ≠ "java/lang/invoke/MethodHandle" ∧ yJx4a65c_get_915e3.cls ≠ "java/lang/invoke/VarHandle" ∧ (parseMethodDescriptor yJx4a65c_get_915e3.desc).map (fun d => d.parameters.length) = some 1 := by decide +kernel
theorem hy_Jx4a65c_add_72be8 : yJx4a65c_add_72be8.cls ≠ "java/lang/invoke/MethodHandle" ∧ yJx4a65c_add_72be8.cls ≠ "java/lang/invoke/VarHandle" ∧ (parseMethodDescriptor yJx4a65c_add_72be8.desc).map (fun d => d.parameters.length) = some 3 := by decide +kernel
theorem hy_Jx4a65c_add_9ea2d : yJx4a65c_add_9ea2d.cls ≠ "java/lang/invoke/MethodHandle" ∧ yJx4a65c_add_9ea2d.cls ≠ "java/lang/invoke/VarHandle" ∧ (parseMethodDescriptor yJx4a65c_add_9ea2d.desc).map (fun d => d.parameters.length) = some 1 := by decide +kernel
theorem hy_J7_copyOf_1904c : yJ7_copyOf_1904c.cls ≠ "java/lang/invoke/MethodHandle" ∧ yJ7_copyOf_1904c.cls ≠ "java/lang/invoke/VarHandle" ∧ (parseMethodDescriptor yJ7_copyOf_1904c.desc).map (fun d => d.parameters.length) = some 2 := by decide +kernel
theorem hy_J7_copyOf_6403c : yJ7_copyOf_6403c.cls ≠ "java/lang/invoke/MethodHandle" ∧ yJ7_copyOf_6403c.cls ≠ "java/lang/invoke/VarHandle" ∧ (parseMethodDescriptor yJ7_copyOf_6403c.desc).map (fun d => d.parameters.length) = some 3 := by decide +kernel
theorem hy_J7_copyOf_59c91 : yJ7_copyOf_59c91.cls ≠ "java/lang/invoke/MethodHandle" ∧ yJ7_copyOf_59c91.cls ≠ "java/lang/invoke/VarHandle" ∧ (parseMethodDescriptor yJ7_copyOf_59c91.desc).map (fun d => d.parameters.length) = some 2 := by decide +kernel
theorem hy_J15_checkIndex_7cf53 : yJ15_checkIndex_7cf53.cls ≠ "java/lang/invoke/MethodHandle" ∧ yJ15_checkIndex_7cf53.cls ≠ "java/lang/invoke/VarHandle" ∧ (parseMethodDescriptor yJ15_checkIndex_7cf53.desc).map (fun d => d.parameters.length) = some 2 := by decide +kernel
theorem hy_J8_newLength_cabcc : yJ8_newLength_cabcc.cls ≠ "java/lang/invoke/MethodHandle" ∧ yJ8_newLength_cabcc.cls ≠ "java/lang/invoke/VarHandle" ∧ (parseMethodDescriptor yJ8_newLength_cabcc.desc).map (fun d => d.parameters.length) = some 3 := by decide +kernel
theorem hy_J8_hugeLength_7cf53 : yJ8_hugeLength_7cf53.cls ≠ "java/lang/invoke/MethodHandle" ∧ yJ8_hugeLength_7cf53.cls ≠ "java/lang/invoke/VarHandle" ∧ (parseMethodDescriptor yJ8_hugeLength_7cf53.desc).map (fun d => d.parameters.length) = some 2 := by decide +kernel
theorem hy_J3_checkIndex_8e157 : yJ3_checkIndex_8e157.cls ≠ "java/lang/invoke/MethodHandle" ∧ yJ3_checkIndex_8e157.cls ≠ "java/lang/invoke/VarHandle" ∧ (parseMethodDescriptor yJ3_checkIndex_8e157.desc).map (fun d => d.parameters.length) = some 3 := by decide +kernel
theorem hy_L_dice : yL_dice.cls ≠ "java/lang/invoke/MethodHandle" ∧ yL_dice.cls ≠ "java/lang/invoke/VarHandle" ∧ (parseMethodDescriptor yL_dice.desc).map (fun d => d.parameters.length) = some 2 := by decide +kernel
theorem hy_L_act : yL_act.cls ≠ "java/lang/invoke/MethodHandle" ∧ yL_act.cls ≠ "java/lang/invoke/VarHandle" ∧ (parseMethodDescriptor yL_act.desc).map (fun d => d.parameters.length) = some 7 := by decide +kernel
theorem hy_L_asks : yL_asks.cls ≠ "java/lang/invoke/MethodHandle" ∧ yL_asks.cls ≠ "java/lang/invoke/VarHandle" ∧ (parseMethodDescriptor yL_asks.desc).map (fun d => d.parameters.length) = some 8 := by decide +kernel
theorem hy_L_all : yL_all.cls ≠ "java/lang/invoke/MethodHandle" ∧ yL_all.cls ≠ "java/lang/invoke/VarHandle" ∧ (parseMethodDescriptor yL_all.desc).map (fun d => d.parameters.length) = some 3 := by decide +kernel
theorem hy_L_no : yL_no.cls ≠ "java/lang/invoke/MethodHandle" ∧ yL_no.cls ≠ "java/lang/invoke/VarHandle" ∧ (parseMethodDescriptor yL_no.desc).map (fun d => d.parameters.length) = some 5 := by decide +kernel
theorem hy_L_off : yL_off.cls ≠ "java/lang/invoke/MethodHandle" ∧ yL_off.cls ≠ "java/lang/invoke/VarHandle" ∧ (parseMethodDescriptor yL_off.desc).map (fun d => d.parameters.length) = some 7 := by decide +kernel
theorem hy_L_isRefused : yL_isRefused.cls ≠ "java/lang/invoke/MethodHandle" ∧ yL_isRefused.cls ≠ "java/lang/invoke/VarHandle" ∧ (parseMethodDescriptor yL_isRefused.desc).map (fun d => d.parameters.length) = some 5 := by decide +kernel
theorem hy_L_areSound : yL_areSound.cls ≠ "java/lang/invoke/MethodHandle" ∧ yL_areSound.cls ≠ "java/lang/invoke/VarHandle" ∧ (parseMethodDescriptor yL_areSound.desc).map (fun d => d.parameters.length) = some 5 := by decide +kernel
theorem hy_L_isLaid : yL_isLaid.cls ≠ "java/lang/invoke/MethodHandle" ∧ yL_isLaid.cls ≠ "java/lang/invoke/VarHandle" ∧ (parseMethodDescriptor yL_isLaid.desc).map (fun d => d.parameters.length) = some 5 := by decide +kernel
theorem hy_L_isAsked : yL_isAsked.cls ≠ "java/lang/invoke/MethodHandle" ∧ yL_isAsked.cls ≠ "java/lang/invoke/VarHandle" ∧ (parseMethodDescriptor yL_isAsked.desc).map (fun d => d.parameters.length) = some 5 := by decide +kernel
theorem hy_L_isDone : yL_isDone.cls ≠ "java/lang/invoke/MethodHandle" ∧ yL_isDone.cls ≠ "java/lang/invoke/VarHandle" ∧ (parseMethodDescriptor yL_isDone.desc).map (fun d => d.parameters.length) = some 5 := by decide +kernel
theorem hy_L_isPassed : yL_isPassed.cls ≠ "java/lang/invoke/MethodHandle" ∧ yL_isPassed.cls ≠ "java/lang/invoke/VarHandle" ∧ (parseMethodDescriptor yL_isPassed.desc).map (fun d => d.parameters.length) = some 4 := by decide +kernel
