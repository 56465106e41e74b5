/-! the words of the tables by their numbers (written by wip/whole/mkwords.py) -/
theorem wd_1 {w : Cond} (i : Nat) (h : tables_1_1[i]? = some w) : w ∈ lw_tbl := List.mem_append_right _ (List.mem_append_left _ (List.mem_of_getElem? h))
theorem wd_2 {w : Cond} (i : Nat) (h : tables_1_2[i]? = some w) : w ∈ lw_tbl := List.mem_append_right _ (List.mem_append_right _ (List.mem_append_left _ (List.mem_of_getElem? h)))
theorem wd_3 {w : Cond} (i : Nat) (h : tables_1_3[i]? = some w) : w ∈ lw_tbl := List.mem_append_right _ (List.mem_append_right _ (List.mem_append_right _ (List.mem_append_left _ (List.mem_of_getElem? h))))
theorem wd_4 {w : Cond} (i : Nat) (h : tables_1_4[i]? = some w) : w ∈ lw_tbl := List.mem_append_right _ (List.mem_append_right _ (List.mem_append_right _ (List.mem_append_right _ (List.mem_of_getElem? h))))
theorem ws_in {w : Cond} (i : Nat) (h : (k2_sels lw_privs)[i]? = some w) : w ∈ lw_tbl := List.mem_append_left _ (List.mem_of_getElem? h)
theorem wx_0 : (Cond.initialized "BillSharesLaw") ∈ lw_tbl := wd_1 0 rfl
theorem wx_1 : (Cond.initialized "BillShares") ∈ lw_tbl := wd_1 1 rfl
theorem wx_2 : (Cond.initialized "java/util/AbstractCollection") ∈ lw_tbl := wd_1 2 rfl
theorem wx_3 : (Cond.initialized "java/util/AbstractList") ∈ lw_tbl := wd_1 3 rfl
theorem wx_4 : (Cond.initialized "java/util/ArrayList") ∈ lw_tbl := wd_1 4 rfl
theorem wx_5 : (Cond.initialized "java/util/Arrays") ∈ lw_tbl := wd_1 5 rfl
theorem wx_6 : (Cond.initialized "BillSharesModel") ∈ lw_tbl := wd_1 6 rfl
theorem wx_7 : (Cond.initialized "java/lang/Throwable") ∈ lw_tbl := wd_1 7 rfl
theorem wx_8 : (Cond.initialized "java/lang/Exception") ∈ lw_tbl := wd_1 8 rfl
theorem wx_9 : (Cond.initialized "java/lang/RuntimeException") ∈ lw_tbl := wd_1 9 rfl
theorem wx_10 : (Cond.initialized "java/lang/IllegalArgumentException") ∈ lw_tbl := wd_1 10 rfl
theorem wx_11 : (Cond.initialized "java/lang/IllegalStateException") ∈ lw_tbl := wd_1 11 rfl
theorem wx_12 : (Cond.initialized "BillShares$Flat") ∈ lw_tbl := wd_1 12 rfl
theorem wx_13 : (Cond.initialized "jdk/internal/util/ArraysSupport") ∈ lw_tbl := wd_1 13 rfl
theorem wx_14 : (Cond.initialized "java/lang/Math") ∈ lw_tbl := wd_1 14 rfl
theorem wx_15 : (Cond.initialized "java/lang/System") ∈ lw_tbl := wd_1 15 rfl
theorem wx_16 : (Cond.initialized "java/util/Objects") ∈ lw_tbl := wd_1 16 rfl
theorem wx_17 : (Cond.initialized "jdk/internal/util/Preconditions") ∈ lw_tbl := wd_1 17 rfl
theorem wx_18 : (Cond.initialized "BillShares$Meter") ∈ lw_tbl := wd_1 18 rfl
theorem wx_19 : (Cond.initialized "BillShares$Bill") ∈ lw_tbl := wd_1 19 rfl
theorem wx_20 : (Cond.classLink "BillSharesLaw" (8 : Nat) "BillShares") ∈ lw_tbl := wd_1 20 rfl
theorem wx_21 : (Cond.instantiable "BillShares" (6 : Nat)) ∈ lw_tbl := wd_1 21 rfl
theorem wx_22 : (Cond.methodLink "BillSharesLaw" (78 : Nat) ({ cls := "BillShares", name := "<init>", desc := "()V" } : MethodName)) ∈ lw_tbl := wd_1 22 rfl
theorem wx_23 : (Cond.instanceMethod ({ cls := "BillShares", name := "<init>", desc := "()V" } : MethodName)) ∈ lw_tbl := wd_1 23 rfl
theorem wx_24 : (Cond.code ({ cls := "BillShares", name := "<init>", desc := "()V" } : MethodName) prog_1_method_1_code (1 : Nat) (Option.none : Option FieldType)) ∈ lw_tbl := wd_1 24 rfl
theorem wx_25 : (Cond.methodLink "BillShares" (3 : Nat) ({ cls := "java/lang/Object", name := "<init>", desc := "()V" } : MethodName)) ∈ lw_tbl := wd_1 25 rfl
theorem wx_26 : (Cond.instanceMethod ({ cls := "java/lang/Object", name := "<init>", desc := "()V" } : MethodName)) ∈ lw_tbl := wd_1 26 rfl
theorem wx_27 : (Cond.code ({ cls := "java/lang/Object", name := "<init>", desc := "()V" } : MethodName) object_method_1_code (1 : Nat) (Option.none : Option FieldType)) ∈ lw_tbl := wd_1 27 rfl
theorem wx_28 : (Cond.classLink "BillShares" (9 : Nat) "java/util/ArrayList") ∈ lw_tbl := wd_1 28 rfl
theorem wx_29 : (Cond.instantiable "java/util/ArrayList" (3 : Nat)) ∈ lw_tbl := wd_1 29 rfl
theorem wx_30 : (Cond.methodLink "BillShares" (11 : Nat) ({ cls := "java/util/ArrayList", name := "<init>", desc := "()V" } : MethodName)) ∈ lw_tbl := wd_1 30 rfl
theorem wx_31 : (Cond.instanceMethod ({ cls := "java/util/ArrayList", name := "<init>", desc := "()V" } : MethodName)) ∈ lw_tbl := wd_1 31 rfl
theorem wx_32 : (Cond.code ({ cls := "java/util/ArrayList", name := "<init>", desc := "()V" } : MethodName) prog_20_method_2_code (1 : Nat) (Option.none : Option FieldType)) ∈ lw_tbl := wd_1 32 rfl
theorem wx_33 : (Cond.methodLink "java/util/ArrayList" (1 : Nat) ({ cls := "java/util/AbstractList", name := "<init>", desc := "()V" } : MethodName)) ∈ lw_tbl := wd_1 33 rfl
theorem wx_34 : (Cond.instanceMethod ({ cls := "java/util/AbstractList", name := "<init>", desc := "()V" } : MethodName)) ∈ lw_tbl := wd_1 34 rfl
theorem wx_35 : (Cond.code ({ cls := "java/util/AbstractList", name := "<init>", desc := "()V" } : MethodName) prog_19_method_1_code (1 : Nat) (Option.none : Option FieldType)) ∈ lw_tbl := wd_1 35 rfl
theorem wx_36 : (Cond.methodLink "java/util/AbstractList" (1 : Nat) ({ cls := "java/util/AbstractCollection", name := "<init>", desc := "()V" } : MethodName)) ∈ lw_tbl := wd_1 36 rfl
theorem wx_37 : (Cond.instanceMethod ({ cls := "java/util/AbstractCollection", name := "<init>", desc := "()V" } : MethodName)) ∈ lw_tbl := wd_1 37 rfl
theorem wx_38 : (Cond.code ({ cls := "java/util/AbstractCollection", name := "<init>", desc := "()V" } : MethodName) prog_18_method_1_code (1 : Nat) (Option.none : Option FieldType)) ∈ lw_tbl := wd_1 38 rfl
theorem wx_39 : (Cond.methodLink "java/util/AbstractCollection" (1 : Nat) ({ cls := "java/lang/Object", name := "<init>", desc := "()V" } : MethodName)) ∈ lw_tbl := wd_1 39 rfl
theorem wx_40 : (Cond.fieldLink "java/util/ArrayList" (39 : Nat) "java/util/ArrayList" "DEFAULTCAPACITY_EMPTY_ELEMENTDATA" "[Ljava/lang/Object;") ∈ lw_tbl := wd_1 40 rfl
theorem wx_41 : (Cond.laysStatic "java/util/ArrayList" "DEFAULTCAPACITY_EMPTY_ELEMENTDATA" "[Ljava/lang/Object;") ∈ lw_tbl := wd_1 41 rfl
theorem wx_42 : (Cond.fieldLink "java/util/ArrayList" (9 : Nat) "java/util/ArrayList" "elementData" "[Ljava/lang/Object;") ∈ lw_tbl := wd_1 42 rfl
theorem wx_43 : (Cond.fieldLink "java/util/ArrayList" (48 : Nat) "java/util/ArrayList" "size" "I") ∈ lw_tbl := wd_1 43 rfl
theorem wx_44 : (Cond.fieldLink "java/util/AbstractList" (7 : Nat) "java/util/AbstractList" "modCount" "I") ∈ lw_tbl := wd_1 44 rfl
theorem wx_45 : (Cond.fieldLink "java/util/ArrayList" (63 : Nat) "java/util/ArrayList" "modCount" "I") ∈ lw_tbl := wd_1 45 rfl
theorem wx_46 : (Cond.sameField "java/util/ArrayList" "java/util/AbstractList" "modCount" "I") ∈ lw_tbl := wd_1 46 rfl
theorem wx_47 : (Cond.lays "java/util/ArrayList" "java/util/ArrayList" "elementData" "[Ljava/lang/Object;") ∈ lw_tbl := wd_1 47 rfl
theorem wx_49 : (Cond.lays "java/util/ArrayList" "java/util/ArrayList" "size" "I") ∈ lw_tbl := wd_1 49 rfl
theorem wx_51 : (Cond.lays "java/util/ArrayList" "java/util/AbstractList" "modCount" "I") ∈ lw_tbl := wd_1 51 rfl
theorem wx_54 : (Cond.methodLink "BillShares" (32 : Nat) ({ cls := "java/util/Arrays", name := "fill", desc := "([II)V" } : MethodName)) ∈ lw_tbl := wd_1 54 rfl
theorem wx_55 : (Cond.static ({ cls := "java/util/Arrays", name := "fill", desc := "([II)V" } : MethodName)) ∈ lw_tbl := wd_1 55 rfl
theorem wx_56 : (Cond.code ({ cls := "java/util/Arrays", name := "fill", desc := "([II)V" } : MethodName) prog_21_method_103_code (4 : Nat) (Option.none : Option FieldType)) ∈ lw_tbl := wd_1 56 rfl
theorem wx_57 : (Cond.fieldLink "BillShares" (12 : Nat) "BillShares" "flats" "Ljava/util/ArrayList;") ∈ lw_tbl := wd_1 57 rfl
theorem wx_58 : (Cond.fieldLink "BillShares" (16 : Nat) "BillShares" "flatsByRank" "Ljava/util/ArrayList;") ∈ lw_tbl := wd_1 58 rfl
theorem wx_59 : (Cond.fieldLink "BillShares" (19 : Nat) "BillShares" "meters" "Ljava/util/ArrayList;") ∈ lw_tbl := wd_1 59 rfl
theorem wx_60 : (Cond.fieldLink "BillShares" (22 : Nat) "BillShares" "costs" "[I") ∈ lw_tbl := wd_1 60 rfl
theorem wx_61 : (Cond.fieldLink "BillShares" (26 : Nat) "BillShares" "bases" "[I") ∈ lw_tbl := wd_1 61 rfl
theorem wx_62 : (Cond.fieldLink "BillShares" (29 : Nat) "BillShares" "editions" "[I") ∈ lw_tbl := wd_1 62 rfl
theorem wx_63 : (Cond.laysFinal "BillShares" "BillShares" "flats" "Ljava/util/ArrayList;") ∈ lw_tbl := wd_1 63 rfl
theorem wx_65 : (Cond.laysFinal "BillShares" "BillShares" "flatsByRank" "Ljava/util/ArrayList;") ∈ lw_tbl := wd_1 65 rfl
theorem wx_67 : (Cond.laysFinal "BillShares" "BillShares" "meters" "Ljava/util/ArrayList;") ∈ lw_tbl := wd_1 67 rfl
theorem wx_69 : (Cond.laysFinal "BillShares" "BillShares" "costs" "[I") ∈ lw_tbl := wd_1 69 rfl
theorem wx_71 : (Cond.laysFinal "BillShares" "BillShares" "bases" "[I") ∈ lw_tbl := wd_1 71 rfl
theorem wx_73 : (Cond.laysFinal "BillShares" "BillShares" "editions" "[I") ∈ lw_tbl := wd_1 73 rfl
theorem wx_76 : (Cond.arrayClass FieldType.int) ∈ lw_tbl := wd_1 76 rfl
theorem wx_77 : (Cond.methodLink "BillSharesLaw" (82 : Nat) ({ cls := "BillSharesLaw", name := "flat", desc := "(LBillShares;II[J)I" } : MethodName)) ∈ lw_tbl := wd_1 77 rfl
theorem wx_78 : (Cond.static ({ cls := "BillSharesLaw", name := "flat", desc := "(LBillShares;II[J)I" } : MethodName)) ∈ lw_tbl := wd_1 78 rfl
theorem wx_79 : (Cond.codeWith ({ cls := "BillSharesLaw", name := "flat", desc := "(LBillShares;II[J)I" } : MethodName) method_3_code (5 : Nat) (Option.some FieldType.int) [((0 : Nat), (10 : Nat), (13 : Nat), (13 : Nat)), ((0 : Nat), (10 : Nat), (17 : Nat), (15 : Nat))]) ∈ lw_tbl := wd_1 79 rfl
theorem wx_80 : (Cond.classLink "BillSharesLaw" (13 : Nat) "java/lang/IllegalArgumentException") ∈ lw_tbl := wd_1 80 rfl
theorem wx_81 : (Cond.classLink "BillSharesLaw" (15 : Nat) "java/lang/IllegalStateException") ∈ lw_tbl := wd_1 81 rfl
theorem wx_82 : (Cond.methodLink "BillSharesLaw" (7 : Nat) ({ cls := "BillShares", name := "flat", desc := "(II)I" } : MethodName)) ∈ lw_tbl := wd_1 82 rfl
theorem wx_83 : (Cond.instanceMethod ({ cls := "BillShares", name := "flat", desc := "(II)I" } : MethodName)) ∈ lw_tbl := wd_1 83 rfl
theorem wx_84 : (Cond.selects "BillShares" ({ cls := "BillShares", name := "flat", desc := "(II)I" } : MethodName) ({ cls := "BillShares", name := "flat", desc := "(II)I" } : MethodName)) ∈ lw_tbl := wd_1 84 rfl
theorem wx_85 : (Cond.code ({ cls := "BillShares", name := "flat", desc := "(II)I" } : MethodName) prog_1_method_2_code (4 : Nat) (Option.some FieldType.int)) ∈ lw_tbl := wd_1 85 rfl
theorem wx_86 : (Cond.methodLink "BillShares" (38 : Nat) ({ cls := "BillShares", name := "checkBounds", desc := "(III)V" } : MethodName)) ∈ lw_tbl := wd_1 86 rfl
theorem wx_87 : (Cond.static ({ cls := "BillShares", name := "checkBounds", desc := "(III)V" } : MethodName)) ∈ lw_tbl := wd_1 87 rfl
theorem wx_88 : (Cond.code ({ cls := "BillShares", name := "checkBounds", desc := "(III)V" } : MethodName) prog_1_method_21_code (3 : Nat) (Option.none : Option FieldType)) ∈ lw_tbl := wd_1 88 rfl
theorem wx_89 : (Cond.classLink "BillShares" (104 : Nat) "java/lang/IllegalArgumentException") ∈ lw_tbl := wd_1 89 rfl
theorem wx_90 : (Cond.instantiable "java/lang/IllegalArgumentException" (6 : Nat)) ∈ lw_tbl := wd_1 90 rfl
theorem wx_91 : (Cond.castable "java/lang/IllegalArgumentException" "java/lang/IllegalArgumentException") ∈ lw_tbl := wd_1 91 rfl
theorem wx_92 : (Cond.declares ({ cls := "java/lang/RuntimeException", name := "<init>", desc := "()V" } : MethodName)) ∈ lw_tbl := wd_1 92 rfl
theorem wx_93 : (Cond.declares ({ cls := "java/lang/RuntimeException", name := "<init>", desc := "(Ljava/lang/String;)V" } : MethodName)) ∈ lw_tbl := wd_1 93 rfl
theorem wx_94 : (Cond.declares ({ cls := "java/lang/Exception", name := "<init>", desc := "()V" } : MethodName)) ∈ lw_tbl := wd_1 94 rfl
theorem wx_95 : (Cond.declares ({ cls := "java/lang/Exception", name := "<init>", desc := "(Ljava/lang/String;)V" } : MethodName)) ∈ lw_tbl := wd_1 95 rfl
theorem wx_96 : (Cond.declares ({ cls := "java/lang/Throwable", name := "<init>", desc := "()V" } : MethodName)) ∈ lw_tbl := wd_1 96 rfl
theorem wx_97 : (Cond.declares ({ cls := "java/lang/Throwable", name := "<init>", desc := "(Ljava/lang/String;)V" } : MethodName)) ∈ lw_tbl := wd_1 97 rfl
theorem wx_98 : (Cond.selects "java/lang/IllegalArgumentException" ({ cls := "java/lang/Throwable", name := "fillInStackTrace", desc := "(I)Ljava/lang/Throwable;" } : MethodName) ({ cls := "java/lang/Throwable", name := "fillInStackTrace", desc := "(I)Ljava/lang/Throwable;" } : MethodName)) ∈ lw_tbl := wd_1 98 rfl
theorem wx_99 : (Cond.selects "java/lang/IllegalArgumentException" ({ cls := "java/lang/Throwable", name := "fillInStackTrace", desc := "()Ljava/lang/Throwable;" } : MethodName) ({ cls := "java/lang/Throwable", name := "fillInStackTrace", desc := "()Ljava/lang/Throwable;" } : MethodName)) ∈ lw_tbl := wd_1 99 rfl
theorem wx_100 : (Cond.lays "java/lang/IllegalArgumentException" "java/lang/Throwable" "cause" "Ljava/lang/Throwable;") ∈ lw_tbl := wd_1 100 rfl
theorem wx_101 : (Cond.lays "java/lang/Throwable" "java/lang/Throwable" "cause" "Ljava/lang/Throwable;") ∈ lw_tbl := wd_1 101 rfl
theorem wx_102 : (Cond.lays "java/lang/IllegalArgumentException" "java/lang/Throwable" "stackTrace" "[Ljava/lang/StackTraceElement;") ∈ lw_tbl := wd_1 102 rfl
theorem wx_103 : (Cond.lays "java/lang/Throwable" "java/lang/Throwable" "stackTrace" "[Ljava/lang/StackTraceElement;") ∈ lw_tbl := wd_1 103 rfl
theorem wx_104 : (Cond.lays "java/lang/IllegalArgumentException" "java/lang/Throwable" "suppressedExceptions" "Ljava/util/List;") ∈ lw_tbl := wd_1 104 rfl
theorem wx_105 : (Cond.lays "java/lang/Throwable" "java/lang/Throwable" "suppressedExceptions" "Ljava/util/List;") ∈ lw_tbl := wd_1 105 rfl
theorem wx_106 : (Cond.lays "java/lang/IllegalArgumentException" "java/lang/Throwable" "detailMessage" "Ljava/lang/String;") ∈ lw_tbl := wd_1 106 rfl
theorem wx_107 : (Cond.lays "java/lang/Throwable" "java/lang/Throwable" "detailMessage" "Ljava/lang/String;") ∈ lw_tbl := wd_1 107 rfl
theorem wx_108 : (Cond.lays "java/lang/IllegalArgumentException" "java/lang/Throwable" "backtrace" "Ljava/lang/Object;") ∈ lw_tbl := wd_1 108 rfl
theorem wx_109 : (Cond.lays "java/lang/Throwable" "java/lang/Throwable" "backtrace" "Ljava/lang/Object;") ∈ lw_tbl := wd_1 109 rfl
theorem wx_110 : (Cond.fieldLink "java/lang/Throwable" (198 : Nat) "java/lang/Throwable" "backtrace" "Ljava/lang/Object;") ∈ lw_tbl := wd_1 110 rfl
theorem wx_112 : (Cond.instanceMethod ({ cls := "java/lang/Throwable", name := "<init>", desc := "()V" } : MethodName)) ∈ lw_tbl := wd_1 112 rfl
theorem wx_113 : (Cond.code ({ cls := "java/lang/Throwable", name := "<init>", desc := "()V" } : MethodName) prog_17_method_1_code (1 : Nat) (Option.none : Option FieldType)) ∈ lw_tbl := wd_1 113 rfl
theorem wx_114 : (Cond.methodLink "java/lang/Throwable" (1 : Nat) ({ cls := "java/lang/Object", name := "<init>", desc := "()V" } : MethodName)) ∈ lw_tbl := wd_1 114 rfl
theorem wx_115 : (Cond.fieldLink "java/lang/Throwable" (13 : Nat) "java/lang/Throwable" "UNASSIGNED_STACK" "[Ljava/lang/StackTraceElement;") ∈ lw_tbl := wd_1 115 rfl
theorem wx_116 : (Cond.laysStatic "java/lang/Throwable" "UNASSIGNED_STACK" "[Ljava/lang/StackTraceElement;") ∈ lw_tbl := wd_1 116 rfl
theorem wx_117 : (Cond.fieldLink "java/lang/Throwable" (20 : Nat) "java/lang/Throwable" "SUPPRESSED_SENTINEL" "Ljava/util/List;") ∈ lw_tbl := wd_1 117 rfl
theorem wx_118 : (Cond.laysStatic "java/lang/Throwable" "SUPPRESSED_SENTINEL" "Ljava/util/List;") ∈ lw_tbl := wd_1 118 rfl
theorem wx_119 : (Cond.methodLink "java/lang/Throwable" (27 : Nat) ({ cls := "java/lang/Throwable", name := "fillInStackTrace", desc := "()Ljava/lang/Throwable;" } : MethodName)) ∈ lw_tbl := wd_1 119 rfl
theorem wx_120 : (Cond.instanceMethod ({ cls := "java/lang/Throwable", name := "fillInStackTrace", desc := "()Ljava/lang/Throwable;" } : MethodName)) ∈ lw_tbl := wd_1 120 rfl
theorem wx_121 : (Cond.sameMethod "java/lang/Throwable" "java/lang/Throwable" "fillInStackTrace" "()Ljava/lang/Throwable;") ∈ lw_tbl := wd_1 121 rfl
theorem wx_122 : (Cond.selects "java/lang/IllegalStateException" ({ cls := "java/lang/Throwable", name := "fillInStackTrace", desc := "()Ljava/lang/Throwable;" } : MethodName) ({ cls := "java/lang/Throwable", name := "fillInStackTrace", desc := "()Ljava/lang/Throwable;" } : MethodName)) ∈ lw_tbl := wd_1 122 rfl
theorem wx_123 : (Cond.codeSync ({ cls := "java/lang/Throwable", name := "fillInStackTrace", desc := "()Ljava/lang/Throwable;" } : MethodName) prog_17_method_18_code (1 : Nat) (Option.some (FieldType.object "java/lang/Throwable"))) ∈ lw_tbl := wd_1 123 rfl
theorem wx_124 : (Cond.methodLink "java/lang/Throwable" (202 : Nat) ({ cls := "java/lang/Throwable", name := "fillInStackTrace", desc := "(I)Ljava/lang/Throwable;" } : MethodName)) ∈ lw_tbl := wd_1 124 rfl
theorem wx_126 : (Cond.instanceMethod ({ cls := "java/lang/Throwable", name := "fillInStackTrace", desc := "(I)Ljava/lang/Throwable;" } : MethodName)) ∈ lw_tbl := wd_1 126 rfl
theorem wx_127 : (Cond.instantiable "java/lang/Throwable" (6 : Nat)) ∈ lw_tbl := wd_1 127 rfl
theorem wx_128 : (Cond.native ({ cls := "java/lang/Throwable", name := "fillInStackTrace", desc := "(I)Ljava/lang/Throwable;" } : MethodName)) ∈ lw_tbl := wd_1 128 rfl
theorem wx_129 : (Cond.stringRef "BillShares" (194 : Nat) "out of its bounds") ∈ lw_tbl := wd_1 129 rfl
theorem wx_130 : (Cond.methodLink "BillShares" (108 : Nat) ({ cls := "java/lang/IllegalArgumentException", name := "<init>", desc := "(Ljava/lang/String;)V" } : MethodName)) ∈ lw_tbl := wd_1 130 rfl
theorem wx_131 : (Cond.instanceMethod ({ cls := "java/lang/IllegalArgumentException", name := "<init>", desc := "(Ljava/lang/String;)V" } : MethodName)) ∈ lw_tbl := wd_1 131 rfl
theorem wx_132 : (Cond.code ({ cls := "java/lang/IllegalArgumentException", name := "<init>", desc := "(Ljava/lang/String;)V" } : MethodName) prog_10_method_2_code (2 : Nat) (Option.none : Option FieldType)) ∈ lw_tbl := wd_1 132 rfl
theorem wx_133 : (Cond.methodLink "java/lang/IllegalArgumentException" (7 : Nat) ({ cls := "java/lang/RuntimeException", name := "<init>", desc := "(Ljava/lang/String;)V" } : MethodName)) ∈ lw_tbl := wd_1 133 rfl
theorem wx_134 : (Cond.instanceMethod ({ cls := "java/lang/RuntimeException", name := "<init>", desc := "(Ljava/lang/String;)V" } : MethodName)) ∈ lw_tbl := wd_1 134 rfl
theorem wx_135 : (Cond.code ({ cls := "java/lang/RuntimeException", name := "<init>", desc := "(Ljava/lang/String;)V" } : MethodName) prog_14_method_2_code (2 : Nat) (Option.none : Option FieldType)) ∈ lw_tbl := wd_1 135 rfl
theorem wx_136 : (Cond.methodLink "java/lang/RuntimeException" (7 : Nat) ({ cls := "java/lang/Exception", name := "<init>", desc := "(Ljava/lang/String;)V" } : MethodName)) ∈ lw_tbl := wd_1 136 rfl
theorem wx_137 : (Cond.instanceMethod ({ cls := "java/lang/Exception", name := "<init>", desc := "(Ljava/lang/String;)V" } : MethodName)) ∈ lw_tbl := wd_1 137 rfl
theorem wx_138 : (Cond.code ({ cls := "java/lang/Exception", name := "<init>", desc := "(Ljava/lang/String;)V" } : MethodName) prog_9_method_2_code (2 : Nat) (Option.none : Option FieldType)) ∈ lw_tbl := wd_1 138 rfl
theorem wx_139 : (Cond.methodLink "java/lang/Exception" (7 : Nat) ({ cls := "java/lang/Throwable", name := "<init>", desc := "(Ljava/lang/String;)V" } : MethodName)) ∈ lw_tbl := wd_1 139 rfl
theorem wx_140 : (Cond.instanceMethod ({ cls := "java/lang/Throwable", name := "<init>", desc := "(Ljava/lang/String;)V" } : MethodName)) ∈ lw_tbl := wd_1 140 rfl
theorem wx_141 : (Cond.code ({ cls := "java/lang/Throwable", name := "<init>", desc := "(Ljava/lang/String;)V" } : MethodName) prog_17_method_2_code (2 : Nat) (Option.none : Option FieldType)) ∈ lw_tbl := wd_1 141 rfl
theorem wx_142 : (Cond.fieldLink "java/lang/Throwable" (198 : Nat) "java/lang/Throwable" "backtrace" "Ljava/lang/Object;") ∈ lw_tbl := wd_1 142 rfl
theorem wx_143 : (Cond.fieldLink "java/lang/Throwable" (31 : Nat) "java/lang/Throwable" "detailMessage" "Ljava/lang/String;") ∈ lw_tbl := wd_1 143 rfl
theorem wx_144 : (Cond.fieldLink "java/lang/Throwable" (7 : Nat) "java/lang/Throwable" "cause" "Ljava/lang/Throwable;") ∈ lw_tbl := wd_1 144 rfl
theorem wx_145 : (Cond.fieldLink "java/lang/Throwable" (17 : Nat) "java/lang/Throwable" "stackTrace" "[Ljava/lang/StackTraceElement;") ∈ lw_tbl := wd_1 145 rfl
theorem wx_146 : (Cond.fieldLink "java/lang/Throwable" (24 : Nat) "java/lang/Throwable" "suppressedExceptions" "Ljava/util/List;") ∈ lw_tbl := wd_1 146 rfl
theorem wx_151 : (Cond.lays "java/lang/IllegalArgumentException" "java/lang/Throwable" "depth" "I") ∈ lw_tbl := wd_1 151 rfl
theorem wx_155 : (Cond.arrayClass FieldType.byte) ∈ lw_tbl := wd_1 155 rfl
theorem wx_156 : (Cond.methodLink "BillShares" (42 : Nat) ({ cls := "java/util/ArrayList", name := "size", desc := "()I" } : MethodName)) ∈ lw_tbl := wd_1 156 rfl
theorem wx_157 : (Cond.instanceMethod ({ cls := "java/util/ArrayList", name := "size", desc := "()I" } : MethodName)) ∈ lw_tbl := wd_1 157 rfl
theorem wx_158 : (Cond.selects "java/util/ArrayList" ({ cls := "java/util/ArrayList", name := "size", desc := "()I" } : MethodName) ({ cls := "java/util/ArrayList", name := "size", desc := "()I" } : MethodName)) ∈ lw_tbl := wd_1 158 rfl
theorem wx_159 : (Cond.code ({ cls := "java/util/ArrayList", name := "size", desc := "()I" } : MethodName) prog_20_method_8_code (1 : Nat) (Option.some FieldType.int)) ∈ lw_tbl := wd_1 159 rfl
theorem wx_160 : (Cond.classLink "BillShares" (46 : Nat) "java/lang/IllegalStateException") ∈ lw_tbl := wd_1 160 rfl
theorem wx_161 : (Cond.instantiable "java/lang/IllegalStateException" (6 : Nat)) ∈ lw_tbl := wd_1 161 rfl
theorem wx_162 : (Cond.castable "java/lang/IllegalStateException" "java/lang/IllegalStateException") ∈ lw_tbl := wd_1 162 rfl
theorem wx_163 : (Cond.selects "java/lang/IllegalStateException" ({ cls := "java/lang/Throwable", name := "fillInStackTrace", desc := "(I)Ljava/lang/Throwable;" } : MethodName) ({ cls := "java/lang/Throwable", name := "fillInStackTrace", desc := "(I)Ljava/lang/Throwable;" } : MethodName)) ∈ lw_tbl := wd_1 163 rfl
theorem wx_164 : (Cond.lays "java/lang/IllegalStateException" "java/lang/Throwable" "cause" "Ljava/lang/Throwable;") ∈ lw_tbl := wd_1 164 rfl
theorem wx_165 : (Cond.lays "java/lang/IllegalStateException" "java/lang/Throwable" "stackTrace" "[Ljava/lang/StackTraceElement;") ∈ lw_tbl := wd_1 165 rfl
theorem wx_166 : (Cond.lays "java/lang/IllegalStateException" "java/lang/Throwable" "suppressedExceptions" "Ljava/util/List;") ∈ lw_tbl := wd_1 166 rfl
theorem wx_167 : (Cond.lays "java/lang/IllegalStateException" "java/lang/Throwable" "detailMessage" "Ljava/lang/String;") ∈ lw_tbl := wd_1 167 rfl
theorem wx_168 : (Cond.lays "java/lang/IllegalStateException" "java/lang/Throwable" "backtrace" "Ljava/lang/Object;") ∈ lw_tbl := wd_1 168 rfl
theorem wx_169 : (Cond.stringRef "BillShares" (48 : Nat) "there are 20 flats") ∈ lw_tbl := wd_1 169 rfl
theorem wx_170 : (Cond.methodLink "BillShares" (50 : Nat) ({ cls := "java/lang/IllegalStateException", name := "<init>", desc := "(Ljava/lang/String;)V" } : MethodName)) ∈ lw_tbl := wd_1 170 rfl
theorem wx_171 : (Cond.instanceMethod ({ cls := "java/lang/IllegalStateException", name := "<init>", desc := "(Ljava/lang/String;)V" } : MethodName)) ∈ lw_tbl := wd_1 171 rfl
theorem wx_172 : (Cond.code ({ cls := "java/lang/IllegalStateException", name := "<init>", desc := "(Ljava/lang/String;)V" } : MethodName) prog_11_method_2_code (2 : Nat) (Option.none : Option FieldType)) ∈ lw_tbl := wd_1 172 rfl
theorem wx_173 : (Cond.methodLink "java/lang/IllegalStateException" (7 : Nat) ({ cls := "java/lang/RuntimeException", name := "<init>", desc := "(Ljava/lang/String;)V" } : MethodName)) ∈ lw_tbl := wd_1 173 rfl
theorem wx_174 : (Cond.lays "java/lang/IllegalStateException" "java/lang/Throwable" "depth" "I") ∈ lw_tbl := wd_1 174 rfl
theorem wx_176 : (Cond.classLink "BillShares" (53 : Nat) "BillShares$Flat") ∈ lw_tbl := wd_1 176 rfl
theorem wx_177 : (Cond.instantiable "BillShares$Flat" (10 : Nat)) ∈ lw_tbl := wd_1 177 rfl
theorem wx_178 : (Cond.methodLink "BillShares" (55 : Nat) ({ cls := "BillShares$Flat", name := "<init>", desc := "(II)V" } : MethodName)) ∈ lw_tbl := wd_1 178 rfl
theorem wx_179 : (Cond.instanceMethod ({ cls := "BillShares$Flat", name := "<init>", desc := "(II)V" } : MethodName)) ∈ lw_tbl := wd_1 179 rfl
theorem wx_180 : (Cond.code ({ cls := "BillShares$Flat", name := "<init>", desc := "(II)V" } : MethodName) prog_3_method_1_code (3 : Nat) (Option.none : Option FieldType)) ∈ lw_tbl := wd_1 180 rfl
theorem wx_181 : (Cond.methodLink "BillShares$Flat" (3 : Nat) ({ cls := "java/lang/Object", name := "<init>", desc := "()V" } : MethodName)) ∈ lw_tbl := wd_1 181 rfl
theorem wx_182 : (Cond.classLink "BillShares$Flat" (9 : Nat) "java/util/ArrayList") ∈ lw_tbl := wd_1 182 rfl
theorem wx_183 : (Cond.methodLink "BillShares$Flat" (11 : Nat) ({ cls := "java/util/ArrayList", name := "<init>", desc := "()V" } : MethodName)) ∈ lw_tbl := wd_1 183 rfl
theorem wx_184 : (Cond.classLink "BillShares$Flat" (30 : Nat) "BillShares$Bill") ∈ lw_tbl := wd_1 184 rfl
theorem wx_185 : (Cond.arrayOver (FieldType.object "BillShares$Bill")) ∈ lw_tbl := wd_1 185 rfl
theorem wx_186 : (Cond.fieldLink "BillShares$Flat" (36 : Nat) "BillShares$Flat" "area" "I") ∈ lw_tbl := wd_1 186 rfl
theorem wx_187 : (Cond.fieldLink "BillShares" (258 : Nat) "BillShares$Flat" "area" "I") ∈ lw_tbl := wd_1 187 rfl
theorem wx_188 : (Cond.fieldLink "BillShares$Flat" (39 : Nat) "BillShares$Flat" "rank" "I") ∈ lw_tbl := wd_1 188 rfl
theorem wx_189 : (Cond.fieldLink "BillShares" (218 : Nat) "BillShares$Flat" "rank" "I") ∈ lw_tbl := wd_1 189 rfl
theorem wx_190 : (Cond.fieldLink "BillShares$Flat" (12 : Nat) "BillShares$Flat" "meters" "Ljava/util/ArrayList;") ∈ lw_tbl := wd_1 190 rfl
theorem wx_191 : (Cond.fieldLink "BillShares" (87 : Nat) "BillShares$Flat" "meters" "Ljava/util/ArrayList;") ∈ lw_tbl := wd_1 191 rfl
theorem wx_192 : (Cond.fieldLink "BillShares$Flat" (18 : Nat) "BillShares$Flat" "moveDays" "[I") ∈ lw_tbl := wd_1 192 rfl
theorem wx_193 : (Cond.fieldLink "BillShares$Flat" (22 : Nat) "BillShares$Flat" "dwellers" "I") ∈ lw_tbl := wd_1 193 rfl
theorem wx_194 : (Cond.fieldLink "BillShares" (126 : Nat) "BillShares$Flat" "dwellers" "I") ∈ lw_tbl := wd_1 194 rfl
theorem wx_195 : (Cond.fieldLink "BillShares$Flat" (26 : Nat) "BillShares$Flat" "paid" "[J") ∈ lw_tbl := wd_1 195 rfl
theorem wx_196 : (Cond.fieldLink "BillShares" (134 : Nat) "BillShares$Flat" "paid" "[J") ∈ lw_tbl := wd_1 196 rfl
theorem wx_197 : (Cond.fieldLink "BillShares$Flat" (32 : Nat) "BillShares$Flat" "bills" "[LBillShares$Bill;") ∈ lw_tbl := wd_1 197 rfl
theorem wx_198 : (Cond.fieldLink "BillShares" (212 : Nat) "BillShares$Flat" "bills" "[LBillShares$Bill;") ∈ lw_tbl := wd_1 198 rfl
theorem wx_199 : (Cond.fieldLink "BillShares" (264 : Nat) "BillShares$Flat" "told" "Z") ∈ lw_tbl := wd_1 199 rfl
theorem wx_200 : (Cond.fieldLink "BillShares" (261 : Nat) "BillShares$Flat" "weight" "J") ∈ lw_tbl := wd_1 200 rfl
theorem wx_201 : (Cond.fieldLink "BillShares" (252 : Nat) "BillShares$Flat" "dealt" "J") ∈ lw_tbl := wd_1 201 rfl
theorem wx_202 : (Cond.laysFinal "BillShares$Flat" "BillShares$Flat" "area" "I") ∈ lw_tbl := wd_1 202 rfl
theorem wx_204 : (Cond.laysFinal "BillShares$Flat" "BillShares$Flat" "rank" "I") ∈ lw_tbl := wd_1 204 rfl
theorem wx_206 : (Cond.laysFinal "BillShares$Flat" "BillShares$Flat" "meters" "Ljava/util/ArrayList;") ∈ lw_tbl := wd_1 206 rfl
theorem wx_208 : (Cond.laysFinal "BillShares$Flat" "BillShares$Flat" "moveDays" "[I") ∈ lw_tbl := wd_1 208 rfl
theorem wx_210 : (Cond.lays "BillShares$Flat" "BillShares$Flat" "dwellers" "I") ∈ lw_tbl := wd_1 210 rfl
theorem wx_212 : (Cond.laysFinal "BillShares$Flat" "BillShares$Flat" "paid" "[J") ∈ lw_tbl := wd_1 212 rfl
theorem wx_214 : (Cond.laysFinal "BillShares$Flat" "BillShares$Flat" "bills" "[LBillShares$Bill;") ∈ lw_tbl := wd_1 214 rfl
theorem wx_216 : (Cond.lays "BillShares$Flat" "BillShares$Flat" "told" "Z") ∈ lw_tbl := wd_1 216 rfl
theorem wx_218 : (Cond.lays "BillShares$Flat" "BillShares$Flat" "weight" "J") ∈ lw_tbl := wd_1 218 rfl
theorem wx_220 : (Cond.lays "BillShares$Flat" "BillShares$Flat" "dealt" "J") ∈ lw_tbl := wd_1 220 rfl
theorem wx_223 : (Cond.arrayClass FieldType.long) ∈ lw_tbl := wd_1 223 rfl
theorem wx_224 : (Cond.methodLink "BillShares" (58 : Nat) ({ cls := "java/util/ArrayList", name := "add", desc := "(Ljava/lang/Object;)Z" } : MethodName)) ∈ lw_tbl := wd_1 224 rfl
theorem wx_225 : (Cond.instanceMethod ({ cls := "java/util/ArrayList", name := "add", desc := "(Ljava/lang/Object;)Z" } : MethodName)) ∈ lw_tbl := wd_1 225 rfl
theorem wx_226 : (Cond.selects "java/util/ArrayList" ({ cls := "java/util/ArrayList", name := "add", desc := "(Ljava/lang/Object;)Z" } : MethodName) ({ cls := "java/util/ArrayList", name := "add", desc := "(Ljava/lang/Object;)Z" } : MethodName)) ∈ lw_tbl := wd_1 226 rfl
theorem wx_227 : (Cond.code ({ cls := "java/util/ArrayList", name := "add", desc := "(Ljava/lang/Object;)Z" } : MethodName) prog_20_method_25_code (2 : Nat) (Option.some FieldType.boolean)) ∈ lw_tbl := wd_1 227 rfl
theorem wx_228 : (Cond.methodLink "java/util/ArrayList" (131 : Nat) ({ cls := "java/util/ArrayList", name := "add", desc := "(Ljava/lang/Object;[Ljava/lang/Object;I)V" } : MethodName)) ∈ lw_tbl := wd_1 228 rfl
theorem wx_230 : (Cond.instanceMethod ({ cls := "java/util/ArrayList", name := "add", desc := "(Ljava/lang/Object;[Ljava/lang/Object;I)V" } : MethodName)) ∈ lw_tbl := wd_1 230 rfl
theorem wx_231 : (Cond.code ({ cls := "java/util/ArrayList", name := "add", desc := "(Ljava/lang/Object;[Ljava/lang/Object;I)V" } : MethodName) prog_20_method_24_code (4 : Nat) (Option.none : Option FieldType)) ∈ lw_tbl := wd_1 231 rfl
theorem wx_232 : (Cond.methodLink "java/util/ArrayList" (129 : Nat) ({ cls := "java/util/ArrayList", name := "grow", desc := "()[Ljava/lang/Object;" } : MethodName)) ∈ lw_tbl := wd_1 232 rfl
theorem wx_234 : (Cond.instanceMethod ({ cls := "java/util/ArrayList", name := "grow", desc := "()[Ljava/lang/Object;" } : MethodName)) ∈ lw_tbl := wd_1 234 rfl
theorem wx_235 : (Cond.code ({ cls := "java/util/ArrayList", name := "grow", desc := "()[Ljava/lang/Object;" } : MethodName) prog_20_method_7_code (1 : Nat) (Option.some (FieldType.array (FieldType.object "java/lang/Object")))) ∈ lw_tbl := wd_1 235 rfl
theorem wx_236 : (Cond.methodLink "java/util/ArrayList" (69 : Nat) ({ cls := "java/util/ArrayList", name := "grow", desc := "(I)[Ljava/lang/Object;" } : MethodName)) ∈ lw_tbl := wd_1 236 rfl
theorem wx_238 : (Cond.instanceMethod ({ cls := "java/util/ArrayList", name := "grow", desc := "(I)[Ljava/lang/Object;" } : MethodName)) ∈ lw_tbl := wd_1 238 rfl
theorem wx_239 : (Cond.code ({ cls := "java/util/ArrayList", name := "grow", desc := "(I)[Ljava/lang/Object;" } : MethodName) prog_20_method_6_code (4 : Nat) (Option.some (FieldType.array (FieldType.object "java/lang/Object")))) ∈ lw_tbl := wd_1 239 rfl
theorem wx_240 : (Cond.methodLink "java/util/ArrayList" (73 : Nat) ({ cls := "jdk/internal/util/ArraysSupport", name := "newLength", desc := "(III)I" } : MethodName)) ∈ lw_tbl := wd_2 0 rfl
theorem wx_241 : (Cond.static ({ cls := "jdk/internal/util/ArraysSupport", name := "newLength", desc := "(III)I" } : MethodName)) ∈ lw_tbl := wd_2 1 rfl
theorem wx_242 : (Cond.code ({ cls := "jdk/internal/util/ArraysSupport", name := "newLength", desc := "(III)I" } : MethodName) prog_27_method_27_code (4 : Nat) (Option.some FieldType.int)) ∈ lw_tbl := wd_2 2 rfl
theorem wx_243 : (Cond.methodLink "jdk/internal/util/ArraysSupport" (194 : Nat) ({ cls := "java/lang/Math", name := "max", desc := "(II)I" } : MethodName)) ∈ lw_tbl := wd_2 3 rfl
theorem wx_244 : (Cond.static ({ cls := "java/lang/Math", name := "max", desc := "(II)I" } : MethodName)) ∈ lw_tbl := wd_2 4 rfl
theorem wx_245 : (Cond.code ({ cls := "java/lang/Math", name := "max", desc := "(II)I" } : MethodName) prog_13_method_65_code (2 : Nat) (Option.some FieldType.int)) ∈ lw_tbl := wd_2 5 rfl
theorem wx_246 : (Cond.constant "jdk/internal/util/ArraysSupport" (200 : Nat) (2147483639 : Int32)) ∈ lw_tbl := wd_2 6 rfl
theorem wx_247 : (Cond.methodLink "jdk/internal/util/ArraysSupport" (201 : Nat) ({ cls := "jdk/internal/util/ArraysSupport", name := "hugeLength", desc := "(II)I" } : MethodName)) ∈ lw_tbl := wd_2 7 rfl
theorem wx_248 : (Cond.static ({ cls := "jdk/internal/util/ArraysSupport", name := "hugeLength", desc := "(II)I" } : MethodName)) ∈ lw_tbl := wd_2 8 rfl
theorem wx_249 : (Cond.code ({ cls := "jdk/internal/util/ArraysSupport", name := "hugeLength", desc := "(II)I" } : MethodName) prog_27_method_28_code (3 : Nat) (Option.some FieldType.int)) ∈ lw_tbl := wd_2 9 rfl
theorem wx_250 : (Cond.methodLink "java/util/ArrayList" (66 : Nat) ({ cls := "java/util/Arrays", name := "copyOf", desc := "([Ljava/lang/Object;I)[Ljava/lang/Object;" } : MethodName)) ∈ lw_tbl := wd_2 10 rfl
theorem wx_251 : (Cond.static ({ cls := "java/util/Arrays", name := "copyOf", desc := "([Ljava/lang/Object;I)[Ljava/lang/Object;" } : MethodName)) ∈ lw_tbl := wd_2 11 rfl
theorem wx_252 : (Cond.code ({ cls := "java/util/Arrays", name := "copyOf", desc := "([Ljava/lang/Object;I)[Ljava/lang/Object;" } : MethodName) prog_21_method_119_code (2 : Nat) (Option.some (FieldType.array (FieldType.object "java/lang/Object")))) ∈ lw_tbl := wd_2 12 rfl
theorem wx_253 : (Cond.methodLink "java/util/Arrays" (86 : Nat) ({ cls := "java/lang/Object", name := "getClass", desc := "()Ljava/lang/Class;" } : MethodName)) ∈ lw_tbl := wd_2 13 rfl
theorem wx_254 : (Cond.instanceMethod ({ cls := "java/lang/Object", name := "getClass", desc := "()Ljava/lang/Class;" } : MethodName)) ∈ lw_tbl := wd_2 14 rfl
theorem wx_255 : (Cond.sameMethod "java/lang/Object" "java/lang/Object" "getClass" "()Ljava/lang/Class;") ∈ lw_tbl := wd_2 15 rfl
theorem wx_256 : (Cond.selects "BillShares" ({ cls := "java/lang/Object", name := "getClass", desc := "()Ljava/lang/Class;" } : MethodName) ({ cls := "java/lang/Object", name := "getClass", desc := "()Ljava/lang/Class;" } : MethodName)) ∈ lw_tbl := wd_2 16 rfl
theorem wx_257 : (Cond.selects "BillShares$Bill" ({ cls := "java/lang/Object", name := "getClass", desc := "()Ljava/lang/Class;" } : MethodName) ({ cls := "java/lang/Object", name := "getClass", desc := "()Ljava/lang/Class;" } : MethodName)) ∈ lw_tbl := wd_2 17 rfl
theorem wx_258 : (Cond.selects "BillShares$Flat" ({ cls := "java/lang/Object", name := "getClass", desc := "()Ljava/lang/Class;" } : MethodName) ({ cls := "java/lang/Object", name := "getClass", desc := "()Ljava/lang/Class;" } : MethodName)) ∈ lw_tbl := wd_2 18 rfl
theorem wx_259 : (Cond.selects "BillShares$Meter" ({ cls := "java/lang/Object", name := "getClass", desc := "()Ljava/lang/Class;" } : MethodName) ({ cls := "java/lang/Object", name := "getClass", desc := "()Ljava/lang/Class;" } : MethodName)) ∈ lw_tbl := wd_2 19 rfl
theorem wx_260 : (Cond.selects "BillSharesModel" ({ cls := "java/lang/Object", name := "getClass", desc := "()Ljava/lang/Class;" } : MethodName) ({ cls := "java/lang/Object", name := "getClass", desc := "()Ljava/lang/Class;" } : MethodName)) ∈ lw_tbl := wd_2 20 rfl
theorem wx_261 : (Cond.selects "java/lang/IllegalArgumentException" ({ cls := "java/lang/Object", name := "getClass", desc := "()Ljava/lang/Class;" } : MethodName) ({ cls := "java/lang/Object", name := "getClass", desc := "()Ljava/lang/Class;" } : MethodName)) ∈ lw_tbl := wd_2 21 rfl
theorem wx_262 : (Cond.selects "java/lang/IllegalStateException" ({ cls := "java/lang/Object", name := "getClass", desc := "()Ljava/lang/Class;" } : MethodName) ({ cls := "java/lang/Object", name := "getClass", desc := "()Ljava/lang/Class;" } : MethodName)) ∈ lw_tbl := wd_2 22 rfl
theorem wx_263 : (Cond.selects "java/util/ArrayList" ({ cls := "java/lang/Object", name := "getClass", desc := "()Ljava/lang/Class;" } : MethodName) ({ cls := "java/lang/Object", name := "getClass", desc := "()Ljava/lang/Class;" } : MethodName)) ∈ lw_tbl := wd_2 23 rfl
theorem wx_264 : (Cond.native ({ cls := "java/lang/Object", name := "getClass", desc := "()Ljava/lang/Class;" } : MethodName)) ∈ lw_tbl := wd_2 24 rfl
theorem wx_265 : (Cond.methodLink "java/util/Arrays" (300 : Nat) ({ cls := "java/util/Arrays", name := "copyOf", desc := "([Ljava/lang/Object;ILjava/lang/Class;)[Ljava/lang/Object;" } : MethodName)) ∈ lw_tbl := wd_2 25 rfl
theorem wx_266 : (Cond.static ({ cls := "java/util/Arrays", name := "copyOf", desc := "([Ljava/lang/Object;ILjava/lang/Class;)[Ljava/lang/Object;" } : MethodName)) ∈ lw_tbl := wd_2 26 rfl
theorem wx_267 : (Cond.code ({ cls := "java/util/Arrays", name := "copyOf", desc := "([Ljava/lang/Object;ILjava/lang/Class;)[Ljava/lang/Object;" } : MethodName) prog_21_method_120_code (4 : Nat) (Option.some (FieldType.array (FieldType.object "java/lang/Object")))) ∈ lw_tbl := wd_2 27 rfl
theorem wx_268 : (Cond.classLink "java/util/Arrays" (110 : Nat) "[Ljava/lang/Object;") ∈ lw_tbl := wd_2 28 rfl
theorem wx_269 : (Cond.arrayOver (FieldType.object "java/lang/Object")) ∈ lw_tbl := wd_2 29 rfl
theorem wx_270 : (Cond.classLink "java/util/Arrays" (2 : Nat) "java/lang/Object") ∈ lw_tbl := wd_2 30 rfl
theorem wx_271 : (Cond.methodLink "java/util/Arrays" (304 : Nat) ({ cls := "java/lang/Math", name := "min", desc := "(II)I" } : MethodName)) ∈ lw_tbl := wd_2 31 rfl
theorem wx_272 : (Cond.static ({ cls := "java/lang/Math", name := "min", desc := "(II)I" } : MethodName)) ∈ lw_tbl := wd_2 32 rfl
theorem wx_273 : (Cond.code ({ cls := "java/lang/Math", name := "min", desc := "(II)I" } : MethodName) prog_13_method_69_code (2 : Nat) (Option.some FieldType.int)) ∈ lw_tbl := wd_2 33 rfl
theorem wx_274 : (Cond.methodLink "java/util/Arrays" (150 : Nat) ({ cls := "java/lang/System", name := "arraycopy", desc := "(Ljava/lang/Object;ILjava/lang/Object;II)V" } : MethodName)) ∈ lw_tbl := wd_2 34 rfl
theorem wx_275 : (Cond.static ({ cls := "java/lang/System", name := "arraycopy", desc := "(Ljava/lang/Object;ILjava/lang/Object;II)V" } : MethodName)) ∈ lw_tbl := wd_2 35 rfl
theorem wx_276 : (Cond.native ({ cls := "java/lang/System", name := "arraycopy", desc := "(Ljava/lang/Object;ILjava/lang/Object;II)V" } : MethodName)) ∈ lw_tbl := wd_2 36 rfl
theorem wx_277 : (Cond.methodLink "java/util/ArrayList" (79 : Nat) ({ cls := "java/lang/Math", name := "max", desc := "(II)I" } : MethodName)) ∈ lw_tbl := wd_2 37 rfl
theorem wx_278 : (Cond.classLink "java/util/ArrayList" (7 : Nat) "java/lang/Object") ∈ lw_tbl := wd_2 38 rfl
theorem wx_279 : (Cond.methodLink "BillShares" (62 : Nat) ({ cls := "BillShares", name := "placeByRank", desc := "(I)I" } : MethodName)) ∈ lw_tbl := wd_2 39 rfl
theorem wx_281 : (Cond.instanceMethod ({ cls := "BillShares", name := "placeByRank", desc := "(I)I" } : MethodName)) ∈ lw_tbl := wd_2 41 rfl
theorem wx_282 : (Cond.code ({ cls := "BillShares", name := "placeByRank", desc := "(I)I" } : MethodName) prog_1_method_31_code (3 : Nat) (Option.some FieldType.int)) ∈ lw_tbl := wd_2 42 rfl
theorem wx_283 : (Cond.methodLink "BillShares" (204 : Nat) ({ cls := "java/util/ArrayList", name := "get", desc := "(I)Ljava/lang/Object;" } : MethodName)) ∈ lw_tbl := wd_2 43 rfl
theorem wx_284 : (Cond.instanceMethod ({ cls := "java/util/ArrayList", name := "get", desc := "(I)Ljava/lang/Object;" } : MethodName)) ∈ lw_tbl := wd_2 44 rfl
theorem wx_285 : (Cond.selects "java/util/ArrayList" ({ cls := "java/util/ArrayList", name := "get", desc := "(I)Ljava/lang/Object;" } : MethodName) ({ cls := "java/util/ArrayList", name := "get", desc := "(I)Ljava/lang/Object;" } : MethodName)) ∈ lw_tbl := wd_2 45 rfl
theorem wx_286 : (Cond.code ({ cls := "java/util/ArrayList", name := "get", desc := "(I)Ljava/lang/Object;" } : MethodName) prog_20_method_20_code (2 : Nat) (Option.some (FieldType.object "java/lang/Object"))) ∈ lw_tbl := wd_2 46 rfl
theorem wx_287 : (Cond.methodLink "java/util/ArrayList" (118 : Nat) ({ cls := "java/util/Objects", name := "checkIndex", desc := "(II)I" } : MethodName)) ∈ lw_tbl := wd_2 47 rfl
theorem wx_288 : (Cond.static ({ cls := "java/util/Objects", name := "checkIndex", desc := "(II)I" } : MethodName)) ∈ lw_tbl := wd_2 48 rfl
theorem wx_289 : (Cond.code ({ cls := "java/util/Objects", name := "checkIndex", desc := "(II)I" } : MethodName) prog_24_method_17_code (2 : Nat) (Option.some FieldType.int)) ∈ lw_tbl := wd_2 49 rfl
theorem wx_290 : (Cond.methodLink "java/util/Objects" (105 : Nat) ({ cls := "jdk/internal/util/Preconditions", name := "checkIndex", desc := "(IILjava/util/function/BiFunction;)I" } : MethodName)) ∈ lw_tbl := wd_2 50 rfl
theorem wx_291 : (Cond.static ({ cls := "jdk/internal/util/Preconditions", name := "checkIndex", desc := "(IILjava/util/function/BiFunction;)I" } : MethodName)) ∈ lw_tbl := wd_2 51 rfl
theorem wx_292 : (Cond.code ({ cls := "jdk/internal/util/Preconditions", name := "checkIndex", desc := "(IILjava/util/function/BiFunction;)I" } : MethodName) prog_28_method_11_code (3 : Nat) (Option.some FieldType.int)) ∈ lw_tbl := wd_2 52 rfl
theorem wx_293 : (Cond.methodLink "java/util/ArrayList" (123 : Nat) ({ cls := "java/util/ArrayList", name := "elementData", desc := "(I)Ljava/lang/Object;" } : MethodName)) ∈ lw_tbl := wd_2 53 rfl
theorem wx_294 : (Cond.instanceMethod ({ cls := "java/util/ArrayList", name := "elementData", desc := "(I)Ljava/lang/Object;" } : MethodName)) ∈ lw_tbl := wd_2 54 rfl
theorem wx_295 : (Cond.selects "java/util/ArrayList" ({ cls := "java/util/ArrayList", name := "elementData", desc := "(I)Ljava/lang/Object;" } : MethodName) ({ cls := "java/util/ArrayList", name := "elementData", desc := "(I)Ljava/lang/Object;" } : MethodName)) ∈ lw_tbl := wd_2 55 rfl
theorem wx_296 : (Cond.code ({ cls := "java/util/ArrayList", name := "elementData", desc := "(I)Ljava/lang/Object;" } : MethodName) prog_20_method_18_code (2 : Nat) (Option.some (FieldType.object "java/lang/Object"))) ∈ lw_tbl := wd_2 56 rfl
theorem wx_297 : (Cond.methodLink "BillShares" (66 : Nat) ({ cls := "java/util/ArrayList", name := "add", desc := "(ILjava/lang/Object;)V" } : MethodName)) ∈ lw_tbl := wd_2 57 rfl
theorem wx_298 : (Cond.instanceMethod ({ cls := "java/util/ArrayList", name := "add", desc := "(ILjava/lang/Object;)V" } : MethodName)) ∈ lw_tbl := wd_2 58 rfl
theorem wx_299 : (Cond.selects "java/util/ArrayList" ({ cls := "java/util/ArrayList", name := "add", desc := "(ILjava/lang/Object;)V" } : MethodName) ({ cls := "java/util/ArrayList", name := "add", desc := "(ILjava/lang/Object;)V" } : MethodName)) ∈ lw_tbl := wd_2 59 rfl
theorem wx_300 : (Cond.code ({ cls := "java/util/ArrayList", name := "add", desc := "(ILjava/lang/Object;)V" } : MethodName) prog_20_method_26_code (5 : Nat) (Option.none : Option FieldType)) ∈ lw_tbl := wd_2 60 rfl
theorem wx_301 : (Cond.methodLink "java/util/ArrayList" (135 : Nat) ({ cls := "java/util/ArrayList", name := "rangeCheckForAdd", desc := "(I)V" } : MethodName)) ∈ lw_tbl := wd_2 61 rfl
theorem wx_303 : (Cond.instanceMethod ({ cls := "java/util/ArrayList", name := "rangeCheckForAdd", desc := "(I)V" } : MethodName)) ∈ lw_tbl := wd_2 63 rfl
theorem wx_304 : (Cond.code ({ cls := "java/util/ArrayList", name := "rangeCheckForAdd", desc := "(I)V" } : MethodName) prog_20_method_45_code (2 : Nat) (Option.none : Option FieldType)) ∈ lw_tbl := wd_2 64 rfl
theorem wx_305 : (Cond.methodLink "java/util/ArrayList" (112 : Nat) ({ cls := "java/lang/System", name := "arraycopy", desc := "(Ljava/lang/Object;ILjava/lang/Object;II)V" } : MethodName)) ∈ lw_tbl := wd_2 65 rfl
theorem wx_306 : (Cond.methodLink "BillSharesLaw" (92 : Nat) ({ cls := "BillSharesLaw", name := "meter", desc := "(LBillShares;IIIII[J)I" } : MethodName)) ∈ lw_tbl := wd_2 66 rfl
theorem wx_307 : (Cond.static ({ cls := "BillSharesLaw", name := "meter", desc := "(LBillShares;IIIII[J)I" } : MethodName)) ∈ lw_tbl := wd_2 67 rfl
theorem wx_308 : (Cond.codeWith ({ cls := "BillSharesLaw", name := "meter", desc := "(LBillShares;IIIII[J)I" } : MethodName) method_4_code (8 : Nat) (Option.some FieldType.int) [((0 : Nat), (16 : Nat), (19 : Nat), (13 : Nat)), ((0 : Nat), (16 : Nat), (23 : Nat), (15 : Nat))]) ∈ lw_tbl := wd_2 68 rfl
theorem wx_309 : (Cond.methodLink "BillSharesLaw" (17 : Nat) ({ cls := "BillShares", name := "meter", desc := "(IIIII)I" } : MethodName)) ∈ lw_tbl := wd_2 69 rfl
theorem wx_310 : (Cond.instanceMethod ({ cls := "BillShares", name := "meter", desc := "(IIIII)I" } : MethodName)) ∈ lw_tbl := wd_2 70 rfl
theorem wx_311 : (Cond.selects "BillShares" ({ cls := "BillShares", name := "meter", desc := "(IIIII)I" } : MethodName) ({ cls := "BillShares", name := "meter", desc := "(IIIII)I" } : MethodName)) ∈ lw_tbl := wd_2 71 rfl
theorem wx_312 : (Cond.code ({ cls := "BillShares", name := "meter", desc := "(IIIII)I" } : MethodName) prog_1_method_3_code (8 : Nat) (Option.some FieldType.int)) ∈ lw_tbl := wd_2 72 rfl
theorem wx_313 : (Cond.methodLink "BillShares" (69 : Nat) ({ cls := "BillShares", name := "flatAt", desc := "(I)LBillShares$Flat;" } : MethodName)) ∈ lw_tbl := wd_2 73 rfl
theorem wx_315 : (Cond.instanceMethod ({ cls := "BillShares", name := "flatAt", desc := "(I)LBillShares$Flat;" } : MethodName)) ∈ lw_tbl := wd_2 75 rfl
theorem wx_316 : (Cond.code ({ cls := "BillShares", name := "flatAt", desc := "(I)LBillShares$Flat;" } : MethodName) prog_1_method_28_code (2 : Nat) (Option.some (FieldType.object "BillShares$Flat"))) ∈ lw_tbl := wd_2 76 rfl
theorem wx_317 : (Cond.stringRef "BillShares" (202 : Nat) "no such flat") ∈ lw_tbl := wd_2 77 rfl
theorem wx_318 : (Cond.methodLink "BillShares" (73 : Nat) ({ cls := "BillShares", name := "checkKind", desc := "(I)V" } : MethodName)) ∈ lw_tbl := wd_2 78 rfl
theorem wx_319 : (Cond.static ({ cls := "BillShares", name := "checkKind", desc := "(I)V" } : MethodName)) ∈ lw_tbl := wd_2 79 rfl
theorem wx_320 : (Cond.code ({ cls := "BillShares", name := "checkKind", desc := "(I)V" } : MethodName) prog_1_method_24_code (1 : Nat) (Option.none : Option FieldType)) ∈ lw_tbl := wd_2 80 rfl
theorem wx_321 : (Cond.methodLink "BillShares" (77 : Nat) ({ cls := "BillShares", name := "checkDay", desc := "(I)V" } : MethodName)) ∈ lw_tbl := wd_2 81 rfl
theorem wx_322 : (Cond.static ({ cls := "BillShares", name := "checkDay", desc := "(I)V" } : MethodName)) ∈ lw_tbl := wd_2 82 rfl
theorem wx_323 : (Cond.code ({ cls := "BillShares", name := "checkDay", desc := "(I)V" } : MethodName) prog_1_method_22_code (1 : Nat) (Option.none : Option FieldType)) ∈ lw_tbl := wd_2 83 rfl
theorem wx_324 : (Cond.stringRef "BillShares" (80 : Nat) "there are 60 meters") ∈ lw_tbl := wd_2 84 rfl
theorem wx_325 : (Cond.classLink "BillShares" (82 : Nat) "BillShares$Meter") ∈ lw_tbl := wd_2 85 rfl
theorem wx_326 : (Cond.instantiable "BillShares$Meter" (8 : Nat)) ∈ lw_tbl := wd_2 86 rfl
theorem wx_327 : (Cond.methodLink "BillShares" (84 : Nat) ({ cls := "BillShares$Meter", name := "<init>", desc := "(IIII)V" } : MethodName)) ∈ lw_tbl := wd_2 87 rfl
theorem wx_328 : (Cond.instanceMethod ({ cls := "BillShares$Meter", name := "<init>", desc := "(IIII)V" } : MethodName)) ∈ lw_tbl := wd_2 88 rfl
theorem wx_329 : (Cond.code ({ cls := "BillShares$Meter", name := "<init>", desc := "(IIII)V" } : MethodName) prog_4_method_1_code (5 : Nat) (Option.none : Option FieldType)) ∈ lw_tbl := wd_2 89 rfl
theorem wx_330 : (Cond.methodLink "BillShares$Meter" (3 : Nat) ({ cls := "java/lang/Object", name := "<init>", desc := "()V" } : MethodName)) ∈ lw_tbl := wd_2 90 rfl
theorem wx_331 : (Cond.fieldLink "BillShares$Meter" (25 : Nat) "BillShares$Meter" "kind" "I") ∈ lw_tbl := wd_2 91 rfl
theorem wx_332 : (Cond.fieldLink "BillShares$Flat" (60 : Nat) "BillShares$Meter" "kind" "I") ∈ lw_tbl := wd_2 92 rfl
theorem wx_333 : (Cond.fieldLink "BillShares$Meter" (28 : Nat) "BillShares$Meter" "above" "I") ∈ lw_tbl := wd_2 93 rfl
theorem wx_334 : (Cond.fieldLink "BillShares$Meter" (31 : Nat) "BillShares$Meter" "below" "I") ∈ lw_tbl := wd_2 94 rfl
theorem wx_335 : (Cond.fieldLink "BillShares$Meter" (34 : Nat) "BillShares$Meter" "testedTo" "I") ∈ lw_tbl := wd_2 95 rfl
theorem wx_336 : (Cond.fieldLink "BillShares" (113 : Nat) "BillShares$Meter" "testedTo" "I") ∈ lw_tbl := wd_2 96 rfl
theorem wx_337 : (Cond.fieldLink "BillShares$Meter" (9 : Nat) "BillShares$Meter" "readings" "I") ∈ lw_tbl := wd_2 97 rfl
theorem wx_338 : (Cond.fieldLink "BillShares" (226 : Nat) "BillShares$Meter" "readings" "I") ∈ lw_tbl := wd_2 98 rfl
theorem wx_339 : (Cond.fieldLink "BillShares$Meter" (15 : Nat) "BillShares$Meter" "days" "[I") ∈ lw_tbl := wd_2 99 rfl
theorem wx_340 : (Cond.fieldLink "BillShares$Meter" (19 : Nat) "BillShares$Meter" "values" "[I") ∈ lw_tbl := wd_2 100 rfl
theorem wx_341 : (Cond.fieldLink "BillShares$Meter" (22 : Nat) "BillShares$Meter" "starts" "[I") ∈ lw_tbl := wd_2 101 rfl
theorem wx_342 : (Cond.laysFinal "BillShares$Meter" "BillShares$Meter" "kind" "I") ∈ lw_tbl := wd_2 102 rfl
theorem wx_344 : (Cond.laysFinal "BillShares$Meter" "BillShares$Meter" "above" "I") ∈ lw_tbl := wd_2 104 rfl
theorem wx_346 : (Cond.laysFinal "BillShares$Meter" "BillShares$Meter" "below" "I") ∈ lw_tbl := wd_2 106 rfl
theorem wx_348 : (Cond.lays "BillShares$Meter" "BillShares$Meter" "testedTo" "I") ∈ lw_tbl := wd_2 108 rfl
theorem wx_350 : (Cond.lays "BillShares$Meter" "BillShares$Meter" "readings" "I") ∈ lw_tbl := wd_2 110 rfl
theorem wx_352 : (Cond.laysFinal "BillShares$Meter" "BillShares$Meter" "days" "[I") ∈ lw_tbl := wd_2 112 rfl
theorem wx_354 : (Cond.laysFinal "BillShares$Meter" "BillShares$Meter" "values" "[I") ∈ lw_tbl := wd_2 114 rfl
theorem wx_356 : (Cond.laysFinal "BillShares$Meter" "BillShares$Meter" "starts" "[I") ∈ lw_tbl := wd_2 116 rfl
theorem wx_359 : (Cond.methodLink "BillSharesLaw" (96 : Nat) ({ cls := "BillSharesLaw", name := "reading", desc := "(LBillShares;III[J)I" } : MethodName)) ∈ lw_tbl := wd_2 119 rfl
theorem wx_360 : (Cond.static ({ cls := "BillSharesLaw", name := "reading", desc := "(LBillShares;III[J)I" } : MethodName)) ∈ lw_tbl := wd_2 120 rfl
theorem wx_361 : (Cond.codeWith ({ cls := "BillSharesLaw", name := "reading", desc := "(LBillShares;III[J)I" } : MethodName) method_5_code (6 : Nat) (Option.some FieldType.int) [((0 : Nat), (12 : Nat), (15 : Nat), (13 : Nat)), ((0 : Nat), (12 : Nat), (19 : Nat), (15 : Nat))]) ∈ lw_tbl := wd_2 121 rfl
theorem wx_362 : (Cond.methodLink "BillSharesLaw" (21 : Nat) ({ cls := "BillShares", name := "reading", desc := "(III)I" } : MethodName)) ∈ lw_tbl := wd_2 122 rfl
theorem wx_363 : (Cond.instanceMethod ({ cls := "BillShares", name := "reading", desc := "(III)I" } : MethodName)) ∈ lw_tbl := wd_2 123 rfl
theorem wx_364 : (Cond.selects "BillShares" ({ cls := "BillShares", name := "reading", desc := "(III)I" } : MethodName) ({ cls := "BillShares", name := "reading", desc := "(III)I" } : MethodName)) ∈ lw_tbl := wd_2 124 rfl
theorem wx_365 : (Cond.code ({ cls := "BillShares", name := "reading", desc := "(III)I" } : MethodName) prog_1_method_4_code (4 : Nat) (Option.some FieldType.int)) ∈ lw_tbl := wd_2 125 rfl
theorem wx_366 : (Cond.methodLink "BillShares" (88 : Nat) ({ cls := "BillShares", name := "addReading", desc := "(IIII)I" } : MethodName)) ∈ lw_tbl := wd_2 126 rfl
theorem wx_368 : (Cond.instanceMethod ({ cls := "BillShares", name := "addReading", desc := "(IIII)I" } : MethodName)) ∈ lw_tbl := wd_2 128 rfl
theorem wx_369 : (Cond.code ({ cls := "BillShares", name := "addReading", desc := "(IIII)I" } : MethodName) prog_1_method_32_code (6 : Nat) (Option.some FieldType.int)) ∈ lw_tbl := wd_2 129 rfl
theorem wx_370 : (Cond.methodLink "BillShares" (93 : Nat) ({ cls := "BillShares", name := "meterAt", desc := "(I)LBillShares$Meter;" } : MethodName)) ∈ lw_tbl := wd_2 130 rfl
theorem wx_372 : (Cond.instanceMethod ({ cls := "BillShares", name := "meterAt", desc := "(I)LBillShares$Meter;" } : MethodName)) ∈ lw_tbl := wd_2 132 rfl
theorem wx_373 : (Cond.code ({ cls := "BillShares", name := "meterAt", desc := "(I)LBillShares$Meter;" } : MethodName) prog_1_method_29_code (2 : Nat) (Option.some (FieldType.object "BillShares$Meter"))) ∈ lw_tbl := wd_2 133 rfl
theorem wx_374 : (Cond.stringRef "BillShares" (208 : Nat) "no such meter") ∈ lw_tbl := wd_2 134 rfl
theorem wx_375 : (Cond.constant "BillShares" (92 : Nat) (10000000 : Int32)) ∈ lw_tbl := wd_2 135 rfl
theorem wx_376 : (Cond.methodLink "BillShares" (221 : Nat) ({ cls := "BillShares$Meter", name := "mayEndWith", desc := "(II)Z" } : MethodName)) ∈ lw_tbl := wd_2 136 rfl
theorem wx_377 : (Cond.instanceMethod ({ cls := "BillShares$Meter", name := "mayEndWith", desc := "(II)Z" } : MethodName)) ∈ lw_tbl := wd_2 137 rfl
theorem wx_378 : (Cond.selects "BillShares$Meter" ({ cls := "BillShares$Meter", name := "mayEndWith", desc := "(II)Z" } : MethodName) ({ cls := "BillShares$Meter", name := "mayEndWith", desc := "(II)Z" } : MethodName)) ∈ lw_tbl := wd_2 138 rfl
theorem wx_379 : (Cond.code ({ cls := "BillShares$Meter", name := "mayEndWith", desc := "(II)Z" } : MethodName) prog_4_method_2_code (3 : Nat) (Option.some FieldType.boolean)) ∈ lw_tbl := wd_2 139 rfl
theorem wx_380 : (Cond.methodLink "BillShares$Meter" (37 : Nat) ({ cls := "BillShares$Meter", name := "valueBehind", desc := "(I)I" } : MethodName)) ∈ lw_tbl := wd_2 140 rfl
theorem wx_381 : (Cond.instanceMethod ({ cls := "BillShares$Meter", name := "valueBehind", desc := "(I)I" } : MethodName)) ∈ lw_tbl := wd_2 141 rfl
theorem wx_382 : (Cond.selects "BillShares$Meter" ({ cls := "BillShares$Meter", name := "valueBehind", desc := "(I)I" } : MethodName) ({ cls := "BillShares$Meter", name := "valueBehind", desc := "(I)I" } : MethodName)) ∈ lw_tbl := wd_2 142 rfl
theorem wx_383 : (Cond.code ({ cls := "BillShares$Meter", name := "valueBehind", desc := "(I)I" } : MethodName) prog_4_method_7_code (2 : Nat) (Option.some FieldType.int)) ∈ lw_tbl := wd_2 143 rfl
theorem wx_384 : (Cond.stringRef "BillShares" (224 : Nat) "not behind the latest reading, or less than it") ∈ lw_tbl := wd_2 144 rfl
theorem wx_385 : (Cond.stringRef "BillShares" (229 : Nat) "the meter has 40 readings") ∈ lw_tbl := wd_2 145 rfl
theorem wx_386 : (Cond.methodLink "BillShares" (231 : Nat) ({ cls := "BillShares$Meter", name := "append", desc := "(III)I" } : MethodName)) ∈ lw_tbl := wd_2 146 rfl
theorem wx_387 : (Cond.instanceMethod ({ cls := "BillShares$Meter", name := "append", desc := "(III)I" } : MethodName)) ∈ lw_tbl := wd_2 147 rfl
theorem wx_388 : (Cond.selects "BillShares$Meter" ({ cls := "BillShares$Meter", name := "append", desc := "(III)I" } : MethodName) ({ cls := "BillShares$Meter", name := "append", desc := "(III)I" } : MethodName)) ∈ lw_tbl := wd_2 148 rfl
theorem wx_389 : (Cond.code ({ cls := "BillShares$Meter", name := "append", desc := "(III)I" } : MethodName) prog_4_method_3_code (4 : Nat) (Option.some FieldType.int)) ∈ lw_tbl := wd_2 149 rfl
theorem wx_390 : (Cond.methodLink "BillSharesLaw" (100 : Nat) ({ cls := "BillSharesLaw", name := "changed", desc := "(LBillShares;IIII[J)I" } : MethodName)) ∈ lw_tbl := wd_2 150 rfl
theorem wx_391 : (Cond.static ({ cls := "BillSharesLaw", name := "changed", desc := "(LBillShares;IIII[J)I" } : MethodName)) ∈ lw_tbl := wd_2 151 rfl
theorem wx_392 : (Cond.codeWith ({ cls := "BillSharesLaw", name := "changed", desc := "(LBillShares;IIII[J)I" } : MethodName) method_6_code (7 : Nat) (Option.some FieldType.int) [((0 : Nat), (14 : Nat), (17 : Nat), (13 : Nat)), ((0 : Nat), (14 : Nat), (21 : Nat), (15 : Nat))]) ∈ lw_tbl := wd_2 152 rfl
theorem wx_393 : (Cond.methodLink "BillSharesLaw" (25 : Nat) ({ cls := "BillShares", name := "changed", desc := "(IIII)I" } : MethodName)) ∈ lw_tbl := wd_2 153 rfl
theorem wx_394 : (Cond.instanceMethod ({ cls := "BillShares", name := "changed", desc := "(IIII)I" } : MethodName)) ∈ lw_tbl := wd_2 154 rfl
theorem wx_395 : (Cond.selects "BillShares" ({ cls := "BillShares", name := "changed", desc := "(IIII)I" } : MethodName) ({ cls := "BillShares", name := "changed", desc := "(IIII)I" } : MethodName)) ∈ lw_tbl := wd_2 155 rfl
theorem wx_396 : (Cond.code ({ cls := "BillShares", name := "changed", desc := "(IIII)I" } : MethodName) prog_1_method_5_code (5 : Nat) (Option.some FieldType.int)) ∈ lw_tbl := wd_2 156 rfl
theorem wx_397 : (Cond.methodLink "BillSharesLaw" (104 : Nat) ({ cls := "BillSharesLaw", name := "correct", desc := "(LBillShares;III[J)I" } : MethodName)) ∈ lw_tbl := wd_2 157 rfl
theorem wx_398 : (Cond.static ({ cls := "BillSharesLaw", name := "correct", desc := "(LBillShares;III[J)I" } : MethodName)) ∈ lw_tbl := wd_2 158 rfl
theorem wx_399 : (Cond.codeWith ({ cls := "BillSharesLaw", name := "correct", desc := "(LBillShares;III[J)I" } : MethodName) method_7_code (6 : Nat) (Option.some FieldType.int) [((0 : Nat), (12 : Nat), (15 : Nat), (13 : Nat))]) ∈ lw_tbl := wd_2 159 rfl
theorem wx_400 : (Cond.methodLink "BillSharesLaw" (29 : Nat) ({ cls := "BillShares", name := "correct", desc := "(III)I" } : MethodName)) ∈ lw_tbl := wd_2 160 rfl
theorem wx_401 : (Cond.instanceMethod ({ cls := "BillShares", name := "correct", desc := "(III)I" } : MethodName)) ∈ lw_tbl := wd_2 161 rfl
theorem wx_402 : (Cond.selects "BillShares" ({ cls := "BillShares", name := "correct", desc := "(III)I" } : MethodName) ({ cls := "BillShares", name := "correct", desc := "(III)I" } : MethodName)) ∈ lw_tbl := wd_2 162 rfl
theorem wx_403 : (Cond.code ({ cls := "BillShares", name := "correct", desc := "(III)I" } : MethodName) prog_1_method_6_code (6 : Nat) (Option.some FieldType.int)) ∈ lw_tbl := wd_2 163 rfl
theorem wx_404 : (Cond.methodLink "BillShares" (97 : Nat) ({ cls := "BillShares$Meter", name := "indexOfDay", desc := "(I)I" } : MethodName)) ∈ lw_tbl := wd_2 164 rfl
theorem wx_405 : (Cond.instanceMethod ({ cls := "BillShares$Meter", name := "indexOfDay", desc := "(I)I" } : MethodName)) ∈ lw_tbl := wd_2 165 rfl
theorem wx_406 : (Cond.selects "BillShares$Meter" ({ cls := "BillShares$Meter", name := "indexOfDay", desc := "(I)I" } : MethodName) ({ cls := "BillShares$Meter", name := "indexOfDay", desc := "(I)I" } : MethodName)) ∈ lw_tbl := wd_2 166 rfl
theorem wx_407 : (Cond.code ({ cls := "BillShares$Meter", name := "indexOfDay", desc := "(I)I" } : MethodName) prog_4_method_4_code (3 : Nat) (Option.some FieldType.int)) ∈ lw_tbl := wd_2 167 rfl
theorem wx_408 : (Cond.methodLink "BillShares" (100 : Nat) ({ cls := "BillShares$Meter", name := "fits", desc := "(II)Z" } : MethodName)) ∈ lw_tbl := wd_2 168 rfl
theorem wx_409 : (Cond.instanceMethod ({ cls := "BillShares$Meter", name := "fits", desc := "(II)Z" } : MethodName)) ∈ lw_tbl := wd_2 169 rfl
theorem wx_410 : (Cond.selects "BillShares$Meter" ({ cls := "BillShares$Meter", name := "fits", desc := "(II)Z" } : MethodName) ({ cls := "BillShares$Meter", name := "fits", desc := "(II)Z" } : MethodName)) ∈ lw_tbl := wd_2 170 rfl
theorem wx_411 : (Cond.code ({ cls := "BillShares$Meter", name := "fits", desc := "(II)Z" } : MethodName) prog_4_method_5_code (5 : Nat) (Option.some FieldType.boolean)) ∈ lw_tbl := wd_2 171 rfl
theorem wx_412 : (Cond.stringRef "BillShares" (106 : Nat) "no reading at this day, or values would fall") ∈ lw_tbl := wd_2 172 rfl
theorem wx_413 : (Cond.methodLink "BillShares" (109 : Nat) ({ cls := "BillShares$Meter", name := "replaceValue", desc := "(II)I" } : MethodName)) ∈ lw_tbl := wd_2 173 rfl
theorem wx_414 : (Cond.instanceMethod ({ cls := "BillShares$Meter", name := "replaceValue", desc := "(II)I" } : MethodName)) ∈ lw_tbl := wd_2 174 rfl
theorem wx_415 : (Cond.selects "BillShares$Meter" ({ cls := "BillShares$Meter", name := "replaceValue", desc := "(II)I" } : MethodName) ({ cls := "BillShares$Meter", name := "replaceValue", desc := "(II)I" } : MethodName)) ∈ lw_tbl := wd_2 175 rfl
theorem wx_416 : (Cond.code ({ cls := "BillShares$Meter", name := "replaceValue", desc := "(II)I" } : MethodName) prog_4_method_6_code (4 : Nat) (Option.some FieldType.int)) ∈ lw_tbl := wd_2 176 rfl
theorem wx_417 : (Cond.methodLink "BillSharesLaw" (107 : Nat) ({ cls := "BillSharesLaw", name := "tested", desc := "(LBillShares;II[J)I" } : MethodName)) ∈ lw_tbl := wd_2 177 rfl
theorem wx_418 : (Cond.static ({ cls := "BillSharesLaw", name := "tested", desc := "(LBillShares;II[J)I" } : MethodName)) ∈ lw_tbl := wd_2 178 rfl
theorem wx_419 : (Cond.codeWith ({ cls := "BillSharesLaw", name := "tested", desc := "(LBillShares;II[J)I" } : MethodName) method_8_code (5 : Nat) (Option.some FieldType.int) [((0 : Nat), (10 : Nat), (13 : Nat), (13 : Nat))]) ∈ lw_tbl := wd_2 179 rfl
theorem wx_420 : (Cond.methodLink "BillSharesLaw" (32 : Nat) ({ cls := "BillShares", name := "tested", desc := "(II)I" } : MethodName)) ∈ lw_tbl := wd_2 180 rfl
theorem wx_421 : (Cond.instanceMethod ({ cls := "BillShares", name := "tested", desc := "(II)I" } : MethodName)) ∈ lw_tbl := wd_2 181 rfl
theorem wx_422 : (Cond.selects "BillShares" ({ cls := "BillShares", name := "tested", desc := "(II)I" } : MethodName) ({ cls := "BillShares", name := "tested", desc := "(II)I" } : MethodName)) ∈ lw_tbl := wd_2 182 rfl
theorem wx_423 : (Cond.code ({ cls := "BillShares", name := "tested", desc := "(II)I" } : MethodName) prog_1_method_7_code (5 : Nat) (Option.some FieldType.int)) ∈ lw_tbl := wd_2 183 rfl
theorem wx_424 : (Cond.methodLink "BillSharesLaw" (110 : Nat) ({ cls := "BillSharesLaw", name := "cost", desc := "(LBillShares;III[J)I" } : MethodName)) ∈ lw_tbl := wd_2 184 rfl
theorem wx_425 : (Cond.static ({ cls := "BillSharesLaw", name := "cost", desc := "(LBillShares;III[J)I" } : MethodName)) ∈ lw_tbl := wd_2 185 rfl
theorem wx_426 : (Cond.codeWith ({ cls := "BillSharesLaw", name := "cost", desc := "(LBillShares;III[J)I" } : MethodName) method_9_code (6 : Nat) (Option.some FieldType.int) [((0 : Nat), (12 : Nat), (15 : Nat), (13 : Nat))]) ∈ lw_tbl := wd_2 186 rfl
theorem wx_427 : (Cond.methodLink "BillSharesLaw" (35 : Nat) ({ cls := "BillShares", name := "cost", desc := "(III)I" } : MethodName)) ∈ lw_tbl := wd_2 187 rfl
theorem wx_428 : (Cond.instanceMethod ({ cls := "BillShares", name := "cost", desc := "(III)I" } : MethodName)) ∈ lw_tbl := wd_2 188 rfl
theorem wx_429 : (Cond.selects "BillShares" ({ cls := "BillShares", name := "cost", desc := "(III)I" } : MethodName) ({ cls := "BillShares", name := "cost", desc := "(III)I" } : MethodName)) ∈ lw_tbl := wd_2 189 rfl
theorem wx_430 : (Cond.code ({ cls := "BillShares", name := "cost", desc := "(III)I" } : MethodName) prog_1_method_8_code (6 : Nat) (Option.some FieldType.int)) ∈ lw_tbl := wd_2 190 rfl
theorem wx_431 : (Cond.methodLink "BillShares" (117 : Nat) ({ cls := "BillShares", name := "checkYear", desc := "(I)V" } : MethodName)) ∈ lw_tbl := wd_2 191 rfl
theorem wx_432 : (Cond.static ({ cls := "BillShares", name := "checkYear", desc := "(I)V" } : MethodName)) ∈ lw_tbl := wd_2 192 rfl
theorem wx_433 : (Cond.code ({ cls := "BillShares", name := "checkYear", desc := "(I)V" } : MethodName) prog_1_method_23_code (1 : Nat) (Option.none : Option FieldType)) ∈ lw_tbl := wd_2 193 rfl
theorem wx_434 : (Cond.constant "BillShares" (120 : Nat) (1000000000 : Int32)) ∈ lw_tbl := wd_2 194 rfl
theorem wx_435 : (Cond.methodLink "BillSharesLaw" (113 : Nat) ({ cls := "BillSharesLaw", name := "base", desc := "(LBillShares;II[J)I" } : MethodName)) ∈ lw_tbl := wd_2 195 rfl
theorem wx_436 : (Cond.static ({ cls := "BillSharesLaw", name := "base", desc := "(LBillShares;II[J)I" } : MethodName)) ∈ lw_tbl := wd_2 196 rfl
theorem wx_437 : (Cond.codeWith ({ cls := "BillSharesLaw", name := "base", desc := "(LBillShares;II[J)I" } : MethodName) method_10_code (5 : Nat) (Option.some FieldType.int) [((0 : Nat), (10 : Nat), (13 : Nat), (13 : Nat))]) ∈ lw_tbl := wd_2 197 rfl
theorem wx_438 : (Cond.methodLink "BillSharesLaw" (38 : Nat) ({ cls := "BillShares", name := "base", desc := "(II)I" } : MethodName)) ∈ lw_tbl := wd_2 198 rfl
theorem wx_439 : (Cond.instanceMethod ({ cls := "BillShares", name := "base", desc := "(II)I" } : MethodName)) ∈ lw_tbl := wd_2 199 rfl
theorem wx_440 : (Cond.selects "BillShares" ({ cls := "BillShares", name := "base", desc := "(II)I" } : MethodName) ({ cls := "BillShares", name := "base", desc := "(II)I" } : MethodName)) ∈ lw_tbl := wd_2 200 rfl
theorem wx_441 : (Cond.code ({ cls := "BillShares", name := "base", desc := "(II)I" } : MethodName) prog_1_method_9_code (4 : Nat) (Option.some FieldType.int)) ∈ lw_tbl := wd_2 201 rfl
theorem wx_442 : (Cond.methodLink "BillSharesLaw" (116 : Nat) ({ cls := "BillSharesLaw", name := "moves", desc := "(LBillShares;II[J)I" } : MethodName)) ∈ lw_tbl := wd_2 202 rfl
theorem wx_443 : (Cond.static ({ cls := "BillSharesLaw", name := "moves", desc := "(LBillShares;II[J)I" } : MethodName)) ∈ lw_tbl := wd_2 203 rfl
theorem wx_444 : (Cond.codeWith ({ cls := "BillSharesLaw", name := "moves", desc := "(LBillShares;II[J)I" } : MethodName) method_11_code (5 : Nat) (Option.some FieldType.int) [((0 : Nat), (10 : Nat), (13 : Nat), (13 : Nat)), ((0 : Nat), (10 : Nat), (17 : Nat), (15 : Nat))]) ∈ lw_tbl := wd_2 204 rfl
theorem wx_445 : (Cond.methodLink "BillSharesLaw" (41 : Nat) ({ cls := "BillShares", name := "moves", desc := "(II)I" } : MethodName)) ∈ lw_tbl := wd_2 205 rfl
theorem wx_446 : (Cond.instanceMethod ({ cls := "BillShares", name := "moves", desc := "(II)I" } : MethodName)) ∈ lw_tbl := wd_2 206 rfl
theorem wx_447 : (Cond.selects "BillShares" ({ cls := "BillShares", name := "moves", desc := "(II)I" } : MethodName) ({ cls := "BillShares", name := "moves", desc := "(II)I" } : MethodName)) ∈ lw_tbl := wd_2 207 rfl
theorem wx_448 : (Cond.code ({ cls := "BillShares", name := "moves", desc := "(II)I" } : MethodName) prog_1_method_10_code (4 : Nat) (Option.some FieldType.int)) ∈ lw_tbl := wd_2 208 rfl
theorem wx_449 : (Cond.methodLink "BillShares" (121 : Nat) ({ cls := "BillShares$Flat", name := "latestMove", desc := "()I" } : MethodName)) ∈ lw_tbl := wd_2 209 rfl
theorem wx_450 : (Cond.instanceMethod ({ cls := "BillShares$Flat", name := "latestMove", desc := "()I" } : MethodName)) ∈ lw_tbl := wd_2 210 rfl
theorem wx_451 : (Cond.selects "BillShares$Flat" ({ cls := "BillShares$Flat", name := "latestMove", desc := "()I" } : MethodName) ({ cls := "BillShares$Flat", name := "latestMove", desc := "()I" } : MethodName)) ∈ lw_tbl := wd_2 211 rfl
theorem wx_452 : (Cond.code ({ cls := "BillShares$Flat", name := "latestMove", desc := "()I" } : MethodName) prog_3_method_2_code (1 : Nat) (Option.some FieldType.int)) ∈ lw_tbl := wd_2 212 rfl
theorem wx_453 : (Cond.methodLink "BillShares$Flat" (42 : Nat) ({ cls := "BillShares$Flat", name := "movedIn", desc := "(I)I" } : MethodName)) ∈ lw_tbl := wd_2 213 rfl
theorem wx_454 : (Cond.instanceMethod ({ cls := "BillShares$Flat", name := "movedIn", desc := "(I)I" } : MethodName)) ∈ lw_tbl := wd_2 214 rfl
theorem wx_455 : (Cond.selects "BillShares$Flat" ({ cls := "BillShares$Flat", name := "movedIn", desc := "(I)I" } : MethodName) ({ cls := "BillShares$Flat", name := "movedIn", desc := "(I)I" } : MethodName)) ∈ lw_tbl := wd_2 215 rfl
theorem wx_456 : (Cond.code ({ cls := "BillShares$Flat", name := "movedIn", desc := "(I)I" } : MethodName) prog_3_method_4_code (2 : Nat) (Option.some FieldType.int)) ∈ lw_tbl := wd_2 216 rfl
theorem wx_457 : (Cond.stringRef "BillShares" (124 : Nat) "not behind the day of the one before") ∈ lw_tbl := wd_2 217 rfl
theorem wx_458 : (Cond.stringRef "BillShares" (129 : Nat) "there were 12 in this flat") ∈ lw_tbl := wd_2 218 rfl
theorem wx_459 : (Cond.methodLink "BillShares" (131 : Nat) ({ cls := "BillShares$Flat", name := "takeIn", desc := "(I)I" } : MethodName)) ∈ lw_tbl := wd_2 219 rfl
theorem wx_460 : (Cond.instanceMethod ({ cls := "BillShares$Flat", name := "takeIn", desc := "(I)I" } : MethodName)) ∈ lw_tbl := wd_2 220 rfl
theorem wx_461 : (Cond.selects "BillShares$Flat" ({ cls := "BillShares$Flat", name := "takeIn", desc := "(I)I" } : MethodName) ({ cls := "BillShares$Flat", name := "takeIn", desc := "(I)I" } : MethodName)) ∈ lw_tbl := wd_2 221 rfl
theorem wx_462 : (Cond.code ({ cls := "BillShares$Flat", name := "takeIn", desc := "(I)I" } : MethodName) prog_3_method_3_code (2 : Nat) (Option.some FieldType.int)) ∈ lw_tbl := wd_2 222 rfl
theorem wx_463 : (Cond.methodLink "BillSharesLaw" (119 : Nat) ({ cls := "BillSharesLaw", name := "prepaid", desc := "(LBillShares;III[J)I" } : MethodName)) ∈ lw_tbl := wd_2 223 rfl
theorem wx_464 : (Cond.static ({ cls := "BillSharesLaw", name := "prepaid", desc := "(LBillShares;III[J)I" } : MethodName)) ∈ lw_tbl := wd_2 224 rfl
theorem wx_465 : (Cond.codeWith ({ cls := "BillSharesLaw", name := "prepaid", desc := "(LBillShares;III[J)I" } : MethodName) method_12_code (6 : Nat) (Option.some FieldType.int) [((0 : Nat), (11 : Nat), (14 : Nat), (13 : Nat))]) ∈ lw_tbl := wd_2 225 rfl
theorem wx_466 : (Cond.methodLink "BillSharesLaw" (44 : Nat) ({ cls := "BillShares", name := "prepaid", desc := "(III)J" } : MethodName)) ∈ lw_tbl := wd_2 226 rfl
theorem wx_467 : (Cond.instanceMethod ({ cls := "BillShares", name := "prepaid", desc := "(III)J" } : MethodName)) ∈ lw_tbl := wd_2 227 rfl
theorem wx_468 : (Cond.selects "BillShares" ({ cls := "BillShares", name := "prepaid", desc := "(III)J" } : MethodName) ({ cls := "BillShares", name := "prepaid", desc := "(III)J" } : MethodName)) ∈ lw_tbl := wd_2 228 rfl
theorem wx_469 : (Cond.code ({ cls := "BillShares", name := "prepaid", desc := "(III)J" } : MethodName) prog_1_method_11_code (5 : Nat) (Option.some FieldType.long)) ∈ lw_tbl := wd_2 229 rfl
theorem wx_470 : (Cond.methodLink "BillSharesLaw" (122 : Nat) ({ cls := "BillSharesLaw", name := "run", desc := "(LBillShares;I[J)I" } : MethodName)) ∈ lw_tbl := wd_2 230 rfl
theorem wx_471 : (Cond.static ({ cls := "BillSharesLaw", name := "run", desc := "(LBillShares;I[J)I" } : MethodName)) ∈ lw_tbl := wd_2 231 rfl
theorem wx_472 : (Cond.codeWith ({ cls := "BillSharesLaw", name := "run", desc := "(LBillShares;I[J)I" } : MethodName) method_13_code (4 : Nat) (Option.some FieldType.int) [((0 : Nat), (9 : Nat), (12 : Nat), (13 : Nat)), ((0 : Nat), (9 : Nat), (15 : Nat), (15 : Nat))]) ∈ lw_tbl := wd_2 232 rfl
theorem wx_473 : (Cond.methodLink "BillSharesLaw" (48 : Nat) ({ cls := "BillShares", name := "run", desc := "(I)I" } : MethodName)) ∈ lw_tbl := wd_2 233 rfl
theorem wx_474 : (Cond.instanceMethod ({ cls := "BillShares", name := "run", desc := "(I)I" } : MethodName)) ∈ lw_tbl := wd_2 234 rfl
theorem wx_475 : (Cond.selects "BillShares" ({ cls := "BillShares", name := "run", desc := "(I)I" } : MethodName) ({ cls := "BillShares", name := "run", desc := "(I)I" } : MethodName)) ∈ lw_tbl := wd_2 235 rfl
theorem wx_476 : (Cond.code ({ cls := "BillShares", name := "run", desc := "(I)I" } : MethodName) prog_1_method_12_code (3 : Nat) (Option.some FieldType.int)) ∈ lw_tbl := wd_2 236 rfl
theorem wx_477 : (Cond.methodLink "BillShares" (138 : Nat) ({ cls := "java/util/ArrayList", name := "isEmpty", desc := "()Z" } : MethodName)) ∈ lw_tbl := wd_2 237 rfl
theorem wx_478 : (Cond.instanceMethod ({ cls := "java/util/ArrayList", name := "isEmpty", desc := "()Z" } : MethodName)) ∈ lw_tbl := wd_2 238 rfl
theorem wx_479 : (Cond.selects "java/util/ArrayList" ({ cls := "java/util/ArrayList", name := "isEmpty", desc := "()Z" } : MethodName) ({ cls := "java/util/ArrayList", name := "isEmpty", desc := "()Z" } : MethodName)) ∈ lw_tbl := wd_2 239 rfl
theorem wx_480 : (Cond.code ({ cls := "java/util/ArrayList", name := "isEmpty", desc := "()Z" } : MethodName) prog_20_method_9_code (1 : Nat) (Option.some FieldType.boolean)) ∈ lw_tbl := wd_3 0 rfl
theorem wx_481 : (Cond.stringRef "BillShares" (142 : Nat) "no flats, or 50 editions") ∈ lw_tbl := wd_3 1 rfl
theorem wx_482 : (Cond.methodLink "BillShares" (144 : Nat) ({ cls := "BillShares", name := "openBills", desc := "(I)V" } : MethodName)) ∈ lw_tbl := wd_3 2 rfl
theorem wx_484 : (Cond.instanceMethod ({ cls := "BillShares", name := "openBills", desc := "(I)V" } : MethodName)) ∈ lw_tbl := wd_3 4 rfl
theorem wx_485 : (Cond.code ({ cls := "BillShares", name := "openBills", desc := "(I)V" } : MethodName) prog_1_method_33_code (4 : Nat) (Option.none : Option FieldType)) ∈ lw_tbl := wd_3 5 rfl
theorem wx_486 : (Cond.methodLink "BillShares" (235 : Nat) ({ cls := "BillShares$Flat", name := "billOf", desc := "(I)LBillShares$Bill;" } : MethodName)) ∈ lw_tbl := wd_3 6 rfl
theorem wx_487 : (Cond.instanceMethod ({ cls := "BillShares$Flat", name := "billOf", desc := "(I)LBillShares$Bill;" } : MethodName)) ∈ lw_tbl := wd_3 7 rfl
theorem wx_488 : (Cond.selects "BillShares$Flat" ({ cls := "BillShares$Flat", name := "billOf", desc := "(I)LBillShares$Bill;" } : MethodName) ({ cls := "BillShares$Flat", name := "billOf", desc := "(I)LBillShares$Bill;" } : MethodName)) ∈ lw_tbl := wd_3 8 rfl
theorem wx_489 : (Cond.code ({ cls := "BillShares$Flat", name := "billOf", desc := "(I)LBillShares$Bill;" } : MethodName) prog_3_method_7_code (2 : Nat) (Option.some (FieldType.object "BillShares$Bill"))) ∈ lw_tbl := wd_3 9 rfl
theorem wx_490 : (Cond.instantiable "BillShares$Bill" (3 : Nat)) ∈ lw_tbl := wd_3 10 rfl
theorem wx_491 : (Cond.methodLinkNest "BillShares$Flat" (49 : Nat) ({ cls := "BillShares$Bill", name := "<init>", desc := "()V" } : MethodName) "BillShares") ∈ lw_tbl := wd_3 11 rfl
theorem wx_492 : (Cond.instanceMethod ({ cls := "BillShares$Bill", name := "<init>", desc := "()V" } : MethodName)) ∈ lw_tbl := wd_3 12 rfl
theorem wx_493 : (Cond.code ({ cls := "BillShares$Bill", name := "<init>", desc := "()V" } : MethodName) prog_2_method_1_code (1 : Nat) (Option.none : Option FieldType)) ∈ lw_tbl := wd_3 13 rfl
theorem wx_494 : (Cond.methodLink "BillShares$Bill" (3 : Nat) ({ cls := "java/lang/Object", name := "<init>", desc := "()V" } : MethodName)) ∈ lw_tbl := wd_3 14 rfl
theorem wx_495 : (Cond.fieldLink "BillShares$Bill" (9 : Nat) "BillShares$Bill" "base" "[J") ∈ lw_tbl := wd_3 15 rfl
theorem wx_496 : (Cond.fieldLink "BillShares" (171 : Nat) "BillShares$Bill" "base" "[J") ∈ lw_tbl := wd_3 16 rfl
theorem wx_497 : (Cond.fieldLink "BillShares$Bill" (15 : Nat) "BillShares$Bill" "used" "[J") ∈ lw_tbl := wd_3 17 rfl
theorem wx_498 : (Cond.fieldLink "BillShares" (176 : Nat) "BillShares$Bill" "used" "[J") ∈ lw_tbl := wd_3 18 rfl
theorem wx_499 : (Cond.fieldLink "BillShares$Bill" (18 : Nat) "BillShares$Bill" "before" "J") ∈ lw_tbl := wd_3 19 rfl
theorem wx_500 : (Cond.fieldLink "BillShares" (190 : Nat) "BillShares$Bill" "before" "J") ∈ lw_tbl := wd_3 20 rfl
theorem wx_501 : (Cond.laysFinal "BillShares$Bill" "BillShares$Bill" "base" "[J") ∈ lw_tbl := wd_3 21 rfl
theorem wx_503 : (Cond.laysFinal "BillShares$Bill" "BillShares$Bill" "used" "[J") ∈ lw_tbl := wd_3 23 rfl
theorem wx_505 : (Cond.lays "BillShares$Bill" "BillShares$Bill" "before" "J") ∈ lw_tbl := wd_3 25 rfl
theorem wx_508 : (Cond.methodLink "BillShares" (179 : Nat) ({ cls := "BillShares$Bill", name := "total", desc := "()J" } : MethodName)) ∈ lw_tbl := wd_3 28 rfl
theorem wx_509 : (Cond.instanceMethod ({ cls := "BillShares$Bill", name := "total", desc := "()J" } : MethodName)) ∈ lw_tbl := wd_3 29 rfl
theorem wx_510 : (Cond.selects "BillShares$Bill" ({ cls := "BillShares$Bill", name := "total", desc := "()J" } : MethodName) ({ cls := "BillShares$Bill", name := "total", desc := "()J" } : MethodName)) ∈ lw_tbl := wd_3 30 rfl
theorem wx_511 : (Cond.code ({ cls := "BillShares$Bill", name := "total", desc := "()J" } : MethodName) prog_2_method_2_code (4 : Nat) (Option.some FieldType.long)) ∈ lw_tbl := wd_3 31 rfl
theorem wx_512 : (Cond.methodLink "BillShares" (147 : Nat) ({ cls := "BillShares", name := "shareOut", desc := "(II)V" } : MethodName)) ∈ lw_tbl := wd_3 32 rfl
theorem wx_514 : (Cond.instanceMethod ({ cls := "BillShares", name := "shareOut", desc := "(II)V" } : MethodName)) ∈ lw_tbl := wd_3 34 rfl
theorem wx_515 : (Cond.code ({ cls := "BillShares", name := "shareOut", desc := "(II)V" } : MethodName) prog_1_method_34_code (9 : Nat) (Option.none : Option FieldType)) ∈ lw_tbl := wd_3 35 rfl
theorem wx_516 : (Cond.constantLong "BillShares" (239 : Nat) (100 : Int64)) ∈ lw_tbl := wd_3 36 rfl
theorem wx_517 : (Cond.methodLink "BillShares" (241 : Nat) ({ cls := "BillShares", name := "portion", desc := "(JJJ)J" } : MethodName)) ∈ lw_tbl := wd_3 37 rfl
theorem wx_518 : (Cond.static ({ cls := "BillShares", name := "portion", desc := "(JJJ)J" } : MethodName)) ∈ lw_tbl := wd_3 38 rfl
theorem wx_519 : (Cond.code ({ cls := "BillShares", name := "portion", desc := "(JJJ)J" } : MethodName) prog_1_method_27_code (13 : Nat) (Option.some FieldType.long)) ∈ lw_tbl := wd_3 39 rfl
theorem wx_520 : (Cond.constantLong "BillShares" (196 : Nat) (8589934591 : Int64)) ∈ lw_tbl := wd_3 40 rfl
theorem wx_521 : (Cond.constantLong "BillShares" (198 : Nat) (8 : Int64)) ∈ lw_tbl := wd_3 41 rfl
theorem wx_522 : (Cond.constantLong "BillShares" (200 : Nat) (7 : Int64)) ∈ lw_tbl := wd_3 42 rfl
theorem wx_523 : (Cond.methodLink "BillShares" (245 : Nat) ({ cls := "BillShares", name := "weighByArea", desc := "()V" } : MethodName)) ∈ lw_tbl := wd_3 43 rfl
theorem wx_525 : (Cond.instanceMethod ({ cls := "BillShares", name := "weighByArea", desc := "()V" } : MethodName)) ∈ lw_tbl := wd_3 45 rfl
theorem wx_526 : (Cond.code ({ cls := "BillShares", name := "weighByArea", desc := "()V" } : MethodName) prog_1_method_35_code (3 : Nat) (Option.none : Option FieldType)) ∈ lw_tbl := wd_3 46 rfl
theorem wx_527 : (Cond.methodLink "BillShares" (248 : Nat) ({ cls := "BillShares", name := "dealOut", desc := "(J)V" } : MethodName)) ∈ lw_tbl := wd_3 47 rfl
theorem wx_529 : (Cond.instanceMethod ({ cls := "BillShares", name := "dealOut", desc := "(J)V" } : MethodName)) ∈ lw_tbl := wd_3 49 rfl
theorem wx_530 : (Cond.code ({ cls := "BillShares", name := "dealOut", desc := "(J)V" } : MethodName) prog_1_method_38_code (9 : Nat) (Option.none : Option FieldType)) ∈ lw_tbl := wd_3 50 rfl
theorem wx_531 : (Cond.methodLink "BillShares" (271 : Nat) ({ cls := "BillShares", name := "sumOfWeights", desc := "()J" } : MethodName)) ∈ lw_tbl := wd_3 51 rfl
theorem wx_533 : (Cond.instanceMethod ({ cls := "BillShares", name := "sumOfWeights", desc := "()J" } : MethodName)) ∈ lw_tbl := wd_3 53 rfl
theorem wx_534 : (Cond.code ({ cls := "BillShares", name := "sumOfWeights", desc := "()J" } : MethodName) prog_1_method_37_code (4 : Nat) (Option.some FieldType.long)) ∈ lw_tbl := wd_3 54 rfl
theorem wx_535 : (Cond.methodLink "BillShares" (255 : Nat) ({ cls := "BillShares", name := "weighByUse", desc := "(II)V" } : MethodName)) ∈ lw_tbl := wd_3 55 rfl
theorem wx_537 : (Cond.instanceMethod ({ cls := "BillShares", name := "weighByUse", desc := "(II)V" } : MethodName)) ∈ lw_tbl := wd_3 57 rfl
theorem wx_538 : (Cond.code ({ cls := "BillShares", name := "weighByUse", desc := "(II)V" } : MethodName) prog_1_method_36_code (9 : Nat) (Option.none : Option FieldType)) ∈ lw_tbl := wd_3 58 rfl
theorem wx_539 : (Cond.methodLink "BillShares" (165 : Nat) ({ cls := "BillShares$Flat", name := "whyBarred", desc := "(II)I" } : MethodName)) ∈ lw_tbl := wd_3 59 rfl
theorem wx_540 : (Cond.instanceMethod ({ cls := "BillShares$Flat", name := "whyBarred", desc := "(II)I" } : MethodName)) ∈ lw_tbl := wd_3 60 rfl
theorem wx_541 : (Cond.selects "BillShares$Flat" ({ cls := "BillShares$Flat", name := "whyBarred", desc := "(II)I" } : MethodName) ({ cls := "BillShares$Flat", name := "whyBarred", desc := "(II)I" } : MethodName)) ∈ lw_tbl := wd_3 61 rfl
theorem wx_542 : (Cond.code ({ cls := "BillShares$Flat", name := "whyBarred", desc := "(II)I" } : MethodName) prog_3_method_8_code (7 : Nat) (Option.some FieldType.int)) ∈ lw_tbl := wd_3 62 rfl
theorem wx_543 : (Cond.methodLink "BillShares$Flat" (50 : Nat) ({ cls := "java/util/ArrayList", name := "size", desc := "()I" } : MethodName)) ∈ lw_tbl := wd_3 63 rfl
theorem wx_544 : (Cond.methodLink "BillShares$Flat" (54 : Nat) ({ cls := "java/util/ArrayList", name := "get", desc := "(I)Ljava/lang/Object;" } : MethodName)) ∈ lw_tbl := wd_3 64 rfl
theorem wx_545 : (Cond.classLink "BillShares$Flat" (58 : Nat) "BillShares$Meter") ∈ lw_tbl := wd_3 65 rfl
theorem wx_546 : (Cond.methodLink "BillShares$Flat" (63 : Nat) ({ cls := "BillShares$Meter", name := "whyBarred", desc := "(I)I" } : MethodName)) ∈ lw_tbl := wd_3 66 rfl
theorem wx_547 : (Cond.instanceMethod ({ cls := "BillShares$Meter", name := "whyBarred", desc := "(I)I" } : MethodName)) ∈ lw_tbl := wd_3 67 rfl
theorem wx_548 : (Cond.selects "BillShares$Meter" ({ cls := "BillShares$Meter", name := "whyBarred", desc := "(I)I" } : MethodName) ({ cls := "BillShares$Meter", name := "whyBarred", desc := "(I)I" } : MethodName)) ∈ lw_tbl := wd_3 68 rfl
theorem wx_549 : (Cond.code ({ cls := "BillShares$Meter", name := "whyBarred", desc := "(I)I" } : MethodName) prog_4_method_8_code (2 : Nat) (Option.some FieldType.int)) ∈ lw_tbl := wd_3 69 rfl
theorem wx_550 : (Cond.methodLinkNest "BillShares$Meter" (41 : Nat) ({ cls := "BillShares", name := "startOf", desc := "(I)I" } : MethodName) "BillShares") ∈ lw_tbl := wd_3 70 rfl
theorem wx_551 : (Cond.static ({ cls := "BillShares", name := "startOf", desc := "(I)I" } : MethodName)) ∈ lw_tbl := wd_3 71 rfl
theorem wx_552 : (Cond.code ({ cls := "BillShares", name := "startOf", desc := "(I)I" } : MethodName) prog_1_method_25_code (1 : Nat) (Option.some FieldType.int)) ∈ lw_tbl := wd_3 72 rfl
theorem wx_553 : (Cond.methodLinkNest "BillShares$Meter" (44 : Nat) ({ cls := "BillShares", name := "endOf", desc := "(I)I" } : MethodName) "BillShares") ∈ lw_tbl := wd_3 73 rfl
theorem wx_554 : (Cond.static ({ cls := "BillShares", name := "endOf", desc := "(I)I" } : MethodName)) ∈ lw_tbl := wd_3 74 rfl
theorem wx_555 : (Cond.code ({ cls := "BillShares", name := "endOf", desc := "(I)I" } : MethodName) prog_1_method_26_code (1 : Nat) (Option.some FieldType.int)) ∈ lw_tbl := wd_3 75 rfl
theorem wx_556 : (Cond.methodLink "BillShares" (153 : Nat) ({ cls := "BillShares", name := "startOf", desc := "(I)I" } : MethodName)) ∈ lw_tbl := wd_3 76 rfl
theorem wx_557 : (Cond.methodLink "BillShares" (156 : Nat) ({ cls := "BillShares", name := "endOf", desc := "(I)I" } : MethodName)) ∈ lw_tbl := wd_3 77 rfl
theorem wx_558 : (Cond.methodLink "BillShares" (268 : Nat) ({ cls := "BillShares$Flat", name := "useBetween", desc := "(III)J" } : MethodName)) ∈ lw_tbl := wd_3 78 rfl
theorem wx_559 : (Cond.instanceMethod ({ cls := "BillShares$Flat", name := "useBetween", desc := "(III)J" } : MethodName)) ∈ lw_tbl := wd_3 79 rfl
theorem wx_560 : (Cond.selects "BillShares$Flat" ({ cls := "BillShares$Flat", name := "useBetween", desc := "(III)J" } : MethodName) ({ cls := "BillShares$Flat", name := "useBetween", desc := "(III)J" } : MethodName)) ∈ lw_tbl := wd_3 80 rfl
theorem wx_561 : (Cond.code ({ cls := "BillShares$Flat", name := "useBetween", desc := "(III)J" } : MethodName) prog_3_method_9_code (8 : Nat) (Option.some FieldType.long)) ∈ lw_tbl := wd_3 81 rfl
theorem wx_562 : (Cond.methodLink "BillShares$Flat" (66 : Nat) ({ cls := "BillShares$Meter", name := "useBetween", desc := "(II)J" } : MethodName)) ∈ lw_tbl := wd_3 82 rfl
theorem wx_563 : (Cond.instanceMethod ({ cls := "BillShares$Meter", name := "useBetween", desc := "(II)J" } : MethodName)) ∈ lw_tbl := wd_3 83 rfl
theorem wx_564 : (Cond.selects "BillShares$Meter" ({ cls := "BillShares$Meter", name := "useBetween", desc := "(II)J" } : MethodName) ({ cls := "BillShares$Meter", name := "useBetween", desc := "(II)J" } : MethodName)) ∈ lw_tbl := wd_3 84 rfl
theorem wx_565 : (Cond.code ({ cls := "BillShares$Meter", name := "useBetween", desc := "(II)J" } : MethodName) prog_4_method_9_code (6 : Nat) (Option.some FieldType.long)) ∈ lw_tbl := wd_3 85 rfl
theorem wx_566 : (Cond.methodLink "BillShares$Meter" (47 : Nat) ({ cls := "BillShares$Meter", name := "comesTo", desc := "(II)J" } : MethodName)) ∈ lw_tbl := wd_3 86 rfl
theorem wx_567 : (Cond.instanceMethod ({ cls := "BillShares$Meter", name := "comesTo", desc := "(II)J" } : MethodName)) ∈ lw_tbl := wd_3 87 rfl
theorem wx_568 : (Cond.selects "BillShares$Meter" ({ cls := "BillShares$Meter", name := "comesTo", desc := "(II)J" } : MethodName) ({ cls := "BillShares$Meter", name := "comesTo", desc := "(II)J" } : MethodName)) ∈ lw_tbl := wd_3 88 rfl
theorem wx_569 : (Cond.code ({ cls := "BillShares$Meter", name := "comesTo", desc := "(II)J" } : MethodName) prog_4_method_10_code (5 : Nat) (Option.some FieldType.long)) ∈ lw_tbl := wd_3 89 rfl
theorem wx_570 : (Cond.methodLinkNest "BillShares$Meter" (51 : Nat) ({ cls := "BillShares", name := "portion", desc := "(JJJ)J" } : MethodName) "BillShares") ∈ lw_tbl := wd_3 90 rfl
theorem wx_571 : (Cond.methodLink "BillSharesLaw" (126 : Nat) ({ cls := "BillSharesLaw", name := "use", desc := "(LBillShares;II[J)I" } : MethodName)) ∈ lw_tbl := wd_3 91 rfl
theorem wx_572 : (Cond.static ({ cls := "BillSharesLaw", name := "use", desc := "(LBillShares;II[J)I" } : MethodName)) ∈ lw_tbl := wd_3 92 rfl
theorem wx_573 : (Cond.codeWith ({ cls := "BillSharesLaw", name := "use", desc := "(LBillShares;II[J)I" } : MethodName) method_14_code (5 : Nat) (Option.some FieldType.int) [((0 : Nat), (9 : Nat), (12 : Nat), (13 : Nat))]) ∈ lw_tbl := wd_3 93 rfl
theorem wx_574 : (Cond.methodLink "BillSharesLaw" (52 : Nat) ({ cls := "BillShares", name := "use", desc := "(II)J" } : MethodName)) ∈ lw_tbl := wd_3 94 rfl
theorem wx_575 : (Cond.instanceMethod ({ cls := "BillShares", name := "use", desc := "(II)J" } : MethodName)) ∈ lw_tbl := wd_3 95 rfl
theorem wx_576 : (Cond.selects "BillShares" ({ cls := "BillShares", name := "use", desc := "(II)J" } : MethodName) ({ cls := "BillShares", name := "use", desc := "(II)J" } : MethodName)) ∈ lw_tbl := wd_3 96 rfl
theorem wx_577 : (Cond.code ({ cls := "BillShares", name := "use", desc := "(II)J" } : MethodName) prog_1_method_13_code (4 : Nat) (Option.some FieldType.long)) ∈ lw_tbl := wd_3 97 rfl
theorem wx_578 : (Cond.methodLink "BillShares" (150 : Nat) ({ cls := "BillShares$Meter", name := "whyBarred", desc := "(I)I" } : MethodName)) ∈ lw_tbl := wd_3 98 rfl
theorem wx_579 : (Cond.methodLink "BillShares" (159 : Nat) ({ cls := "BillShares$Meter", name := "useBetween", desc := "(II)J" } : MethodName)) ∈ lw_tbl := wd_3 99 rfl
theorem wx_580 : (Cond.constantLong "BillShares" (163 : Nat) (-1 : Int64)) ∈ lw_tbl := wd_3 100 rfl
theorem wx_581 : (Cond.methodLink "BillSharesLaw" (129 : Nat) ({ cls := "BillSharesLaw", name := "barred", desc := "(LBillShares;III[J)I" } : MethodName)) ∈ lw_tbl := wd_3 101 rfl
theorem wx_582 : (Cond.static ({ cls := "BillSharesLaw", name := "barred", desc := "(LBillShares;III[J)I" } : MethodName)) ∈ lw_tbl := wd_3 102 rfl
theorem wx_583 : (Cond.codeWith ({ cls := "BillSharesLaw", name := "barred", desc := "(LBillShares;III[J)I" } : MethodName) method_15_code (6 : Nat) (Option.some FieldType.int) [((0 : Nat), (12 : Nat), (15 : Nat), (13 : Nat))]) ∈ lw_tbl := wd_3 103 rfl
theorem wx_584 : (Cond.methodLink "BillSharesLaw" (56 : Nat) ({ cls := "BillShares", name := "barred", desc := "(III)I" } : MethodName)) ∈ lw_tbl := wd_3 104 rfl
theorem wx_585 : (Cond.instanceMethod ({ cls := "BillShares", name := "barred", desc := "(III)I" } : MethodName)) ∈ lw_tbl := wd_3 105 rfl
theorem wx_586 : (Cond.selects "BillShares" ({ cls := "BillShares", name := "barred", desc := "(III)I" } : MethodName) ({ cls := "BillShares", name := "barred", desc := "(III)I" } : MethodName)) ∈ lw_tbl := wd_3 106 rfl
theorem wx_587 : (Cond.code ({ cls := "BillShares", name := "barred", desc := "(III)I" } : MethodName) prog_1_method_14_code (5 : Nat) (Option.some FieldType.int)) ∈ lw_tbl := wd_3 107 rfl
theorem wx_588 : (Cond.methodLink "BillSharesLaw" (132 : Nat) ({ cls := "BillSharesLaw", name := "line", desc := "(LBillShares;IIII[J)I" } : MethodName)) ∈ lw_tbl := wd_3 108 rfl
theorem wx_589 : (Cond.static ({ cls := "BillSharesLaw", name := "line", desc := "(LBillShares;IIII[J)I" } : MethodName)) ∈ lw_tbl := wd_3 109 rfl
theorem wx_590 : (Cond.codeWith ({ cls := "BillSharesLaw", name := "line", desc := "(LBillShares;IIII[J)I" } : MethodName) method_16_code (7 : Nat) (Option.some FieldType.int) [((0 : Nat), (13 : Nat), (16 : Nat), (13 : Nat)), ((0 : Nat), (13 : Nat), (20 : Nat), (15 : Nat))]) ∈ lw_tbl := wd_3 110 rfl
theorem wx_591 : (Cond.methodLink "BillSharesLaw" (59 : Nat) ({ cls := "BillShares", name := "line", desc := "(IIII)J" } : MethodName)) ∈ lw_tbl := wd_3 111 rfl
theorem wx_592 : (Cond.instanceMethod ({ cls := "BillShares", name := "line", desc := "(IIII)J" } : MethodName)) ∈ lw_tbl := wd_3 112 rfl
theorem wx_593 : (Cond.selects "BillShares" ({ cls := "BillShares", name := "line", desc := "(IIII)J" } : MethodName) ({ cls := "BillShares", name := "line", desc := "(IIII)J" } : MethodName)) ∈ lw_tbl := wd_3 113 rfl
theorem wx_594 : (Cond.code ({ cls := "BillShares", name := "line", desc := "(IIII)J" } : MethodName) prog_1_method_15_code (7 : Nat) (Option.some FieldType.long)) ∈ lw_tbl := wd_3 114 rfl
theorem wx_595 : (Cond.methodLink "BillShares" (167 : Nat) ({ cls := "BillShares", name := "latestBill", desc := "(LBillShares$Flat;I)LBillShares$Bill;" } : MethodName)) ∈ lw_tbl := wd_3 115 rfl
theorem wx_597 : (Cond.instanceMethod ({ cls := "BillShares", name := "latestBill", desc := "(LBillShares$Flat;I)LBillShares$Bill;" } : MethodName)) ∈ lw_tbl := wd_3 117 rfl
theorem wx_598 : (Cond.code ({ cls := "BillShares", name := "latestBill", desc := "(LBillShares$Flat;I)LBillShares$Bill;" } : MethodName) prog_1_method_30_code (4 : Nat) (Option.some (FieldType.object "BillShares$Bill"))) ∈ lw_tbl := wd_3 118 rfl
theorem wx_599 : (Cond.stringRef "BillShares" (210 : Nat) "no run of this year") ∈ lw_tbl := wd_3 119 rfl
theorem wx_600 : (Cond.stringRef "BillShares" (216 : Nat) "the flat was not there in the latest run") ∈ lw_tbl := wd_3 120 rfl
theorem wx_601 : (Cond.methodLink "BillSharesLaw" (135 : Nat) ({ cls := "BillSharesLaw", name := "share", desc := "(LBillShares;II[J)I" } : MethodName)) ∈ lw_tbl := wd_3 121 rfl
theorem wx_602 : (Cond.static ({ cls := "BillSharesLaw", name := "share", desc := "(LBillShares;II[J)I" } : MethodName)) ∈ lw_tbl := wd_3 122 rfl
theorem wx_603 : (Cond.codeWith ({ cls := "BillSharesLaw", name := "share", desc := "(LBillShares;II[J)I" } : MethodName) method_17_code (5 : Nat) (Option.some FieldType.int) [((0 : Nat), (9 : Nat), (12 : Nat), (13 : Nat)), ((0 : Nat), (9 : Nat), (16 : Nat), (15 : Nat))]) ∈ lw_tbl := wd_3 123 rfl
theorem wx_604 : (Cond.methodLink "BillSharesLaw" (63 : Nat) ({ cls := "BillShares", name := "share", desc := "(II)J" } : MethodName)) ∈ lw_tbl := wd_3 124 rfl
theorem wx_605 : (Cond.instanceMethod ({ cls := "BillShares", name := "share", desc := "(II)J" } : MethodName)) ∈ lw_tbl := wd_3 125 rfl
theorem wx_606 : (Cond.selects "BillShares" ({ cls := "BillShares", name := "share", desc := "(II)J" } : MethodName) ({ cls := "BillShares", name := "share", desc := "(II)J" } : MethodName)) ∈ lw_tbl := wd_3 126 rfl
theorem wx_607 : (Cond.code ({ cls := "BillShares", name := "share", desc := "(II)J" } : MethodName) prog_1_method_16_code (3 : Nat) (Option.some FieldType.long)) ∈ lw_tbl := wd_3 127 rfl
theorem wx_608 : (Cond.methodLink "BillSharesLaw" (138 : Nat) ({ cls := "BillSharesLaw", name := "part", desc := "(LBillShares;III[J)I" } : MethodName)) ∈ lw_tbl := wd_3 128 rfl
theorem wx_609 : (Cond.static ({ cls := "BillSharesLaw", name := "part", desc := "(LBillShares;III[J)I" } : MethodName)) ∈ lw_tbl := wd_3 129 rfl
theorem wx_610 : (Cond.codeWith ({ cls := "BillSharesLaw", name := "part", desc := "(LBillShares;III[J)I" } : MethodName) method_18_code (6 : Nat) (Option.some FieldType.int) [((0 : Nat), (11 : Nat), (14 : Nat), (13 : Nat)), ((0 : Nat), (11 : Nat), (18 : Nat), (15 : Nat))]) ∈ lw_tbl := wd_3 130 rfl
theorem wx_611 : (Cond.methodLink "BillSharesLaw" (66 : Nat) ({ cls := "BillShares", name := "part", desc := "(III)J" } : MethodName)) ∈ lw_tbl := wd_3 131 rfl
theorem wx_612 : (Cond.instanceMethod ({ cls := "BillShares", name := "part", desc := "(III)J" } : MethodName)) ∈ lw_tbl := wd_3 132 rfl
theorem wx_613 : (Cond.selects "BillShares" ({ cls := "BillShares", name := "part", desc := "(III)J" } : MethodName) ({ cls := "BillShares", name := "part", desc := "(III)J" } : MethodName)) ∈ lw_tbl := wd_3 133 rfl
theorem wx_614 : (Cond.code ({ cls := "BillShares", name := "part", desc := "(III)J" } : MethodName) prog_1_method_17_code (10 : Nat) (Option.some FieldType.long)) ∈ lw_tbl := wd_3 134 rfl
theorem wx_615 : (Cond.methodLink "BillShares" (183 : Nat) ({ cls := "BillShares$Flat", name := "lastDwellerIn", desc := "(I)I" } : MethodName)) ∈ lw_tbl := wd_3 135 rfl
theorem wx_616 : (Cond.instanceMethod ({ cls := "BillShares$Flat", name := "lastDwellerIn", desc := "(I)I" } : MethodName)) ∈ lw_tbl := wd_3 136 rfl
theorem wx_617 : (Cond.selects "BillShares$Flat" ({ cls := "BillShares$Flat", name := "lastDwellerIn", desc := "(I)I" } : MethodName) ({ cls := "BillShares$Flat", name := "lastDwellerIn", desc := "(I)I" } : MethodName)) ∈ lw_tbl := wd_3 137 rfl
theorem wx_618 : (Cond.code ({ cls := "BillShares$Flat", name := "lastDwellerIn", desc := "(I)I" } : MethodName) prog_3_method_6_code (4 : Nat) (Option.some FieldType.int)) ∈ lw_tbl := wd_3 138 rfl
theorem wx_619 : (Cond.methodLinkNest "BillShares$Flat" (46 : Nat) ({ cls := "BillShares", name := "endOf", desc := "(I)I" } : MethodName) "BillShares") ∈ lw_tbl := wd_3 139 rfl
theorem wx_620 : (Cond.methodLink "BillShares" (186 : Nat) ({ cls := "BillShares", name := "partByFloors", desc := "(LBillShares$Flat;LBillShares$Bill;II)J" } : MethodName)) ∈ lw_tbl := wd_3 140 rfl
theorem wx_621 : (Cond.static ({ cls := "BillShares", name := "partByFloors", desc := "(LBillShares$Flat;LBillShares$Bill;II)J" } : MethodName)) ∈ lw_tbl := wd_3 141 rfl
theorem wx_622 : (Cond.code ({ cls := "BillShares", name := "partByFloors", desc := "(LBillShares$Flat;LBillShares$Bill;II)J" } : MethodName) prog_1_method_39_code (9 : Nat) (Option.some FieldType.long)) ∈ lw_tbl := wd_3 142 rfl
theorem wx_623 : (Cond.methodLink "BillShares" (274 : Nat) ({ cls := "BillShares$Flat", name := "movedIn", desc := "(I)I" } : MethodName)) ∈ lw_tbl := wd_3 143 rfl
theorem wx_624 : (Cond.methodLink "BillShares" (277 : Nat) ({ cls := "java/lang/Math", name := "max", desc := "(II)I" } : MethodName)) ∈ lw_tbl := wd_3 144 rfl
theorem wx_625 : (Cond.methodLink "BillShares" (282 : Nat) ({ cls := "BillShares$Flat", name := "movedOut", desc := "(I)I" } : MethodName)) ∈ lw_tbl := wd_3 145 rfl
theorem wx_626 : (Cond.instanceMethod ({ cls := "BillShares$Flat", name := "movedOut", desc := "(I)I" } : MethodName)) ∈ lw_tbl := wd_3 146 rfl
theorem wx_627 : (Cond.selects "BillShares$Flat" ({ cls := "BillShares$Flat", name := "movedOut", desc := "(I)I" } : MethodName) ({ cls := "BillShares$Flat", name := "movedOut", desc := "(I)I" } : MethodName)) ∈ lw_tbl := wd_3 147 rfl
theorem wx_628 : (Cond.code ({ cls := "BillShares$Flat", name := "movedOut", desc := "(I)I" } : MethodName) prog_3_method_5_code (2 : Nat) (Option.some FieldType.int)) ∈ lw_tbl := wd_3 148 rfl
theorem wx_629 : (Cond.methodLink "BillShares" (285 : Nat) ({ cls := "java/lang/Math", name := "min", desc := "(II)I" } : MethodName)) ∈ lw_tbl := wd_3 149 rfl
theorem wx_630 : (Cond.constantLong "BillShares" (288 : Nat) (365 : Int64)) ∈ lw_tbl := wd_3 150 rfl
theorem wx_631 : (Cond.methodLink "BillShares" (290 : Nat) ({ cls := "BillShares", name := "usedPartBetween", desc := "(LBillShares$Flat;JIIII)J" } : MethodName)) ∈ lw_tbl := wd_3 151 rfl
theorem wx_632 : (Cond.static ({ cls := "BillShares", name := "usedPartBetween", desc := "(LBillShares$Flat;JIIII)J" } : MethodName)) ∈ lw_tbl := wd_3 152 rfl
theorem wx_633 : (Cond.code ({ cls := "BillShares", name := "usedPartBetween", desc := "(LBillShares$Flat;JIIII)J" } : MethodName) prog_1_method_40_code (9 : Nat) (Option.some FieldType.long)) ∈ lw_tbl := wd_3 153 rfl
theorem wx_634 : (Cond.methodLink "BillSharesLaw" (141 : Nat) ({ cls := "BillSharesLaw", name := "balance", desc := "(LBillShares;II[J)I" } : MethodName)) ∈ lw_tbl := wd_3 154 rfl
theorem wx_635 : (Cond.static ({ cls := "BillSharesLaw", name := "balance", desc := "(LBillShares;II[J)I" } : MethodName)) ∈ lw_tbl := wd_3 155 rfl
theorem wx_636 : (Cond.codeWith ({ cls := "BillSharesLaw", name := "balance", desc := "(LBillShares;II[J)I" } : MethodName) method_19_code (5 : Nat) (Option.some FieldType.int) [((0 : Nat), (9 : Nat), (12 : Nat), (13 : Nat)), ((0 : Nat), (9 : Nat), (16 : Nat), (15 : Nat))]) ∈ lw_tbl := wd_3 156 rfl
theorem wx_637 : (Cond.methodLink "BillSharesLaw" (69 : Nat) ({ cls := "BillShares", name := "balance", desc := "(II)J" } : MethodName)) ∈ lw_tbl := wd_3 157 rfl
theorem wx_638 : (Cond.instanceMethod ({ cls := "BillShares", name := "balance", desc := "(II)J" } : MethodName)) ∈ lw_tbl := wd_3 158 rfl
theorem wx_639 : (Cond.selects "BillShares" ({ cls := "BillShares", name := "balance", desc := "(II)J" } : MethodName) ({ cls := "BillShares", name := "balance", desc := "(II)J" } : MethodName)) ∈ lw_tbl := wd_3 159 rfl
theorem wx_640 : (Cond.code ({ cls := "BillShares", name := "balance", desc := "(II)J" } : MethodName) prog_1_method_18_code (4 : Nat) (Option.some FieldType.long)) ∈ lw_tbl := wd_3 160 rfl
theorem wx_641 : (Cond.methodLink "BillSharesLaw" (144 : Nat) ({ cls := "BillSharesLaw", name := "difference", desc := "(LBillShares;II[J)I" } : MethodName)) ∈ lw_tbl := wd_3 161 rfl
theorem wx_642 : (Cond.static ({ cls := "BillSharesLaw", name := "difference", desc := "(LBillShares;II[J)I" } : MethodName)) ∈ lw_tbl := wd_3 162 rfl
theorem wx_643 : (Cond.codeWith ({ cls := "BillSharesLaw", name := "difference", desc := "(LBillShares;II[J)I" } : MethodName) method_20_code (5 : Nat) (Option.some FieldType.int) [((0 : Nat), (9 : Nat), (12 : Nat), (13 : Nat)), ((0 : Nat), (9 : Nat), (16 : Nat), (15 : Nat))]) ∈ lw_tbl := wd_3 163 rfl
theorem wx_644 : (Cond.methodLink "BillSharesLaw" (72 : Nat) ({ cls := "BillShares", name := "difference", desc := "(II)J" } : MethodName)) ∈ lw_tbl := wd_3 164 rfl
theorem wx_645 : (Cond.instanceMethod ({ cls := "BillShares", name := "difference", desc := "(II)J" } : MethodName)) ∈ lw_tbl := wd_3 165 rfl
theorem wx_646 : (Cond.selects "BillShares" ({ cls := "BillShares", name := "difference", desc := "(II)J" } : MethodName) ({ cls := "BillShares", name := "difference", desc := "(II)J" } : MethodName)) ∈ lw_tbl := wd_3 166 rfl
theorem wx_647 : (Cond.code ({ cls := "BillShares", name := "difference", desc := "(II)J" } : MethodName) prog_1_method_19_code (4 : Nat) (Option.some FieldType.long)) ∈ lw_tbl := wd_3 167 rfl
theorem wx_648 : (Cond.methodLink "BillSharesLaw" (147 : Nat) ({ cls := "BillSharesLaw", name := "edition", desc := "(LBillShares;I[J)I" } : MethodName)) ∈ lw_tbl := wd_3 168 rfl
theorem wx_649 : (Cond.static ({ cls := "BillSharesLaw", name := "edition", desc := "(LBillShares;I[J)I" } : MethodName)) ∈ lw_tbl := wd_3 169 rfl
theorem wx_650 : (Cond.codeWith ({ cls := "BillSharesLaw", name := "edition", desc := "(LBillShares;I[J)I" } : MethodName) method_21_code (4 : Nat) (Option.some FieldType.int) [((0 : Nat), (9 : Nat), (12 : Nat), (13 : Nat))]) ∈ lw_tbl := wd_3 170 rfl
theorem wx_651 : (Cond.methodLink "BillSharesLaw" (75 : Nat) ({ cls := "BillShares", name := "edition", desc := "(I)I" } : MethodName)) ∈ lw_tbl := wd_3 171 rfl
theorem wx_652 : (Cond.instanceMethod ({ cls := "BillShares", name := "edition", desc := "(I)I" } : MethodName)) ∈ lw_tbl := wd_3 172 rfl
theorem wx_653 : (Cond.selects "BillShares" ({ cls := "BillShares", name := "edition", desc := "(I)I" } : MethodName) ({ cls := "BillShares", name := "edition", desc := "(I)I" } : MethodName)) ∈ lw_tbl := wd_3 173 rfl
theorem wx_654 : (Cond.code ({ cls := "BillShares", name := "edition", desc := "(I)I" } : MethodName) prog_1_method_20_code (2 : Nat) (Option.some FieldType.int)) ∈ lw_tbl := wd_3 174 rfl
theorem wx_655 : (Cond.classLink "BillSharesLaw" (79 : Nat) "BillSharesModel") ∈ lw_tbl := wd_3 175 rfl
theorem wx_656 : (Cond.instantiable "BillSharesModel" (28 : Nat)) ∈ lw_tbl := wd_3 176 rfl
theorem wx_657 : (Cond.methodLink "BillSharesLaw" (81 : Nat) ({ cls := "BillSharesModel", name := "<init>", desc := "()V" } : MethodName)) ∈ lw_tbl := wd_3 177 rfl
theorem wx_658 : (Cond.instanceMethod ({ cls := "BillSharesModel", name := "<init>", desc := "()V" } : MethodName)) ∈ lw_tbl := wd_3 178 rfl
theorem wx_659 : (Cond.code ({ cls := "BillSharesModel", name := "<init>", desc := "()V" } : MethodName) prog_6_method_1_code (2 : Nat) (Option.none : Option FieldType)) ∈ lw_tbl := wd_3 179 rfl
theorem wx_660 : (Cond.methodLink "BillSharesModel" (1 : Nat) ({ cls := "java/lang/Object", name := "<init>", desc := "()V" } : MethodName)) ∈ lw_tbl := wd_3 180 rfl
theorem wx_661 : (Cond.fieldLink "BillSharesModel" (87 : Nat) "BillSharesModel" "code" "I") ∈ lw_tbl := wd_3 181 rfl
theorem wx_662 : (Cond.fieldLink "BillSharesModel" (96 : Nat) "BillSharesModel" "flats" "I") ∈ lw_tbl := wd_3 182 rfl
theorem wx_663 : (Cond.fieldLink "BillSharesModel" (7 : Nat) "BillSharesModel" "area" "[I") ∈ lw_tbl := wd_3 183 rfl
theorem wx_664 : (Cond.fieldLink "BillSharesModel" (13 : Nat) "BillSharesModel" "rank" "[I") ∈ lw_tbl := wd_3 184 rfl
theorem wx_665 : (Cond.fieldLink "BillSharesModel" (16 : Nat) "BillSharesModel" "lives" "[I") ∈ lw_tbl := wd_3 185 rfl
theorem wx_666 : (Cond.fieldLink "BillSharesModel" (19 : Nat) "BillSharesModel" "since" "[I") ∈ lw_tbl := wd_3 186 rfl
theorem wx_667 : (Cond.fieldLink "BillSharesModel" (22 : Nat) "BillSharesModel" "paid" "[J") ∈ lw_tbl := wd_3 187 rfl
theorem wx_668 : (Cond.fieldLink "BillSharesModel" (99 : Nat) "BillSharesModel" "meters" "I") ∈ lw_tbl := wd_3 188 rfl
theorem wx_669 : (Cond.fieldLink "BillSharesModel" (26 : Nat) "BillSharesModel" "flatOf" "[I") ∈ lw_tbl := wd_3 189 rfl
theorem wx_670 : (Cond.fieldLink "BillSharesModel" (29 : Nat) "BillSharesModel" "kindOf" "[I") ∈ lw_tbl := wd_3 190 rfl
theorem wx_671 : (Cond.fieldLink "BillSharesModel" (32 : Nat) "BillSharesModel" "above" "[I") ∈ lw_tbl := wd_3 191 rfl
theorem wx_672 : (Cond.fieldLink "BillSharesModel" (35 : Nat) "BillSharesModel" "below" "[I") ∈ lw_tbl := wd_3 192 rfl
theorem wx_673 : (Cond.fieldLink "BillSharesModel" (38 : Nat) "BillSharesModel" "tested" "[I") ∈ lw_tbl := wd_3 193 rfl
theorem wx_674 : (Cond.fieldLink "BillSharesModel" (41 : Nat) "BillSharesModel" "readings" "[I") ∈ lw_tbl := wd_3 194 rfl
theorem wx_675 : (Cond.fieldLink "BillSharesModel" (44 : Nat) "BillSharesModel" "day" "[I") ∈ lw_tbl := wd_3 195 rfl
theorem wx_676 : (Cond.fieldLink "BillSharesModel" (47 : Nat) "BillSharesModel" "value" "[I") ∈ lw_tbl := wd_3 196 rfl
theorem wx_677 : (Cond.fieldLink "BillSharesModel" (50 : Nat) "BillSharesModel" "goes" "[I") ∈ lw_tbl := wd_3 197 rfl
theorem wx_678 : (Cond.fieldLink "BillSharesModel" (53 : Nat) "BillSharesModel" "renewed" "[Z") ∈ lw_tbl := wd_3 198 rfl
theorem wx_679 : (Cond.fieldLink "BillSharesModel" (57 : Nat) "BillSharesModel" "cost" "[I") ∈ lw_tbl := wd_3 199 rfl
theorem wx_680 : (Cond.fieldLink "BillSharesModel" (60 : Nat) "BillSharesModel" "base" "[I") ∈ lw_tbl := wd_3 200 rfl
theorem wx_681 : (Cond.fieldLink "BillSharesModel" (63 : Nat) "BillSharesModel" "edition" "[I") ∈ lw_tbl := wd_3 201 rfl
theorem wx_682 : (Cond.fieldLink "BillSharesModel" (66 : Nat) "BillSharesModel" "there" "[I") ∈ lw_tbl := wd_3 202 rfl
theorem wx_683 : (Cond.fieldLink "BillSharesModel" (69 : Nat) "BillSharesModel" "thereBefore" "[I") ∈ lw_tbl := wd_3 203 rfl
theorem wx_684 : (Cond.fieldLink "BillSharesModel" (72 : Nat) "BillSharesModel" "basePart" "[J") ∈ lw_tbl := wd_3 204 rfl
theorem wx_685 : (Cond.fieldLink "BillSharesModel" (75 : Nat) "BillSharesModel" "usedPart" "[J") ∈ lw_tbl := wd_3 205 rfl
theorem wx_686 : (Cond.fieldLink "BillSharesModel" (78 : Nat) "BillSharesModel" "shareBefore" "[J") ∈ lw_tbl := wd_3 206 rfl
theorem wx_687 : (Cond.fieldLink "BillSharesModel" (81 : Nat) "BillSharesModel" "numbers" "[J") ∈ lw_tbl := wd_3 207 rfl
theorem wx_688 : (Cond.fieldLink "BillSharesModel" (84 : Nat) "BillSharesModel" "gets" "[J") ∈ lw_tbl := wd_3 208 rfl
theorem wx_689 : (Cond.lays "BillSharesModel" "BillSharesModel" "code" "I") ∈ lw_tbl := wd_3 209 rfl
theorem wx_691 : (Cond.lays "BillSharesModel" "BillSharesModel" "flats" "I") ∈ lw_tbl := wd_3 211 rfl
theorem wx_693 : (Cond.laysFinal "BillSharesModel" "BillSharesModel" "area" "[I") ∈ lw_tbl := wd_3 213 rfl
theorem wx_695 : (Cond.laysFinal "BillSharesModel" "BillSharesModel" "rank" "[I") ∈ lw_tbl := wd_3 215 rfl
theorem wx_697 : (Cond.laysFinal "BillSharesModel" "BillSharesModel" "lives" "[I") ∈ lw_tbl := wd_3 217 rfl
theorem wx_699 : (Cond.laysFinal "BillSharesModel" "BillSharesModel" "since" "[I") ∈ lw_tbl := wd_3 219 rfl
theorem wx_701 : (Cond.laysFinal "BillSharesModel" "BillSharesModel" "paid" "[J") ∈ lw_tbl := wd_3 221 rfl
theorem wx_703 : (Cond.lays "BillSharesModel" "BillSharesModel" "meters" "I") ∈ lw_tbl := wd_3 223 rfl
theorem wx_705 : (Cond.laysFinal "BillSharesModel" "BillSharesModel" "flatOf" "[I") ∈ lw_tbl := wd_3 225 rfl
theorem wx_707 : (Cond.laysFinal "BillSharesModel" "BillSharesModel" "kindOf" "[I") ∈ lw_tbl := wd_3 227 rfl
theorem wx_709 : (Cond.laysFinal "BillSharesModel" "BillSharesModel" "above" "[I") ∈ lw_tbl := wd_3 229 rfl
theorem wx_711 : (Cond.laysFinal "BillSharesModel" "BillSharesModel" "below" "[I") ∈ lw_tbl := wd_3 231 rfl
theorem wx_713 : (Cond.laysFinal "BillSharesModel" "BillSharesModel" "tested" "[I") ∈ lw_tbl := wd_3 233 rfl
theorem wx_715 : (Cond.laysFinal "BillSharesModel" "BillSharesModel" "readings" "[I") ∈ lw_tbl := wd_3 235 rfl
theorem wx_717 : (Cond.laysFinal "BillSharesModel" "BillSharesModel" "day" "[I") ∈ lw_tbl := wd_3 237 rfl
theorem wx_719 : (Cond.laysFinal "BillSharesModel" "BillSharesModel" "value" "[I") ∈ lw_tbl := wd_3 239 rfl
theorem wx_721 : (Cond.laysFinal "BillSharesModel" "BillSharesModel" "goes" "[I") ∈ lw_tbl := wd_4 1 rfl
theorem wx_723 : (Cond.laysFinal "BillSharesModel" "BillSharesModel" "renewed" "[Z") ∈ lw_tbl := wd_4 3 rfl
theorem wx_725 : (Cond.laysFinal "BillSharesModel" "BillSharesModel" "cost" "[I") ∈ lw_tbl := wd_4 5 rfl
theorem wx_727 : (Cond.laysFinal "BillSharesModel" "BillSharesModel" "base" "[I") ∈ lw_tbl := wd_4 7 rfl
theorem wx_729 : (Cond.laysFinal "BillSharesModel" "BillSharesModel" "edition" "[I") ∈ lw_tbl := wd_4 9 rfl
theorem wx_731 : (Cond.laysFinal "BillSharesModel" "BillSharesModel" "there" "[I") ∈ lw_tbl := wd_4 11 rfl
theorem wx_733 : (Cond.laysFinal "BillSharesModel" "BillSharesModel" "thereBefore" "[I") ∈ lw_tbl := wd_4 13 rfl
theorem wx_735 : (Cond.laysFinal "BillSharesModel" "BillSharesModel" "basePart" "[J") ∈ lw_tbl := wd_4 15 rfl
theorem wx_737 : (Cond.laysFinal "BillSharesModel" "BillSharesModel" "usedPart" "[J") ∈ lw_tbl := wd_4 17 rfl
theorem wx_739 : (Cond.laysFinal "BillSharesModel" "BillSharesModel" "shareBefore" "[J") ∈ lw_tbl := wd_4 19 rfl
theorem wx_741 : (Cond.laysFinal "BillSharesModel" "BillSharesModel" "numbers" "[J") ∈ lw_tbl := wd_4 21 rfl
theorem wx_743 : (Cond.laysFinal "BillSharesModel" "BillSharesModel" "gets" "[J") ∈ lw_tbl := wd_4 23 rfl
theorem wx_746 : (Cond.arrayClass FieldType.boolean) ∈ lw_tbl := wd_4 26 rfl
theorem wx_747 : (Cond.methodLink "BillSharesLaw" (88 : Nat) ({ cls := "BillSharesModel", name := "thrown", desc := "()I" } : MethodName)) ∈ lw_tbl := wd_4 27 rfl
theorem wx_748 : (Cond.instanceMethod ({ cls := "BillSharesModel", name := "thrown", desc := "()I" } : MethodName)) ∈ lw_tbl := wd_4 28 rfl
theorem wx_749 : (Cond.selects "BillSharesModel" ({ cls := "BillSharesModel", name := "thrown", desc := "()I" } : MethodName) ({ cls := "BillSharesModel", name := "thrown", desc := "()I" } : MethodName)) ∈ lw_tbl := wd_4 29 rfl
theorem wx_750 : (Cond.code ({ cls := "BillSharesModel", name := "thrown", desc := "()I" } : MethodName) prog_6_method_2_code (1 : Nat) (Option.some FieldType.int)) ∈ lw_tbl := wd_4 30 rfl
theorem wx_751 : (Cond.methodLink "BillSharesLaw" (87 : Nat) ({ cls := "BillSharesModel", name := "flat", desc := "(II)I" } : MethodName)) ∈ lw_tbl := wd_4 31 rfl
theorem wx_752 : (Cond.instanceMethod ({ cls := "BillSharesModel", name := "flat", desc := "(II)I" } : MethodName)) ∈ lw_tbl := wd_4 32 rfl
theorem wx_753 : (Cond.selects "BillSharesModel" ({ cls := "BillSharesModel", name := "flat", desc := "(II)I" } : MethodName) ({ cls := "BillSharesModel", name := "flat", desc := "(II)I" } : MethodName)) ∈ lw_tbl := wd_4 33 rfl
theorem wx_754 : (Cond.code ({ cls := "BillSharesModel", name := "flat", desc := "(II)I" } : MethodName) prog_6_method_8_code (3 : Nat) (Option.some FieldType.int)) ∈ lw_tbl := wd_4 34 rfl
theorem wx_755 : (Cond.methodLink "BillSharesModel" (92 : Nat) ({ cls := "BillSharesModel", name := "isIn", desc := "(III)Z" } : MethodName)) ∈ lw_tbl := wd_4 35 rfl
theorem wx_756 : (Cond.static ({ cls := "BillSharesModel", name := "isIn", desc := "(III)Z" } : MethodName)) ∈ lw_tbl := wd_4 36 rfl
theorem wx_757 : (Cond.code ({ cls := "BillSharesModel", name := "isIn", desc := "(III)Z" } : MethodName) prog_6_method_4_code (3 : Nat) (Option.some FieldType.boolean)) ∈ lw_tbl := wd_4 37 rfl
theorem wx_758 : (Cond.methodLink "BillSharesModel" (102 : Nat) ({ cls := "BillSharesModel", name := "allows", desc := "(ZZ)Z" } : MethodName)) ∈ lw_tbl := wd_4 38 rfl
theorem wx_760 : (Cond.instanceMethod ({ cls := "BillSharesModel", name := "allows", desc := "(ZZ)Z" } : MethodName)) ∈ lw_tbl := wd_4 40 rfl
theorem wx_761 : (Cond.code ({ cls := "BillSharesModel", name := "allows", desc := "(ZZ)Z" } : MethodName) prog_6_method_3_code (3 : Nat) (Option.some FieldType.boolean)) ∈ lw_tbl := wd_4 41 rfl
theorem wx_762 : (Cond.methodLink "BillSharesLaw" (95 : Nat) ({ cls := "BillSharesModel", name := "meter", desc := "(IIIII)I" } : MethodName)) ∈ lw_tbl := wd_4 42 rfl
theorem wx_763 : (Cond.instanceMethod ({ cls := "BillSharesModel", name := "meter", desc := "(IIIII)I" } : MethodName)) ∈ lw_tbl := wd_4 43 rfl
theorem wx_764 : (Cond.selects "BillSharesModel" ({ cls := "BillSharesModel", name := "meter", desc := "(IIIII)I" } : MethodName) ({ cls := "BillSharesModel", name := "meter", desc := "(IIIII)I" } : MethodName)) ∈ lw_tbl := wd_4 44 rfl
theorem wx_765 : (Cond.code ({ cls := "BillSharesModel", name := "meter", desc := "(IIIII)I" } : MethodName) prog_6_method_9_code (7 : Nat) (Option.some FieldType.int)) ∈ lw_tbl := wd_4 45 rfl
theorem wx_766 : (Cond.methodLink "BillSharesModel" (106 : Nat) ({ cls := "BillSharesModel", name := "isFlat", desc := "(I)Z" } : MethodName)) ∈ lw_tbl := wd_4 46 rfl
theorem wx_768 : (Cond.instanceMethod ({ cls := "BillSharesModel", name := "isFlat", desc := "(I)Z" } : MethodName)) ∈ lw_tbl := wd_4 48 rfl
theorem wx_769 : (Cond.code ({ cls := "BillSharesModel", name := "isFlat", desc := "(I)Z" } : MethodName) prog_6_method_6_code (2 : Nat) (Option.some FieldType.boolean)) ∈ lw_tbl := wd_4 49 rfl
theorem wx_770 : (Cond.methodLink "BillSharesLaw" (99 : Nat) ({ cls := "BillSharesModel", name := "reading", desc := "(III)I" } : MethodName)) ∈ lw_tbl := wd_4 50 rfl
theorem wx_771 : (Cond.instanceMethod ({ cls := "BillSharesModel", name := "reading", desc := "(III)I" } : MethodName)) ∈ lw_tbl := wd_4 51 rfl
theorem wx_772 : (Cond.selects "BillSharesModel" ({ cls := "BillSharesModel", name := "reading", desc := "(III)I" } : MethodName) ({ cls := "BillSharesModel", name := "reading", desc := "(III)I" } : MethodName)) ∈ lw_tbl := wd_4 52 rfl
theorem wx_773 : (Cond.code ({ cls := "BillSharesModel", name := "reading", desc := "(III)I" } : MethodName) prog_6_method_11_code (4 : Nat) (Option.some FieldType.int)) ∈ lw_tbl := wd_4 53 rfl
theorem wx_774 : (Cond.methodLink "BillSharesModel" (116 : Nat) ({ cls := "BillSharesModel", name := "put", desc := "(IIIIZ)I" } : MethodName)) ∈ lw_tbl := wd_4 54 rfl
theorem wx_776 : (Cond.instanceMethod ({ cls := "BillSharesModel", name := "put", desc := "(IIIIZ)I" } : MethodName)) ∈ lw_tbl := wd_4 56 rfl
theorem wx_777 : (Cond.code ({ cls := "BillSharesModel", name := "put", desc := "(IIIIZ)I" } : MethodName) prog_6_method_10_code (8 : Nat) (Option.some FieldType.int)) ∈ lw_tbl := wd_4 57 rfl
theorem wx_778 : (Cond.methodLink "BillSharesModel" (110 : Nat) ({ cls := "BillSharesModel", name := "isMeter", desc := "(I)Z" } : MethodName)) ∈ lw_tbl := wd_4 58 rfl
theorem wx_780 : (Cond.instanceMethod ({ cls := "BillSharesModel", name := "isMeter", desc := "(I)Z" } : MethodName)) ∈ lw_tbl := wd_4 60 rfl
theorem wx_781 : (Cond.code ({ cls := "BillSharesModel", name := "isMeter", desc := "(I)Z" } : MethodName) prog_6_method_7_code (2 : Nat) (Option.some FieldType.boolean)) ∈ lw_tbl := wd_4 61 rfl
theorem wx_782 : (Cond.methodLink "BillSharesModel" (113 : Nat) ({ cls := "BillSharesModel", name := "isValue", desc := "(I)Z" } : MethodName)) ∈ lw_tbl := wd_4 62 rfl
theorem wx_783 : (Cond.static ({ cls := "BillSharesModel", name := "isValue", desc := "(I)Z" } : MethodName)) ∈ lw_tbl := wd_4 63 rfl
theorem wx_784 : (Cond.code ({ cls := "BillSharesModel", name := "isValue", desc := "(I)Z" } : MethodName) prog_6_method_5_code (1 : Nat) (Option.some FieldType.boolean)) ∈ lw_tbl := wd_4 64 rfl
theorem wx_785 : (Cond.constant "BillSharesModel" (91 : Nat) (10000000 : Int32)) ∈ lw_tbl := wd_4 65 rfl
theorem wx_786 : (Cond.methodLink "BillSharesLaw" (103 : Nat) ({ cls := "BillSharesModel", name := "changed", desc := "(IIII)I" } : MethodName)) ∈ lw_tbl := wd_4 66 rfl
theorem wx_787 : (Cond.instanceMethod ({ cls := "BillSharesModel", name := "changed", desc := "(IIII)I" } : MethodName)) ∈ lw_tbl := wd_4 67 rfl
theorem wx_788 : (Cond.selects "BillSharesModel" ({ cls := "BillSharesModel", name := "changed", desc := "(IIII)I" } : MethodName) ({ cls := "BillSharesModel", name := "changed", desc := "(IIII)I" } : MethodName)) ∈ lw_tbl := wd_4 68 rfl
theorem wx_789 : (Cond.code ({ cls := "BillSharesModel", name := "changed", desc := "(IIII)I" } : MethodName) prog_6_method_12_code (5 : Nat) (Option.some FieldType.int)) ∈ lw_tbl := wd_4 69 rfl
theorem wx_790 : (Cond.methodLink "BillSharesLaw" (106 : Nat) ({ cls := "BillSharesModel", name := "correct", desc := "(III)I" } : MethodName)) ∈ lw_tbl := wd_4 70 rfl
theorem wx_791 : (Cond.instanceMethod ({ cls := "BillSharesModel", name := "correct", desc := "(III)I" } : MethodName)) ∈ lw_tbl := wd_4 71 rfl
theorem wx_792 : (Cond.selects "BillSharesModel" ({ cls := "BillSharesModel", name := "correct", desc := "(III)I" } : MethodName) ({ cls := "BillSharesModel", name := "correct", desc := "(III)I" } : MethodName)) ∈ lw_tbl := wd_4 72 rfl
theorem wx_793 : (Cond.code ({ cls := "BillSharesModel", name := "correct", desc := "(III)I" } : MethodName) prog_6_method_13_code (7 : Nat) (Option.some FieldType.int)) ∈ lw_tbl := wd_4 73 rfl
theorem wx_794 : (Cond.methodLink "BillSharesLaw" (109 : Nat) ({ cls := "BillSharesModel", name := "tested", desc := "(II)I" } : MethodName)) ∈ lw_tbl := wd_4 74 rfl
theorem wx_795 : (Cond.instanceMethod ({ cls := "BillSharesModel", name := "tested", desc := "(II)I" } : MethodName)) ∈ lw_tbl := wd_4 75 rfl
theorem wx_796 : (Cond.selects "BillSharesModel" ({ cls := "BillSharesModel", name := "tested", desc := "(II)I" } : MethodName) ({ cls := "BillSharesModel", name := "tested", desc := "(II)I" } : MethodName)) ∈ lw_tbl := wd_4 76 rfl
theorem wx_797 : (Cond.code ({ cls := "BillSharesModel", name := "tested", desc := "(II)I" } : MethodName) prog_6_method_14_code (4 : Nat) (Option.some FieldType.int)) ∈ lw_tbl := wd_4 77 rfl
theorem wx_798 : (Cond.methodLink "BillSharesLaw" (112 : Nat) ({ cls := "BillSharesModel", name := "cost", desc := "(III)I" } : MethodName)) ∈ lw_tbl := wd_4 78 rfl
theorem wx_799 : (Cond.instanceMethod ({ cls := "BillSharesModel", name := "cost", desc := "(III)I" } : MethodName)) ∈ lw_tbl := wd_4 79 rfl
theorem wx_800 : (Cond.selects "BillSharesModel" ({ cls := "BillSharesModel", name := "cost", desc := "(III)I" } : MethodName) ({ cls := "BillSharesModel", name := "cost", desc := "(III)I" } : MethodName)) ∈ lw_tbl := wd_4 80 rfl
theorem wx_801 : (Cond.code ({ cls := "BillSharesModel", name := "cost", desc := "(III)I" } : MethodName) prog_6_method_15_code (5 : Nat) (Option.some FieldType.int)) ∈ lw_tbl := wd_4 81 rfl
theorem wx_802 : (Cond.constant "BillSharesModel" (120 : Nat) (1000000000 : Int32)) ∈ lw_tbl := wd_4 82 rfl
theorem wx_803 : (Cond.methodLink "BillSharesLaw" (115 : Nat) ({ cls := "BillSharesModel", name := "base", desc := "(II)I" } : MethodName)) ∈ lw_tbl := wd_4 83 rfl
theorem wx_804 : (Cond.instanceMethod ({ cls := "BillSharesModel", name := "base", desc := "(II)I" } : MethodName)) ∈ lw_tbl := wd_4 84 rfl
theorem wx_805 : (Cond.selects "BillSharesModel" ({ cls := "BillSharesModel", name := "base", desc := "(II)I" } : MethodName) ({ cls := "BillSharesModel", name := "base", desc := "(II)I" } : MethodName)) ∈ lw_tbl := wd_4 85 rfl
theorem wx_806 : (Cond.code ({ cls := "BillSharesModel", name := "base", desc := "(II)I" } : MethodName) prog_6_method_16_code (4 : Nat) (Option.some FieldType.int)) ∈ lw_tbl := wd_4 86 rfl
theorem wx_807 : (Cond.methodLink "BillSharesLaw" (118 : Nat) ({ cls := "BillSharesModel", name := "moves", desc := "(II)I" } : MethodName)) ∈ lw_tbl := wd_4 87 rfl
theorem wx_808 : (Cond.instanceMethod ({ cls := "BillSharesModel", name := "moves", desc := "(II)I" } : MethodName)) ∈ lw_tbl := wd_4 88 rfl
theorem wx_809 : (Cond.selects "BillSharesModel" ({ cls := "BillSharesModel", name := "moves", desc := "(II)I" } : MethodName) ({ cls := "BillSharesModel", name := "moves", desc := "(II)I" } : MethodName)) ∈ lw_tbl := wd_4 89 rfl
theorem wx_810 : (Cond.code ({ cls := "BillSharesModel", name := "moves", desc := "(II)I" } : MethodName) prog_6_method_17_code (4 : Nat) (Option.some FieldType.int)) ∈ lw_tbl := wd_4 90 rfl
theorem wx_811 : (Cond.methodLink "BillSharesLaw" (121 : Nat) ({ cls := "BillSharesModel", name := "prepaid", desc := "(III)J" } : MethodName)) ∈ lw_tbl := wd_4 91 rfl
theorem wx_812 : (Cond.instanceMethod ({ cls := "BillSharesModel", name := "prepaid", desc := "(III)J" } : MethodName)) ∈ lw_tbl := wd_4 92 rfl
theorem wx_813 : (Cond.selects "BillSharesModel" ({ cls := "BillSharesModel", name := "prepaid", desc := "(III)J" } : MethodName) ({ cls := "BillSharesModel", name := "prepaid", desc := "(III)J" } : MethodName)) ∈ lw_tbl := wd_4 93 rfl
theorem wx_814 : (Cond.code ({ cls := "BillSharesModel", name := "prepaid", desc := "(III)J" } : MethodName) prog_6_method_18_code (4 : Nat) (Option.some FieldType.long)) ∈ lw_tbl := wd_4 94 rfl
theorem wx_815 : (Cond.methodLink "BillSharesLaw" (125 : Nat) ({ cls := "BillSharesModel", name := "run", desc := "(I)I" } : MethodName)) ∈ lw_tbl := wd_4 95 rfl
theorem wx_816 : (Cond.instanceMethod ({ cls := "BillSharesModel", name := "run", desc := "(I)I" } : MethodName)) ∈ lw_tbl := wd_4 96 rfl
theorem wx_817 : (Cond.selects "BillSharesModel" ({ cls := "BillSharesModel", name := "run", desc := "(I)I" } : MethodName) ({ cls := "BillSharesModel", name := "run", desc := "(I)I" } : MethodName)) ∈ lw_tbl := wd_4 97 rfl
theorem wx_818 : (Cond.code ({ cls := "BillSharesModel", name := "run", desc := "(I)I" } : MethodName) prog_6_method_29_code (9 : Nat) (Option.some FieldType.int)) ∈ lw_tbl := wd_4 98 rfl
theorem wx_819 : (Cond.methodLink "BillSharesModel" (150 : Nat) ({ cls := "BillSharesModel", name := "shareOf", desc := "(II)J" } : MethodName)) ∈ lw_tbl := wd_4 99 rfl
theorem wx_821 : (Cond.instanceMethod ({ cls := "BillSharesModel", name := "shareOf", desc := "(II)J" } : MethodName)) ∈ lw_tbl := wd_4 101 rfl
theorem wx_822 : (Cond.code ({ cls := "BillSharesModel", name := "shareOf", desc := "(II)J" } : MethodName) prog_6_method_28_code (6 : Nat) (Option.some FieldType.long)) ∈ lw_tbl := wd_4 102 rfl
theorem wx_823 : (Cond.constantLong "BillSharesModel" (154 : Nat) (100 : Int64)) ∈ lw_tbl := wd_4 103 rfl
theorem wx_824 : (Cond.methodLink "BillSharesModel" (147 : Nat) ({ cls := "BillSharesModel", name := "byAreas", desc := "()V" } : MethodName)) ∈ lw_tbl := wd_4 104 rfl
theorem wx_826 : (Cond.instanceMethod ({ cls := "BillSharesModel", name := "byAreas", desc := "()V" } : MethodName)) ∈ lw_tbl := wd_4 106 rfl
theorem wx_827 : (Cond.code ({ cls := "BillSharesModel", name := "byAreas", desc := "()V" } : MethodName) prog_6_method_26_code (2 : Nat) (Option.none : Option FieldType)) ∈ lw_tbl := wd_4 107 rfl
theorem wx_828 : (Cond.methodLink "BillSharesModel" (156 : Nat) ({ cls := "BillSharesModel", name := "deal", desc := "(J)V" } : MethodName)) ∈ lw_tbl := wd_4 108 rfl
theorem wx_830 : (Cond.instanceMethod ({ cls := "BillSharesModel", name := "deal", desc := "(J)V" } : MethodName)) ∈ lw_tbl := wd_4 110 rfl
theorem wx_831 : (Cond.code ({ cls := "BillSharesModel", name := "deal", desc := "(J)V" } : MethodName) prog_6_method_25_code (8 : Nat) (Option.none : Option FieldType)) ∈ lw_tbl := wd_4 111 rfl
theorem wx_832 : (Cond.methodLink "BillSharesModel" (131 : Nat) ({ cls := "BillSharesModel", name := "portion", desc := "(JJJ)J" } : MethodName)) ∈ lw_tbl := wd_4 112 rfl
theorem wx_833 : (Cond.static ({ cls := "BillSharesModel", name := "portion", desc := "(JJJ)J" } : MethodName)) ∈ lw_tbl := wd_4 113 rfl
theorem wx_834 : (Cond.code ({ cls := "BillSharesModel", name := "portion", desc := "(JJJ)J" } : MethodName) prog_6_method_23_code (17 : Nat) (Option.some FieldType.long)) ∈ lw_tbl := wd_4 114 rfl
theorem wx_835 : (Cond.constantLong "BillSharesModel" (129 : Nat) (2 : Int64)) ∈ lw_tbl := wd_4 115 rfl
theorem wx_836 : (Cond.methodLink "BillSharesModel" (135 : Nat) ({ cls := "BillSharesModel", name := "before", desc := "(I)I" } : MethodName)) ∈ lw_tbl := wd_4 116 rfl
theorem wx_838 : (Cond.instanceMethod ({ cls := "BillSharesModel", name := "before", desc := "(I)I" } : MethodName)) ∈ lw_tbl := wd_4 118 rfl
theorem wx_839 : (Cond.code ({ cls := "BillSharesModel", name := "before", desc := "(I)I" } : MethodName) prog_6_method_24_code (4 : Nat) (Option.some FieldType.int)) ∈ lw_tbl := wd_4 119 rfl
theorem wx_840 : (Cond.methodLink "BillSharesModel" (160 : Nat) ({ cls := "BillSharesModel", name := "byUses", desc := "(II)V" } : MethodName)) ∈ lw_tbl := wd_4 120 rfl
theorem wx_842 : (Cond.instanceMethod ({ cls := "BillSharesModel", name := "byUses", desc := "(II)V" } : MethodName)) ∈ lw_tbl := wd_4 122 rfl
theorem wx_843 : (Cond.code ({ cls := "BillSharesModel", name := "byUses", desc := "(II)V" } : MethodName) prog_6_method_27_code (9 : Nat) (Option.none : Option FieldType)) ∈ lw_tbl := wd_4 123 rfl
theorem wx_844 : (Cond.methodLink "BillSharesModel" (139 : Nat) ({ cls := "BillSharesModel", name := "barredOf", desc := "(III)I" } : MethodName)) ∈ lw_tbl := wd_4 124 rfl
theorem wx_846 : (Cond.instanceMethod ({ cls := "BillSharesModel", name := "barredOf", desc := "(III)I" } : MethodName)) ∈ lw_tbl := wd_4 126 rfl
theorem wx_847 : (Cond.code ({ cls := "BillSharesModel", name := "barredOf", desc := "(III)I" } : MethodName) prog_6_method_21_code (6 : Nat) (Option.some FieldType.int)) ∈ lw_tbl := wd_4 127 rfl
theorem wx_848 : (Cond.methodLink "BillSharesModel" (121 : Nat) ({ cls := "BillSharesModel", name := "why", desc := "(II)I" } : MethodName)) ∈ lw_tbl := wd_4 128 rfl
theorem wx_850 : (Cond.instanceMethod ({ cls := "BillSharesModel", name := "why", desc := "(II)I" } : MethodName)) ∈ lw_tbl := wd_4 130 rfl
theorem wx_851 : (Cond.code ({ cls := "BillSharesModel", name := "why", desc := "(II)I" } : MethodName) prog_6_method_19_code (6 : Nat) (Option.some FieldType.int)) ∈ lw_tbl := wd_4 131 rfl
theorem wx_852 : (Cond.methodLink "BillSharesModel" (143 : Nat) ({ cls := "BillSharesModel", name := "usedBy", desc := "(IIII)J" } : MethodName)) ∈ lw_tbl := wd_4 132 rfl
theorem wx_854 : (Cond.instanceMethod ({ cls := "BillSharesModel", name := "usedBy", desc := "(IIII)J" } : MethodName)) ∈ lw_tbl := wd_4 134 rfl
theorem wx_855 : (Cond.code ({ cls := "BillSharesModel", name := "usedBy", desc := "(IIII)J" } : MethodName) prog_6_method_22_code (8 : Nat) (Option.some FieldType.long)) ∈ lw_tbl := wd_4 135 rfl
theorem wx_856 : (Cond.methodLink "BillSharesModel" (125 : Nat) ({ cls := "BillSharesModel", name := "useOf", desc := "(III)J" } : MethodName)) ∈ lw_tbl := wd_4 136 rfl
theorem wx_858 : (Cond.instanceMethod ({ cls := "BillSharesModel", name := "useOf", desc := "(III)J" } : MethodName)) ∈ lw_tbl := wd_4 138 rfl
theorem wx_859 : (Cond.code ({ cls := "BillSharesModel", name := "useOf", desc := "(III)J" } : MethodName) prog_6_method_20_code (13 : Nat) (Option.some FieldType.long)) ∈ lw_tbl := wd_4 139 rfl
theorem wx_860 : (Cond.methodLink "BillSharesLaw" (128 : Nat) ({ cls := "BillSharesModel", name := "use", desc := "(II)J" } : MethodName)) ∈ lw_tbl := wd_4 140 rfl
theorem wx_861 : (Cond.instanceMethod ({ cls := "BillSharesModel", name := "use", desc := "(II)J" } : MethodName)) ∈ lw_tbl := wd_4 141 rfl
theorem wx_862 : (Cond.selects "BillSharesModel" ({ cls := "BillSharesModel", name := "use", desc := "(II)J" } : MethodName) ({ cls := "BillSharesModel", name := "use", desc := "(II)J" } : MethodName)) ∈ lw_tbl := wd_4 142 rfl
theorem wx_863 : (Cond.code ({ cls := "BillSharesModel", name := "use", desc := "(II)J" } : MethodName) prog_6_method_30_code (3 : Nat) (Option.some FieldType.long)) ∈ lw_tbl := wd_4 143 rfl
theorem wx_864 : (Cond.constantLong "BillSharesModel" (164 : Nat) (-1 : Int64)) ∈ lw_tbl := wd_4 144 rfl
theorem wx_865 : (Cond.methodLink "BillSharesLaw" (131 : Nat) ({ cls := "BillSharesModel", name := "barred", desc := "(III)I" } : MethodName)) ∈ lw_tbl := wd_4 145 rfl
theorem wx_866 : (Cond.instanceMethod ({ cls := "BillSharesModel", name := "barred", desc := "(III)I" } : MethodName)) ∈ lw_tbl := wd_4 146 rfl
theorem wx_867 : (Cond.selects "BillSharesModel" ({ cls := "BillSharesModel", name := "barred", desc := "(III)I" } : MethodName) ({ cls := "BillSharesModel", name := "barred", desc := "(III)I" } : MethodName)) ∈ lw_tbl := wd_4 147 rfl
theorem wx_868 : (Cond.code ({ cls := "BillSharesModel", name := "barred", desc := "(III)I" } : MethodName) prog_6_method_31_code (4 : Nat) (Option.some FieldType.int)) ∈ lw_tbl := wd_4 148 rfl
theorem wx_869 : (Cond.methodLink "BillSharesLaw" (134 : Nat) ({ cls := "BillSharesModel", name := "line", desc := "(IIII)J" } : MethodName)) ∈ lw_tbl := wd_4 149 rfl
theorem wx_870 : (Cond.instanceMethod ({ cls := "BillSharesModel", name := "line", desc := "(IIII)J" } : MethodName)) ∈ lw_tbl := wd_4 150 rfl
theorem wx_871 : (Cond.selects "BillSharesModel" ({ cls := "BillSharesModel", name := "line", desc := "(IIII)J" } : MethodName) ({ cls := "BillSharesModel", name := "line", desc := "(IIII)J" } : MethodName)) ∈ lw_tbl := wd_4 151 rfl
theorem wx_872 : (Cond.code ({ cls := "BillSharesModel", name := "line", desc := "(IIII)J" } : MethodName) prog_6_method_33_code (6 : Nat) (Option.some FieldType.long)) ∈ lw_tbl := wd_4 152 rfl
theorem wx_873 : (Cond.methodLink "BillSharesModel" (166 : Nat) ({ cls := "BillSharesModel", name := "has", desc := "(ZII)Z" } : MethodName)) ∈ lw_tbl := wd_4 153 rfl
theorem wx_875 : (Cond.instanceMethod ({ cls := "BillSharesModel", name := "has", desc := "(ZII)Z" } : MethodName)) ∈ lw_tbl := wd_4 155 rfl
theorem wx_876 : (Cond.code ({ cls := "BillSharesModel", name := "has", desc := "(ZII)Z" } : MethodName) prog_6_method_32_code (5 : Nat) (Option.some FieldType.boolean)) ∈ lw_tbl := wd_4 156 rfl
theorem wx_877 : (Cond.methodLink "BillSharesLaw" (137 : Nat) ({ cls := "BillSharesModel", name := "share", desc := "(II)J" } : MethodName)) ∈ lw_tbl := wd_4 157 rfl
theorem wx_878 : (Cond.instanceMethod ({ cls := "BillSharesModel", name := "share", desc := "(II)J" } : MethodName)) ∈ lw_tbl := wd_4 158 rfl
theorem wx_879 : (Cond.selects "BillSharesModel" ({ cls := "BillSharesModel", name := "share", desc := "(II)J" } : MethodName) ({ cls := "BillSharesModel", name := "share", desc := "(II)J" } : MethodName)) ∈ lw_tbl := wd_4 159 rfl
theorem wx_880 : (Cond.code ({ cls := "BillSharesModel", name := "share", desc := "(II)J" } : MethodName) prog_6_method_34_code (3 : Nat) (Option.some FieldType.long)) ∈ lw_tbl := wd_4 160 rfl
theorem wx_881 : (Cond.methodLink "BillSharesLaw" (140 : Nat) ({ cls := "BillSharesModel", name := "part", desc := "(III)J" } : MethodName)) ∈ lw_tbl := wd_4 161 rfl
theorem wx_882 : (Cond.instanceMethod ({ cls := "BillSharesModel", name := "part", desc := "(III)J" } : MethodName)) ∈ lw_tbl := wd_4 162 rfl
theorem wx_883 : (Cond.selects "BillSharesModel" ({ cls := "BillSharesModel", name := "part", desc := "(III)J" } : MethodName) ({ cls := "BillSharesModel", name := "part", desc := "(III)J" } : MethodName)) ∈ lw_tbl := wd_4 163 rfl
theorem wx_884 : (Cond.code ({ cls := "BillSharesModel", name := "part", desc := "(III)J" } : MethodName) prog_6_method_39_code (11 : Nat) (Option.some FieldType.long)) ∈ lw_tbl := wd_4 164 rfl
theorem wx_885 : (Cond.methodLink "BillSharesModel" (176 : Nat) ({ cls := "BillSharesModel", name := "days", desc := "(III)I" } : MethodName)) ∈ lw_tbl := wd_4 165 rfl
theorem wx_887 : (Cond.instanceMethod ({ cls := "BillSharesModel", name := "days", desc := "(III)I" } : MethodName)) ∈ lw_tbl := wd_4 167 rfl
theorem wx_888 : (Cond.code ({ cls := "BillSharesModel", name := "days", desc := "(III)I" } : MethodName) prog_6_method_37_code (5 : Nat) (Option.some FieldType.int)) ∈ lw_tbl := wd_4 168 rfl
theorem wx_889 : (Cond.methodLink "BillSharesModel" (170 : Nat) ({ cls := "BillSharesModel", name := "end", desc := "(III)I" } : MethodName)) ∈ lw_tbl := wd_4 169 rfl
theorem wx_891 : (Cond.instanceMethod ({ cls := "BillSharesModel", name := "end", desc := "(III)I" } : MethodName)) ∈ lw_tbl := wd_4 171 rfl
theorem wx_892 : (Cond.code ({ cls := "BillSharesModel", name := "end", desc := "(III)I" } : MethodName) prog_6_method_36_code (5 : Nat) (Option.some FieldType.int)) ∈ lw_tbl := wd_4 172 rfl
theorem wx_893 : (Cond.methodLink "BillSharesModel" (173 : Nat) ({ cls := "BillSharesModel", name := "begin", desc := "(III)I" } : MethodName)) ∈ lw_tbl := wd_4 173 rfl
theorem wx_895 : (Cond.instanceMethod ({ cls := "BillSharesModel", name := "begin", desc := "(III)I" } : MethodName)) ∈ lw_tbl := wd_4 175 rfl
theorem wx_896 : (Cond.code ({ cls := "BillSharesModel", name := "begin", desc := "(III)I" } : MethodName) prog_6_method_35_code (5 : Nat) (Option.some FieldType.int)) ∈ lw_tbl := wd_4 176 rfl
theorem wx_897 : (Cond.methodLink "BillSharesModel" (181 : Nat) ({ cls := "BillSharesModel", name := "own", desc := "(IIII)J" } : MethodName)) ∈ lw_tbl := wd_4 177 rfl
theorem wx_899 : (Cond.instanceMethod ({ cls := "BillSharesModel", name := "own", desc := "(IIII)J" } : MethodName)) ∈ lw_tbl := wd_4 179 rfl
theorem wx_900 : (Cond.code ({ cls := "BillSharesModel", name := "own", desc := "(IIII)J" } : MethodName) prog_6_method_38_code (11 : Nat) (Option.some FieldType.long)) ∈ lw_tbl := wd_4 180 rfl
theorem wx_901 : (Cond.constantLong "BillSharesModel" (179 : Nat) (365 : Int64)) ∈ lw_tbl := wd_4 181 rfl
theorem wx_902 : (Cond.methodLink "BillSharesLaw" (143 : Nat) ({ cls := "BillSharesModel", name := "balance", desc := "(II)J" } : MethodName)) ∈ lw_tbl := wd_4 182 rfl
theorem wx_903 : (Cond.instanceMethod ({ cls := "BillSharesModel", name := "balance", desc := "(II)J" } : MethodName)) ∈ lw_tbl := wd_4 183 rfl
theorem wx_904 : (Cond.selects "BillSharesModel" ({ cls := "BillSharesModel", name := "balance", desc := "(II)J" } : MethodName) ({ cls := "BillSharesModel", name := "balance", desc := "(II)J" } : MethodName)) ∈ lw_tbl := wd_4 184 rfl
theorem wx_905 : (Cond.code ({ cls := "BillSharesModel", name := "balance", desc := "(II)J" } : MethodName) prog_6_method_40_code (3 : Nat) (Option.some FieldType.long)) ∈ lw_tbl := wd_4 185 rfl
theorem wx_906 : (Cond.methodLink "BillSharesLaw" (146 : Nat) ({ cls := "BillSharesModel", name := "difference", desc := "(II)J" } : MethodName)) ∈ lw_tbl := wd_4 186 rfl
theorem wx_907 : (Cond.instanceMethod ({ cls := "BillSharesModel", name := "difference", desc := "(II)J" } : MethodName)) ∈ lw_tbl := wd_4 187 rfl
theorem wx_908 : (Cond.selects "BillSharesModel" ({ cls := "BillSharesModel", name := "difference", desc := "(II)J" } : MethodName) ({ cls := "BillSharesModel", name := "difference", desc := "(II)J" } : MethodName)) ∈ lw_tbl := wd_4 188 rfl
theorem wx_909 : (Cond.code ({ cls := "BillSharesModel", name := "difference", desc := "(II)J" } : MethodName) prog_6_method_41_code (3 : Nat) (Option.some FieldType.long)) ∈ lw_tbl := wd_4 189 rfl
theorem wx_910 : (Cond.methodLink "BillSharesLaw" (149 : Nat) ({ cls := "BillSharesModel", name := "edition", desc := "(I)I" } : MethodName)) ∈ lw_tbl := wd_4 190 rfl
theorem wx_911 : (Cond.instanceMethod ({ cls := "BillSharesModel", name := "edition", desc := "(I)I" } : MethodName)) ∈ lw_tbl := wd_4 191 rfl
theorem wx_912 : (Cond.selects "BillSharesModel" ({ cls := "BillSharesModel", name := "edition", desc := "(I)I" } : MethodName) ({ cls := "BillSharesModel", name := "edition", desc := "(I)I" } : MethodName)) ∈ lw_tbl := wd_4 192 rfl
theorem wx_913 : (Cond.code ({ cls := "BillSharesModel", name := "edition", desc := "(I)I" } : MethodName) prog_6_method_42_code (2 : Nat) (Option.some FieldType.int)) ∈ lw_tbl := wd_4 193 rfl
theorem wx_914 : (Cond.sameMethod "java/lang/Throwable" "java/lang/Throwable" "fillInStackTrace" "(I)Ljava/lang/Throwable;") ∈ lw_tbl := wd_4 194 rfl
theorem wx_915 : (Cond.castable "BillShares$Flat" "BillShares$Flat") ∈ lw_tbl := wd_4 195 rfl
theorem wx_916 : (Cond.castable "BillShares$Meter" "BillShares$Meter") ∈ lw_tbl := wd_4 196 rfl
theorem wx_917 : (Cond.sameMethod "[Ljava/lang/Object;" "java/lang/Object" "getClass" "()Ljava/lang/Class;") ∈ lw_tbl := wd_4 197 rfl
theorem wx_918 : (Cond.selects "[Ljava/lang/Object;" ({ cls := "java/lang/Object", name := "getClass", desc := "()Ljava/lang/Class;" } : MethodName) ({ cls := "java/lang/Object", name := "getClass", desc := "()Ljava/lang/Class;" } : MethodName)) ∈ lw_tbl := wd_4 198 rfl
theorem wx_919 : (Cond.declares ({ cls := "java/lang/Object", name := "getClass", desc := "()Ljava/lang/Class;" } : MethodName)) ∈ lw_tbl := wd_4 199 rfl
theorem wx_920 : (Cond.castable "BillShares" "java/lang/Object") ∈ lw_tbl := wd_4 200 rfl
theorem wx_921 : (Cond.castable "BillSharesModel" "java/lang/Object") ∈ lw_tbl := wd_4 201 rfl
theorem wx_922 : (Cond.castable "BillShares$Flat" "java/lang/Object") ∈ lw_tbl := wd_4 202 rfl
theorem wx_923 : (Cond.castable "BillShares$Meter" "java/lang/Object") ∈ lw_tbl := wd_4 203 rfl
theorem wx_924 : (Cond.castable "BillShares$Bill" "java/lang/Object") ∈ lw_tbl := wd_4 204 rfl
theorem wx_925 : (Cond.castable "java/lang/String" "java/lang/Object") ∈ lw_tbl := wd_4 205 rfl
theorem wp_0 : Cond.selects "java/lang/Throwable" ⟨"java/lang/Throwable", "fillInStackTrace", "(I)Ljava/lang/Throwable;"⟩ ⟨"java/lang/Throwable", "fillInStackTrace", "(I)Ljava/lang/Throwable;"⟩ ∈ lw_tbl := ws_in 0 rfl
theorem wp_1 : Cond.selects "java/util/ArrayList" ⟨"java/util/ArrayList", "add", "(Ljava/lang/Object;[Ljava/lang/Object;I)V"⟩ ⟨"java/util/ArrayList", "add", "(Ljava/lang/Object;[Ljava/lang/Object;I)V"⟩ ∈ lw_tbl := ws_in 1 rfl
theorem wp_2 : Cond.selects "java/util/ArrayList" ⟨"java/util/ArrayList", "grow", "()[Ljava/lang/Object;"⟩ ⟨"java/util/ArrayList", "grow", "()[Ljava/lang/Object;"⟩ ∈ lw_tbl := ws_in 2 rfl
theorem wp_3 : Cond.selects "java/util/ArrayList" ⟨"java/util/ArrayList", "grow", "(I)[Ljava/lang/Object;"⟩ ⟨"java/util/ArrayList", "grow", "(I)[Ljava/lang/Object;"⟩ ∈ lw_tbl := ws_in 3 rfl
theorem wp_4 : Cond.selects "BillShares" ⟨"BillShares", "placeByRank", "(I)I"⟩ ⟨"BillShares", "placeByRank", "(I)I"⟩ ∈ lw_tbl := ws_in 4 rfl
theorem wp_5 : Cond.selects "java/util/ArrayList" ⟨"java/util/ArrayList", "rangeCheckForAdd", "(I)V"⟩ ⟨"java/util/ArrayList", "rangeCheckForAdd", "(I)V"⟩ ∈ lw_tbl := ws_in 5 rfl
theorem wp_6 : Cond.selects "BillShares" ⟨"BillShares", "flatAt", "(I)LBillShares$Flat;"⟩ ⟨"BillShares", "flatAt", "(I)LBillShares$Flat;"⟩ ∈ lw_tbl := ws_in 6 rfl
theorem wp_7 : Cond.selects "BillShares" ⟨"BillShares", "addReading", "(IIII)I"⟩ ⟨"BillShares", "addReading", "(IIII)I"⟩ ∈ lw_tbl := ws_in 7 rfl
theorem wp_8 : Cond.selects "BillShares" ⟨"BillShares", "meterAt", "(I)LBillShares$Meter;"⟩ ⟨"BillShares", "meterAt", "(I)LBillShares$Meter;"⟩ ∈ lw_tbl := ws_in 8 rfl
theorem wp_9 : Cond.selects "BillShares" ⟨"BillShares", "openBills", "(I)V"⟩ ⟨"BillShares", "openBills", "(I)V"⟩ ∈ lw_tbl := ws_in 9 rfl
theorem wp_10 : Cond.selects "BillShares" ⟨"BillShares", "shareOut", "(II)V"⟩ ⟨"BillShares", "shareOut", "(II)V"⟩ ∈ lw_tbl := ws_in 10 rfl
theorem wp_11 : Cond.selects "BillShares" ⟨"BillShares", "weighByArea", "()V"⟩ ⟨"BillShares", "weighByArea", "()V"⟩ ∈ lw_tbl := ws_in 11 rfl
theorem wp_12 : Cond.selects "BillShares" ⟨"BillShares", "dealOut", "(J)V"⟩ ⟨"BillShares", "dealOut", "(J)V"⟩ ∈ lw_tbl := ws_in 12 rfl
theorem wp_13 : Cond.selects "BillShares" ⟨"BillShares", "sumOfWeights", "()J"⟩ ⟨"BillShares", "sumOfWeights", "()J"⟩ ∈ lw_tbl := ws_in 13 rfl
theorem wp_14 : Cond.selects "BillShares" ⟨"BillShares", "weighByUse", "(II)V"⟩ ⟨"BillShares", "weighByUse", "(II)V"⟩ ∈ lw_tbl := ws_in 14 rfl
theorem wp_15 : Cond.selects "BillShares" ⟨"BillShares", "latestBill", "(LBillShares$Flat;I)LBillShares$Bill;"⟩ ⟨"BillShares", "latestBill", "(LBillShares$Flat;I)LBillShares$Bill;"⟩ ∈ lw_tbl := ws_in 15 rfl
theorem wp_16 : Cond.selects "BillSharesModel" ⟨"BillSharesModel", "allows", "(ZZ)Z"⟩ ⟨"BillSharesModel", "allows", "(ZZ)Z"⟩ ∈ lw_tbl := ws_in 16 rfl
theorem wp_17 : Cond.selects "BillSharesModel" ⟨"BillSharesModel", "isFlat", "(I)Z"⟩ ⟨"BillSharesModel", "isFlat", "(I)Z"⟩ ∈ lw_tbl := ws_in 17 rfl
theorem wp_18 : Cond.selects "BillSharesModel" ⟨"BillSharesModel", "put", "(IIIIZ)I"⟩ ⟨"BillSharesModel", "put", "(IIIIZ)I"⟩ ∈ lw_tbl := ws_in 18 rfl
theorem wp_19 : Cond.selects "BillSharesModel" ⟨"BillSharesModel", "isMeter", "(I)Z"⟩ ⟨"BillSharesModel", "isMeter", "(I)Z"⟩ ∈ lw_tbl := ws_in 19 rfl
theorem wp_20 : Cond.selects "BillSharesModel" ⟨"BillSharesModel", "shareOf", "(II)J"⟩ ⟨"BillSharesModel", "shareOf", "(II)J"⟩ ∈ lw_tbl := ws_in 20 rfl
theorem wp_21 : Cond.selects "BillSharesModel" ⟨"BillSharesModel", "byAreas", "()V"⟩ ⟨"BillSharesModel", "byAreas", "()V"⟩ ∈ lw_tbl := ws_in 21 rfl
theorem wp_22 : Cond.selects "BillSharesModel" ⟨"BillSharesModel", "deal", "(J)V"⟩ ⟨"BillSharesModel", "deal", "(J)V"⟩ ∈ lw_tbl := ws_in 22 rfl
theorem wp_23 : Cond.selects "BillSharesModel" ⟨"BillSharesModel", "before", "(I)I"⟩ ⟨"BillSharesModel", "before", "(I)I"⟩ ∈ lw_tbl := ws_in 23 rfl
theorem wp_24 : Cond.selects "BillSharesModel" ⟨"BillSharesModel", "byUses", "(II)V"⟩ ⟨"BillSharesModel", "byUses", "(II)V"⟩ ∈ lw_tbl := ws_in 24 rfl
theorem wp_25 : Cond.selects "BillSharesModel" ⟨"BillSharesModel", "barredOf", "(III)I"⟩ ⟨"BillSharesModel", "barredOf", "(III)I"⟩ ∈ lw_tbl := ws_in 25 rfl
theorem wp_26 : Cond.selects "BillSharesModel" ⟨"BillSharesModel", "why", "(II)I"⟩ ⟨"BillSharesModel", "why", "(II)I"⟩ ∈ lw_tbl := ws_in 26 rfl
theorem wp_27 : Cond.selects "BillSharesModel" ⟨"BillSharesModel", "usedBy", "(IIII)J"⟩ ⟨"BillSharesModel", "usedBy", "(IIII)J"⟩ ∈ lw_tbl := ws_in 27 rfl
theorem wp_28 : Cond.selects "BillSharesModel" ⟨"BillSharesModel", "useOf", "(III)J"⟩ ⟨"BillSharesModel", "useOf", "(III)J"⟩ ∈ lw_tbl := ws_in 28 rfl
theorem wp_29 : Cond.selects "BillSharesModel" ⟨"BillSharesModel", "has", "(ZII)Z"⟩ ⟨"BillSharesModel", "has", "(ZII)Z"⟩ ∈ lw_tbl := ws_in 29 rfl
theorem wp_30 : Cond.selects "BillSharesModel" ⟨"BillSharesModel", "days", "(III)I"⟩ ⟨"BillSharesModel", "days", "(III)I"⟩ ∈ lw_tbl := ws_in 30 rfl
theorem wp_31 : Cond.selects "BillSharesModel" ⟨"BillSharesModel", "end", "(III)I"⟩ ⟨"BillSharesModel", "end", "(III)I"⟩ ∈ lw_tbl := ws_in 31 rfl
theorem wp_32 : Cond.selects "BillSharesModel" ⟨"BillSharesModel", "begin", "(III)I"⟩ ⟨"BillSharesModel", "begin", "(III)I"⟩ ∈ lw_tbl := ws_in 32 rfl
theorem wp_33 : Cond.selects "BillSharesModel" ⟨"BillSharesModel", "own", "(IIII)J"⟩ ⟨"BillSharesModel", "own", "(IIII)J"⟩ ∈ lw_tbl := ws_in 33 rfl
