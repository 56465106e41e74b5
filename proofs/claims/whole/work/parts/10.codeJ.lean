/-! code rows (written by wip/whole/mkcode.py) -/
abbrev y_O_init : MethodName := ⟨"java/lang/Object", "<init>", "()V"⟩
abbrev b_O_init : ByteArray := object_method_1_code
theorem d_O_init_0 : decode b_O_init 0 = .ok (.return_, 1) := by decide +kernel
abbrev y_A_init : MethodName := ⟨"java/util/ArrayList", "<init>", "()V"⟩
abbrev b_A_init : ByteArray := prog_20_method_2_code
theorem d_A_init_0 : decode b_A_init 0 = .ok (.aload_n 0, 1) := by decide +kernel
theorem d_A_init_1 : decode b_A_init 1 = .ok (.invokespecial 1, 3) := by decide +kernel
theorem d_A_init_4 : decode b_A_init 4 = .ok (.aload_n 0, 1) := by decide +kernel
theorem d_A_init_5 : decode b_A_init 5 = .ok (.getstatic 39, 3) := by decide +kernel
theorem d_A_init_8 : decode b_A_init 8 = .ok (.putfield 9, 3) := by decide +kernel
theorem d_A_init_11 : decode b_A_init 11 = .ok (.return_, 1) := by decide +kernel
theorem cal_A_init : am_cal y_A_init b_A_init 1 ((Option.none : Option FieldType)) 0 := ⟨Or.inl wx_32, wx_4, by decide, by decide +kernel⟩
abbrev y_AL_init : MethodName := ⟨"java/util/AbstractList", "<init>", "()V"⟩
abbrev b_AL_init : ByteArray := prog_19_method_1_code
theorem d_AL_init_0 : decode b_AL_init 0 = .ok (.aload_n 0, 1) := by decide +kernel
theorem d_AL_init_1 : decode b_AL_init 1 = .ok (.invokespecial 1, 3) := by decide +kernel
theorem d_AL_init_4 : decode b_AL_init 4 = .ok (.aload_n 0, 1) := by decide +kernel
theorem d_AL_init_5 : decode b_AL_init 5 = .ok (.iconst 0, 1) := by decide +kernel
theorem d_AL_init_6 : decode b_AL_init 6 = .ok (.putfield 7, 3) := by decide +kernel
theorem d_AL_init_9 : decode b_AL_init 9 = .ok (.return_, 1) := by decide +kernel
theorem cal_AL_init : am_cal y_AL_init b_AL_init 1 ((Option.none : Option FieldType)) 0 := ⟨Or.inl wx_35, wx_3, by decide, by decide +kernel⟩
abbrev y_AC_init : MethodName := ⟨"java/util/AbstractCollection", "<init>", "()V"⟩
abbrev b_AC_init : ByteArray := prog_18_method_1_code
theorem d_AC_init_0 : decode b_AC_init 0 = .ok (.aload_n 0, 1) := by decide +kernel
theorem d_AC_init_1 : decode b_AC_init 1 = .ok (.invokespecial 1, 3) := by decide +kernel
theorem d_AC_init_4 : decode b_AC_init 4 = .ok (.return_, 1) := by decide +kernel
theorem cal_AC_init : am_cal y_AC_init b_AC_init 1 ((Option.none : Option FieldType)) 0 := ⟨Or.inl wx_38, wx_2, by decide, by decide +kernel⟩
abbrev y_AS_fill : MethodName := ⟨"java/util/Arrays", "fill", "([II)V"⟩
abbrev b_AS_fill : ByteArray := prog_21_method_103_code
theorem d_AS_fill_0 : decode b_AS_fill 0 = .ok (.iconst 0, 1) := by decide +kernel
theorem d_AS_fill_1 : decode b_AS_fill 1 = .ok (.istore_n 2, 1) := by decide +kernel
theorem d_AS_fill_2 : decode b_AS_fill 2 = .ok (.aload_n 0, 1) := by decide +kernel
theorem d_AS_fill_3 : decode b_AS_fill 3 = .ok (.arraylength, 1) := by decide +kernel
theorem d_AS_fill_4 : decode b_AS_fill 4 = .ok (.istore_n 3, 1) := by decide +kernel
theorem d_AS_fill_5 : decode b_AS_fill 5 = .ok (.iload_n 2, 1) := by decide +kernel
theorem d_AS_fill_6 : decode b_AS_fill 6 = .ok (.iload_n 3, 1) := by decide +kernel
theorem d_AS_fill_7 : decode b_AS_fill 7 = .ok (.if_icmp .ge 13, 3) := by decide +kernel
theorem d_AS_fill_10 : decode b_AS_fill 10 = .ok (.aload_n 0, 1) := by decide +kernel
theorem d_AS_fill_11 : decode b_AS_fill 11 = .ok (.iload_n 2, 1) := by decide +kernel
theorem d_AS_fill_12 : decode b_AS_fill 12 = .ok (.iload_n 1, 1) := by decide +kernel
theorem d_AS_fill_13 : decode b_AS_fill 13 = .ok (.iastore, 1) := by decide +kernel
theorem d_AS_fill_14 : decode b_AS_fill 14 = .ok (.iinc 2 1, 3) := by decide +kernel
theorem d_AS_fill_17 : decode b_AS_fill 17 = .ok (.goto (-12), 3) := by decide +kernel
theorem d_AS_fill_20 : decode b_AS_fill 20 = .ok (.return_, 1) := by decide +kernel
theorem cal_AS_fill : am_cal y_AS_fill b_AS_fill 4 ((Option.none : Option FieldType)) 2 := ⟨Or.inl wx_56, wx_5, by decide, by decide +kernel⟩
abbrev y_L_flat : MethodName := ⟨"BillSharesLaw", "flat", "(LBillShares;II[J)I"⟩
abbrev b_L_flat : ByteArray := method_3_code
theorem d_L_flat_0 : decode b_L_flat 0 = .ok (.aload_n 3, 1) := by decide +kernel
theorem d_L_flat_1 : decode b_L_flat 1 = .ok (.iconst 0, 1) := by decide +kernel
theorem d_L_flat_2 : decode b_L_flat 2 = .ok (.aload_n 0, 1) := by decide +kernel
theorem d_L_flat_3 : decode b_L_flat 3 = .ok (.iload_n 1, 1) := by decide +kernel
theorem d_L_flat_4 : decode b_L_flat 4 = .ok (.iload_n 2, 1) := by decide +kernel
theorem d_L_flat_5 : decode b_L_flat 5 = .ok (.invokevirtual 7, 3) := by decide +kernel
theorem d_L_flat_8 : decode b_L_flat 8 = .ok (.i2l, 1) := by decide +kernel
theorem d_L_flat_9 : decode b_L_flat 9 = .ok (.lastore, 1) := by decide +kernel
theorem d_L_flat_10 : decode b_L_flat 10 = .ok (.goto 11, 3) := by decide +kernel
theorem d_L_flat_13 : decode b_L_flat 13 = .ok (.astore 4, 2) := by decide +kernel
theorem d_L_flat_15 : decode b_L_flat 15 = .ok (.iconst 1, 1) := by decide +kernel
theorem d_L_flat_16 : decode b_L_flat 16 = .ok (.ireturn, 1) := by decide +kernel
theorem d_L_flat_17 : decode b_L_flat 17 = .ok (.astore 4, 2) := by decide +kernel
theorem d_L_flat_19 : decode b_L_flat 19 = .ok (.iconst 2, 1) := by decide +kernel
theorem d_L_flat_20 : decode b_L_flat 20 = .ok (.ireturn, 1) := by decide +kernel
theorem d_L_flat_21 : decode b_L_flat 21 = .ok (.iconst 0, 1) := by decide +kernel
theorem d_L_flat_22 : decode b_L_flat 22 = .ok (.ireturn, 1) := by decide +kernel
theorem cal_L_flat : am_cal y_L_flat b_L_flat 5 ((Option.some FieldType.int)) 4 := ⟨Or.inr ⟨_, wx_79⟩, wx_0, by decide, by decide +kernel⟩
abbrev y_TH_init : MethodName := ⟨"java/lang/Throwable", "<init>", "()V"⟩
abbrev b_TH_init : ByteArray := prog_17_method_1_code
theorem d_TH_init_0 : decode b_TH_init 0 = .ok (.aload_n 0, 1) := by decide +kernel
theorem d_TH_init_1 : decode b_TH_init 1 = .ok (.invokespecial 1, 3) := by decide +kernel
theorem d_TH_init_4 : decode b_TH_init 4 = .ok (.aload_n 0, 1) := by decide +kernel
theorem d_TH_init_5 : decode b_TH_init 5 = .ok (.aload_n 0, 1) := by decide +kernel
theorem d_TH_init_6 : decode b_TH_init 6 = .ok (.putfield 7, 3) := by decide +kernel
theorem d_TH_init_9 : decode b_TH_init 9 = .ok (.aload_n 0, 1) := by decide +kernel
theorem d_TH_init_10 : decode b_TH_init 10 = .ok (.getstatic 13, 3) := by decide +kernel
theorem d_TH_init_13 : decode b_TH_init 13 = .ok (.putfield 17, 3) := by decide +kernel
theorem d_TH_init_16 : decode b_TH_init 16 = .ok (.aload_n 0, 1) := by decide +kernel
theorem d_TH_init_17 : decode b_TH_init 17 = .ok (.getstatic 20, 3) := by decide +kernel
theorem d_TH_init_20 : decode b_TH_init 20 = .ok (.putfield 24, 3) := by decide +kernel
theorem d_TH_init_23 : decode b_TH_init 23 = .ok (.aload_n 0, 1) := by decide +kernel
theorem d_TH_init_24 : decode b_TH_init 24 = .ok (.invokevirtual 27, 3) := by decide +kernel
theorem d_TH_init_27 : decode b_TH_init 27 = .ok (.pop, 1) := by decide +kernel
theorem d_TH_init_28 : decode b_TH_init 28 = .ok (.return_, 1) := by decide +kernel
theorem cal_TH_init : am_cal y_TH_init b_TH_init 1 ((Option.none : Option FieldType)) 0 := ⟨Or.inl wx_113, wx_7, by decide, by decide +kernel⟩
abbrev y_TH_fillInStackTrace : MethodName := ⟨"java/lang/Throwable", "fillInStackTrace", "()Ljava/lang/Throwable;"⟩
abbrev b_TH_fillInStackTrace : ByteArray := prog_17_method_18_code
theorem d_TH_fillInStackTrace_0 : decode b_TH_fillInStackTrace 0 = .ok (.aload_n 0, 1) := by decide +kernel
theorem d_TH_fillInStackTrace_1 : decode b_TH_fillInStackTrace 1 = .ok (.getfield 17, 3) := by decide +kernel
theorem d_TH_fillInStackTrace_4 : decode b_TH_fillInStackTrace 4 = .ok (.ifnonnull 10, 3) := by decide +kernel
theorem d_TH_fillInStackTrace_7 : decode b_TH_fillInStackTrace 7 = .ok (.aload_n 0, 1) := by decide +kernel
theorem d_TH_fillInStackTrace_8 : decode b_TH_fillInStackTrace 8 = .ok (.getfield 198, 3) := by decide +kernel
theorem d_TH_fillInStackTrace_11 : decode b_TH_fillInStackTrace 11 = .ok (.ifnull 16, 3) := by decide +kernel
theorem d_TH_fillInStackTrace_14 : decode b_TH_fillInStackTrace 14 = .ok (.aload_n 0, 1) := by decide +kernel
theorem d_TH_fillInStackTrace_15 : decode b_TH_fillInStackTrace 15 = .ok (.iconst 0, 1) := by decide +kernel
theorem d_TH_fillInStackTrace_16 : decode b_TH_fillInStackTrace 16 = .ok (.invokevirtual 202, 3) := by decide +kernel
theorem d_TH_fillInStackTrace_19 : decode b_TH_fillInStackTrace 19 = .ok (.pop, 1) := by decide +kernel
theorem d_TH_fillInStackTrace_20 : decode b_TH_fillInStackTrace 20 = .ok (.aload_n 0, 1) := by decide +kernel
theorem d_TH_fillInStackTrace_21 : decode b_TH_fillInStackTrace 21 = .ok (.getstatic 13, 3) := by decide +kernel
theorem d_TH_fillInStackTrace_24 : decode b_TH_fillInStackTrace 24 = .ok (.putfield 17, 3) := by decide +kernel
theorem d_TH_fillInStackTrace_27 : decode b_TH_fillInStackTrace 27 = .ok (.aload_n 0, 1) := by decide +kernel
theorem d_TH_fillInStackTrace_28 : decode b_TH_fillInStackTrace 28 = .ok (.areturn, 1) := by decide +kernel
abbrev y_IA_init : MethodName := ⟨"java/lang/IllegalArgumentException", "<init>", "(Ljava/lang/String;)V"⟩
abbrev b_IA_init : ByteArray := prog_10_method_2_code
theorem d_IA_init_0 : decode b_IA_init 0 = .ok (.aload_n 0, 1) := by decide +kernel
theorem d_IA_init_1 : decode b_IA_init 1 = .ok (.aload_n 1, 1) := by decide +kernel
theorem d_IA_init_2 : decode b_IA_init 2 = .ok (.invokespecial 7, 3) := by decide +kernel
theorem d_IA_init_5 : decode b_IA_init 5 = .ok (.return_, 1) := by decide +kernel
theorem cal_IA_init : am_cal y_IA_init b_IA_init 2 ((Option.none : Option FieldType)) 1 := ⟨Or.inl wx_132, wx_10, by decide, by decide +kernel⟩
abbrev y_RE_init : MethodName := ⟨"java/lang/RuntimeException", "<init>", "(Ljava/lang/String;)V"⟩
abbrev b_RE_init : ByteArray := prog_14_method_2_code
theorem d_RE_init_0 : decode b_RE_init 0 = .ok (.aload_n 0, 1) := by decide +kernel
theorem d_RE_init_1 : decode b_RE_init 1 = .ok (.aload_n 1, 1) := by decide +kernel
theorem d_RE_init_2 : decode b_RE_init 2 = .ok (.invokespecial 7, 3) := by decide +kernel
theorem d_RE_init_5 : decode b_RE_init 5 = .ok (.return_, 1) := by decide +kernel
theorem cal_RE_init : am_cal y_RE_init b_RE_init 2 ((Option.none : Option FieldType)) 1 := ⟨Or.inl wx_135, wx_9, by decide, by decide +kernel⟩
abbrev y_EX_init : MethodName := ⟨"java/lang/Exception", "<init>", "(Ljava/lang/String;)V"⟩
abbrev b_EX_init : ByteArray := prog_9_method_2_code
theorem d_EX_init_0 : decode b_EX_init 0 = .ok (.aload_n 0, 1) := by decide +kernel
theorem d_EX_init_1 : decode b_EX_init 1 = .ok (.aload_n 1, 1) := by decide +kernel
theorem d_EX_init_2 : decode b_EX_init 2 = .ok (.invokespecial 7, 3) := by decide +kernel
theorem d_EX_init_5 : decode b_EX_init 5 = .ok (.return_, 1) := by decide +kernel
theorem cal_EX_init : am_cal y_EX_init b_EX_init 2 ((Option.none : Option FieldType)) 1 := ⟨Or.inl wx_138, wx_8, by decide, by decide +kernel⟩
abbrev y_TH_init2 : MethodName := ⟨"java/lang/Throwable", "<init>", "(Ljava/lang/String;)V"⟩
abbrev b_TH_init2 : ByteArray := prog_17_method_2_code
theorem d_TH_init2_0 : decode b_TH_init2 0 = .ok (.aload_n 0, 1) := by decide +kernel
theorem d_TH_init2_1 : decode b_TH_init2 1 = .ok (.invokespecial 1, 3) := by decide +kernel
theorem d_TH_init2_4 : decode b_TH_init2 4 = .ok (.aload_n 0, 1) := by decide +kernel
theorem d_TH_init2_5 : decode b_TH_init2 5 = .ok (.aload_n 0, 1) := by decide +kernel
theorem d_TH_init2_6 : decode b_TH_init2 6 = .ok (.putfield 7, 3) := by decide +kernel
theorem d_TH_init2_9 : decode b_TH_init2 9 = .ok (.aload_n 0, 1) := by decide +kernel
theorem d_TH_init2_10 : decode b_TH_init2 10 = .ok (.getstatic 13, 3) := by decide +kernel
theorem d_TH_init2_13 : decode b_TH_init2 13 = .ok (.putfield 17, 3) := by decide +kernel
theorem d_TH_init2_16 : decode b_TH_init2 16 = .ok (.aload_n 0, 1) := by decide +kernel
theorem d_TH_init2_17 : decode b_TH_init2 17 = .ok (.getstatic 20, 3) := by decide +kernel
theorem d_TH_init2_20 : decode b_TH_init2 20 = .ok (.putfield 24, 3) := by decide +kernel
theorem d_TH_init2_23 : decode b_TH_init2 23 = .ok (.aload_n 0, 1) := by decide +kernel
theorem d_TH_init2_24 : decode b_TH_init2 24 = .ok (.invokevirtual 27, 3) := by decide +kernel
theorem d_TH_init2_27 : decode b_TH_init2 27 = .ok (.pop, 1) := by decide +kernel
theorem d_TH_init2_28 : decode b_TH_init2 28 = .ok (.aload_n 0, 1) := by decide +kernel
theorem d_TH_init2_29 : decode b_TH_init2 29 = .ok (.aload_n 1, 1) := by decide +kernel
theorem d_TH_init2_30 : decode b_TH_init2 30 = .ok (.putfield 31, 3) := by decide +kernel
theorem d_TH_init2_33 : decode b_TH_init2 33 = .ok (.return_, 1) := by decide +kernel
theorem cal_TH_init2 : am_cal y_TH_init2 b_TH_init2 2 ((Option.none : Option FieldType)) 1 := ⟨Or.inl wx_141, wx_7, by decide, by decide +kernel⟩
abbrev y_A_size : MethodName := ⟨"java/util/ArrayList", "size", "()I"⟩
abbrev b_A_size : ByteArray := prog_20_method_8_code
theorem d_A_size_0 : decode b_A_size 0 = .ok (.aload_n 0, 1) := by decide +kernel
theorem d_A_size_1 : decode b_A_size 1 = .ok (.getfield 48, 3) := by decide +kernel
theorem d_A_size_4 : decode b_A_size 4 = .ok (.ireturn, 1) := by decide +kernel
theorem cal_A_size : am_cal y_A_size b_A_size 1 ((Option.some FieldType.int)) 0 := ⟨Or.inl wx_159, wx_4, by decide, by decide +kernel⟩
abbrev y_IS_init : MethodName := ⟨"java/lang/IllegalStateException", "<init>", "(Ljava/lang/String;)V"⟩
abbrev b_IS_init : ByteArray := prog_11_method_2_code
theorem d_IS_init_0 : decode b_IS_init 0 = .ok (.aload_n 0, 1) := by decide +kernel
theorem d_IS_init_1 : decode b_IS_init 1 = .ok (.aload_n 1, 1) := by decide +kernel
theorem d_IS_init_2 : decode b_IS_init 2 = .ok (.invokespecial 7, 3) := by decide +kernel
theorem d_IS_init_5 : decode b_IS_init 5 = .ok (.return_, 1) := by decide +kernel
theorem cal_IS_init : am_cal y_IS_init b_IS_init 2 ((Option.none : Option FieldType)) 1 := ⟨Or.inl wx_172, wx_11, by decide, by decide +kernel⟩
abbrev y_A_add : MethodName := ⟨"java/util/ArrayList", "add", "(Ljava/lang/Object;)Z"⟩
abbrev b_A_add : ByteArray := prog_20_method_25_code
theorem d_A_add_0 : decode b_A_add 0 = .ok (.aload_n 0, 1) := by decide +kernel
theorem d_A_add_1 : decode b_A_add 1 = .ok (.dup, 1) := by decide +kernel
theorem d_A_add_2 : decode b_A_add 2 = .ok (.getfield 63, 3) := by decide +kernel
theorem d_A_add_5 : decode b_A_add 5 = .ok (.iconst 1, 1) := by decide +kernel
theorem d_A_add_6 : decode b_A_add 6 = .ok (.iadd, 1) := by decide +kernel
theorem d_A_add_7 : decode b_A_add 7 = .ok (.putfield 63, 3) := by decide +kernel
theorem d_A_add_10 : decode b_A_add 10 = .ok (.aload_n 0, 1) := by decide +kernel
theorem d_A_add_11 : decode b_A_add 11 = .ok (.aload_n 1, 1) := by decide +kernel
theorem d_A_add_12 : decode b_A_add 12 = .ok (.aload_n 0, 1) := by decide +kernel
theorem d_A_add_13 : decode b_A_add 13 = .ok (.getfield 9, 3) := by decide +kernel
theorem d_A_add_16 : decode b_A_add 16 = .ok (.aload_n 0, 1) := by decide +kernel
theorem d_A_add_17 : decode b_A_add 17 = .ok (.getfield 48, 3) := by decide +kernel
theorem d_A_add_20 : decode b_A_add 20 = .ok (.invokevirtual 131, 3) := by decide +kernel
theorem d_A_add_23 : decode b_A_add 23 = .ok (.iconst 1, 1) := by decide +kernel
theorem d_A_add_24 : decode b_A_add 24 = .ok (.ireturn, 1) := by decide +kernel
theorem cal_A_add : am_cal y_A_add b_A_add 2 ((Option.some FieldType.boolean)) 1 := ⟨Or.inl wx_227, wx_4, by decide, by decide +kernel⟩
abbrev y_A_add2 : MethodName := ⟨"java/util/ArrayList", "add", "(Ljava/lang/Object;[Ljava/lang/Object;I)V"⟩
abbrev b_A_add2 : ByteArray := prog_20_method_24_code
theorem d_A_add2_0 : decode b_A_add2 0 = .ok (.iload_n 3, 1) := by decide +kernel
theorem d_A_add2_1 : decode b_A_add2 1 = .ok (.aload_n 2, 1) := by decide +kernel
theorem d_A_add2_2 : decode b_A_add2 2 = .ok (.arraylength, 1) := by decide +kernel
theorem d_A_add2_3 : decode b_A_add2 3 = .ok (.if_icmp .ne 8, 3) := by decide +kernel
theorem d_A_add2_6 : decode b_A_add2 6 = .ok (.aload_n 0, 1) := by decide +kernel
theorem d_A_add2_7 : decode b_A_add2 7 = .ok (.invokevirtual 129, 3) := by decide +kernel
theorem d_A_add2_10 : decode b_A_add2 10 = .ok (.astore_n 2, 1) := by decide +kernel
theorem d_A_add2_11 : decode b_A_add2 11 = .ok (.aload_n 2, 1) := by decide +kernel
theorem d_A_add2_12 : decode b_A_add2 12 = .ok (.iload_n 3, 1) := by decide +kernel
theorem d_A_add2_13 : decode b_A_add2 13 = .ok (.aload_n 1, 1) := by decide +kernel
theorem d_A_add2_14 : decode b_A_add2 14 = .ok (.aastore, 1) := by decide +kernel
theorem d_A_add2_15 : decode b_A_add2 15 = .ok (.aload_n 0, 1) := by decide +kernel
theorem d_A_add2_16 : decode b_A_add2 16 = .ok (.iload_n 3, 1) := by decide +kernel
theorem d_A_add2_17 : decode b_A_add2 17 = .ok (.iconst 1, 1) := by decide +kernel
theorem d_A_add2_18 : decode b_A_add2 18 = .ok (.iadd, 1) := by decide +kernel
theorem d_A_add2_19 : decode b_A_add2 19 = .ok (.putfield 48, 3) := by decide +kernel
theorem d_A_add2_22 : decode b_A_add2 22 = .ok (.return_, 1) := by decide +kernel
theorem cal_A_add2 : am_cal y_A_add2 b_A_add2 4 ((Option.none : Option FieldType)) 3 := ⟨Or.inl wx_231, wx_4, by decide, by decide +kernel⟩
abbrev y_A_grow : MethodName := ⟨"java/util/ArrayList", "grow", "()[Ljava/lang/Object;"⟩
abbrev b_A_grow : ByteArray := prog_20_method_7_code
theorem d_A_grow_0 : decode b_A_grow 0 = .ok (.aload_n 0, 1) := by decide +kernel
theorem d_A_grow_1 : decode b_A_grow 1 = .ok (.aload_n 0, 1) := by decide +kernel
theorem d_A_grow_2 : decode b_A_grow 2 = .ok (.getfield 48, 3) := by decide +kernel
theorem d_A_grow_5 : decode b_A_grow 5 = .ok (.iconst 1, 1) := by decide +kernel
theorem d_A_grow_6 : decode b_A_grow 6 = .ok (.iadd, 1) := by decide +kernel
theorem d_A_grow_7 : decode b_A_grow 7 = .ok (.invokevirtual 69, 3) := by decide +kernel
theorem d_A_grow_10 : decode b_A_grow 10 = .ok (.areturn, 1) := by decide +kernel
theorem cal_A_grow : am_cal y_A_grow b_A_grow 1 ((Option.some (FieldType.array (FieldType.object "java/lang/Object")))) 0 := ⟨Or.inl wx_235, wx_4, by decide, by decide +kernel⟩
abbrev y_A_grow2 : MethodName := ⟨"java/util/ArrayList", "grow", "(I)[Ljava/lang/Object;"⟩
abbrev b_A_grow2 : ByteArray := prog_20_method_6_code
theorem d_A_grow2_0 : decode b_A_grow2 0 = .ok (.aload_n 0, 1) := by decide +kernel
theorem d_A_grow2_1 : decode b_A_grow2 1 = .ok (.getfield 9, 3) := by decide +kernel
theorem d_A_grow2_4 : decode b_A_grow2 4 = .ok (.arraylength, 1) := by decide +kernel
theorem d_A_grow2_5 : decode b_A_grow2 5 = .ok (.istore_n 2, 1) := by decide +kernel
theorem d_A_grow2_6 : decode b_A_grow2 6 = .ok (.iload_n 2, 1) := by decide +kernel
theorem d_A_grow2_7 : decode b_A_grow2 7 = .ok (.ifCond .gt 13, 3) := by decide +kernel
theorem d_A_grow2_10 : decode b_A_grow2 10 = .ok (.aload_n 0, 1) := by decide +kernel
theorem d_A_grow2_11 : decode b_A_grow2 11 = .ok (.getfield 9, 3) := by decide +kernel
theorem d_A_grow2_14 : decode b_A_grow2 14 = .ok (.getstatic 39, 3) := by decide +kernel
theorem d_A_grow2_17 : decode b_A_grow2 17 = .ok (.if_acmp .eq 28, 3) := by decide +kernel
theorem d_A_grow2_20 : decode b_A_grow2 20 = .ok (.iload_n 2, 1) := by decide +kernel
theorem d_A_grow2_21 : decode b_A_grow2 21 = .ok (.iload_n 1, 1) := by decide +kernel
theorem d_A_grow2_22 : decode b_A_grow2 22 = .ok (.iload_n 2, 1) := by decide +kernel
theorem d_A_grow2_23 : decode b_A_grow2 23 = .ok (.isub, 1) := by decide +kernel
theorem d_A_grow2_24 : decode b_A_grow2 24 = .ok (.iload_n 2, 1) := by decide +kernel
theorem d_A_grow2_25 : decode b_A_grow2 25 = .ok (.iconst 1, 1) := by decide +kernel
theorem d_A_grow2_26 : decode b_A_grow2 26 = .ok (.ishr, 1) := by decide +kernel
theorem d_A_grow2_27 : decode b_A_grow2 27 = .ok (.invokestatic 73, 3) := by decide +kernel
theorem d_A_grow2_30 : decode b_A_grow2 30 = .ok (.istore_n 3, 1) := by decide +kernel
theorem d_A_grow2_31 : decode b_A_grow2 31 = .ok (.aload_n 0, 1) := by decide +kernel
theorem d_A_grow2_32 : decode b_A_grow2 32 = .ok (.aload_n 0, 1) := by decide +kernel
theorem d_A_grow2_33 : decode b_A_grow2 33 = .ok (.getfield 9, 3) := by decide +kernel
theorem d_A_grow2_36 : decode b_A_grow2 36 = .ok (.iload_n 3, 1) := by decide +kernel
theorem d_A_grow2_37 : decode b_A_grow2 37 = .ok (.invokestatic 66, 3) := by decide +kernel
theorem d_A_grow2_40 : decode b_A_grow2 40 = .ok (.dup_x1, 1) := by decide +kernel
theorem d_A_grow2_41 : decode b_A_grow2 41 = .ok (.putfield 9, 3) := by decide +kernel
theorem d_A_grow2_44 : decode b_A_grow2 44 = .ok (.areturn, 1) := by decide +kernel
theorem d_A_grow2_45 : decode b_A_grow2 45 = .ok (.aload_n 0, 1) := by decide +kernel
theorem d_A_grow2_46 : decode b_A_grow2 46 = .ok (.bipush 10, 2) := by decide +kernel
theorem d_A_grow2_48 : decode b_A_grow2 48 = .ok (.iload_n 1, 1) := by decide +kernel
theorem d_A_grow2_49 : decode b_A_grow2 49 = .ok (.invokestatic 79, 3) := by decide +kernel
theorem d_A_grow2_52 : decode b_A_grow2 52 = .ok (.anewarray 7, 3) := by decide +kernel
theorem d_A_grow2_55 : decode b_A_grow2 55 = .ok (.dup_x1, 1) := by decide +kernel
theorem d_A_grow2_56 : decode b_A_grow2 56 = .ok (.putfield 9, 3) := by decide +kernel
theorem d_A_grow2_59 : decode b_A_grow2 59 = .ok (.areturn, 1) := by decide +kernel
theorem cal_A_grow2 : am_cal y_A_grow2 b_A_grow2 4 ((Option.some (FieldType.array (FieldType.object "java/lang/Object")))) 1 := ⟨Or.inl wx_239, wx_4, by decide, by decide +kernel⟩
abbrev y_AR_newLength : MethodName := ⟨"jdk/internal/util/ArraysSupport", "newLength", "(III)I"⟩
abbrev b_AR_newLength : ByteArray := prog_27_method_27_code
theorem d_AR_newLength_0 : decode b_AR_newLength 0 = .ok (.iload_n 0, 1) := by decide +kernel
theorem d_AR_newLength_1 : decode b_AR_newLength 1 = .ok (.iload_n 1, 1) := by decide +kernel
theorem d_AR_newLength_2 : decode b_AR_newLength 2 = .ok (.iload_n 2, 1) := by decide +kernel
theorem d_AR_newLength_3 : decode b_AR_newLength 3 = .ok (.invokestatic 194, 3) := by decide +kernel
theorem d_AR_newLength_6 : decode b_AR_newLength 6 = .ok (.iadd, 1) := by decide +kernel
theorem d_AR_newLength_7 : decode b_AR_newLength 7 = .ok (.istore_n 3, 1) := by decide +kernel
theorem d_AR_newLength_8 : decode b_AR_newLength 8 = .ok (.iconst 0, 1) := by decide +kernel
theorem d_AR_newLength_9 : decode b_AR_newLength 9 = .ok (.iload_n 3, 1) := by decide +kernel
theorem d_AR_newLength_10 : decode b_AR_newLength 10 = .ok (.if_icmp .ge 11, 3) := by decide +kernel
theorem d_AR_newLength_13 : decode b_AR_newLength 13 = .ok (.iload_n 3, 1) := by decide +kernel
theorem d_AR_newLength_14 : decode b_AR_newLength 14 = .ok (.ldc 200, 2) := by decide +kernel
theorem d_AR_newLength_16 : decode b_AR_newLength 16 = .ok (.if_icmp .gt 5, 3) := by decide +kernel
theorem d_AR_newLength_19 : decode b_AR_newLength 19 = .ok (.iload_n 3, 1) := by decide +kernel
theorem d_AR_newLength_20 : decode b_AR_newLength 20 = .ok (.ireturn, 1) := by decide +kernel
theorem d_AR_newLength_21 : decode b_AR_newLength 21 = .ok (.iload_n 0, 1) := by decide +kernel
theorem d_AR_newLength_22 : decode b_AR_newLength 22 = .ok (.iload_n 1, 1) := by decide +kernel
theorem d_AR_newLength_23 : decode b_AR_newLength 23 = .ok (.invokestatic 201, 3) := by decide +kernel
theorem d_AR_newLength_26 : decode b_AR_newLength 26 = .ok (.ireturn, 1) := by decide +kernel
theorem cal_AR_newLength : am_cal y_AR_newLength b_AR_newLength 4 ((Option.some FieldType.int)) 3 := ⟨Or.inl wx_242, wx_13, by decide, by decide +kernel⟩
abbrev y_MA_max : MethodName := ⟨"java/lang/Math", "max", "(II)I"⟩
abbrev b_MA_max : ByteArray := prog_13_method_65_code
theorem d_MA_max_0 : decode b_MA_max 0 = .ok (.iload_n 0, 1) := by decide +kernel
theorem d_MA_max_1 : decode b_MA_max 1 = .ok (.iload_n 1, 1) := by decide +kernel
theorem d_MA_max_2 : decode b_MA_max 2 = .ok (.if_icmp .lt 7, 3) := by decide +kernel
theorem d_MA_max_5 : decode b_MA_max 5 = .ok (.iload_n 0, 1) := by decide +kernel
theorem d_MA_max_6 : decode b_MA_max 6 = .ok (.goto 4, 3) := by decide +kernel
theorem d_MA_max_9 : decode b_MA_max 9 = .ok (.iload_n 1, 1) := by decide +kernel
theorem d_MA_max_10 : decode b_MA_max 10 = .ok (.ireturn, 1) := by decide +kernel
theorem cal_MA_max : am_cal y_MA_max b_MA_max 2 ((Option.some FieldType.int)) 2 := ⟨Or.inl wx_245, wx_14, by decide, by decide +kernel⟩
abbrev y_AR_hugeLength : MethodName := ⟨"jdk/internal/util/ArraysSupport", "hugeLength", "(II)I"⟩
abbrev b_AR_hugeLength : ByteArray := prog_27_method_28_code
theorem d_AR_hugeLength_0 : decode b_AR_hugeLength 0 = .ok (.iload_n 0, 1) := by decide +kernel
theorem d_AR_hugeLength_1 : decode b_AR_hugeLength 1 = .ok (.iload_n 1, 1) := by decide +kernel
theorem d_AR_hugeLength_2 : decode b_AR_hugeLength 2 = .ok (.iadd, 1) := by decide +kernel
theorem d_AR_hugeLength_3 : decode b_AR_hugeLength 3 = .ok (.istore_n 2, 1) := by decide +kernel
theorem d_AR_hugeLength_4 : decode b_AR_hugeLength 4 = .ok (.iload_n 2, 1) := by decide +kernel
theorem d_AR_hugeLength_5 : decode b_AR_hugeLength 5 = .ok (.ifCond .ge 44, 3) := by decide +kernel
theorem d_AR_hugeLength_8 : decode b_AR_hugeLength 8 = .ok (.new 204, 3) := by decide +kernel
theorem d_AR_hugeLength_11 : decode b_AR_hugeLength 11 = .ok (.dup, 1) := by decide +kernel
theorem d_AR_hugeLength_12 : decode b_AR_hugeLength 12 = .ok (.new 89, 3) := by decide +kernel
theorem d_AR_hugeLength_15 : decode b_AR_hugeLength 15 = .ok (.dup, 1) := by decide +kernel
theorem d_AR_hugeLength_16 : decode b_AR_hugeLength 16 = .ok (.invokespecial 91, 3) := by decide +kernel
theorem d_AR_hugeLength_19 : decode b_AR_hugeLength 19 = .ok (.ldc 206, 2) := by decide +kernel
theorem d_AR_hugeLength_21 : decode b_AR_hugeLength 21 = .ok (.invokevirtual 94, 3) := by decide +kernel
theorem d_AR_hugeLength_24 : decode b_AR_hugeLength 24 = .ok (.iload_n 0, 1) := by decide +kernel
theorem d_AR_hugeLength_25 : decode b_AR_hugeLength 25 = .ok (.invokevirtual 98, 3) := by decide +kernel
theorem d_AR_hugeLength_28 : decode b_AR_hugeLength 28 = .ok (.ldc 208, 2) := by decide +kernel
theorem d_AR_hugeLength_30 : decode b_AR_hugeLength 30 = .ok (.invokevirtual 94, 3) := by decide +kernel
theorem d_AR_hugeLength_33 : decode b_AR_hugeLength 33 = .ok (.iload_n 1, 1) := by decide +kernel
theorem d_AR_hugeLength_34 : decode b_AR_hugeLength 34 = .ok (.invokevirtual 98, 3) := by decide +kernel
theorem d_AR_hugeLength_37 : decode b_AR_hugeLength 37 = .ok (.ldc 210, 2) := by decide +kernel
theorem d_AR_hugeLength_39 : decode b_AR_hugeLength 39 = .ok (.invokevirtual 94, 3) := by decide +kernel
theorem d_AR_hugeLength_42 : decode b_AR_hugeLength 42 = .ok (.invokevirtual 101, 3) := by decide +kernel
theorem d_AR_hugeLength_45 : decode b_AR_hugeLength 45 = .ok (.invokespecial 212, 3) := by decide +kernel
theorem d_AR_hugeLength_48 : decode b_AR_hugeLength 48 = .ok (.athrow, 1) := by decide +kernel
theorem d_AR_hugeLength_49 : decode b_AR_hugeLength 49 = .ok (.iload_n 2, 1) := by decide +kernel
theorem d_AR_hugeLength_50 : decode b_AR_hugeLength 50 = .ok (.ldc 200, 2) := by decide +kernel
theorem d_AR_hugeLength_52 : decode b_AR_hugeLength 52 = .ok (.if_icmp .gt 6, 3) := by decide +kernel
theorem d_AR_hugeLength_55 : decode b_AR_hugeLength 55 = .ok (.ldc 200, 2) := by decide +kernel
theorem d_AR_hugeLength_57 : decode b_AR_hugeLength 57 = .ok (.ireturn, 1) := by decide +kernel
theorem d_AR_hugeLength_58 : decode b_AR_hugeLength 58 = .ok (.iload_n 2, 1) := by decide +kernel
theorem d_AR_hugeLength_59 : decode b_AR_hugeLength 59 = .ok (.ireturn, 1) := by decide +kernel
theorem cal_AR_hugeLength : am_cal y_AR_hugeLength b_AR_hugeLength 3 ((Option.some FieldType.int)) 2 := ⟨Or.inl wx_249, wx_13, by decide, by decide +kernel⟩
abbrev y_AS_copyOf : MethodName := ⟨"java/util/Arrays", "copyOf", "([Ljava/lang/Object;I)[Ljava/lang/Object;"⟩
abbrev b_AS_copyOf : ByteArray := prog_21_method_119_code
theorem d_AS_copyOf_0 : decode b_AS_copyOf 0 = .ok (.aload_n 0, 1) := by decide +kernel
theorem d_AS_copyOf_1 : decode b_AS_copyOf 1 = .ok (.iload_n 1, 1) := by decide +kernel
theorem d_AS_copyOf_2 : decode b_AS_copyOf 2 = .ok (.aload_n 0, 1) := by decide +kernel
theorem d_AS_copyOf_3 : decode b_AS_copyOf 3 = .ok (.invokevirtual 86, 3) := by decide +kernel
theorem d_AS_copyOf_6 : decode b_AS_copyOf 6 = .ok (.invokestatic 300, 3) := by decide +kernel
theorem d_AS_copyOf_9 : decode b_AS_copyOf 9 = .ok (.areturn, 1) := by decide +kernel
theorem cal_AS_copyOf : am_cal y_AS_copyOf b_AS_copyOf 2 ((Option.some (FieldType.array (FieldType.object "java/lang/Object")))) 2 := ⟨Or.inl wx_252, wx_5, by decide, by decide +kernel⟩
abbrev y_AS_copyOf2 : MethodName := ⟨"java/util/Arrays", "copyOf", "([Ljava/lang/Object;ILjava/lang/Class;)[Ljava/lang/Object;"⟩
abbrev b_AS_copyOf2 : ByteArray := prog_21_method_120_code
theorem d_AS_copyOf2_0 : decode b_AS_copyOf2 0 = .ok (.aload_n 2, 1) := by decide +kernel
theorem d_AS_copyOf2_1 : decode b_AS_copyOf2 1 = .ok (.ldc 110, 2) := by decide +kernel
theorem d_AS_copyOf2_3 : decode b_AS_copyOf2 3 = .ok (.if_acmp .ne 10, 3) := by decide +kernel
theorem d_AS_copyOf2_6 : decode b_AS_copyOf2 6 = .ok (.iload_n 1, 1) := by decide +kernel
theorem d_AS_copyOf2_7 : decode b_AS_copyOf2 7 = .ok (.anewarray 2, 3) := by decide +kernel
theorem d_AS_copyOf2_10 : decode b_AS_copyOf2 10 = .ok (.goto 14, 3) := by decide +kernel
theorem d_AS_copyOf2_13 : decode b_AS_copyOf2 13 = .ok (.aload_n 2, 1) := by decide +kernel
theorem d_AS_copyOf2_14 : decode b_AS_copyOf2 14 = .ok (.invokevirtual 90, 3) := by decide +kernel
theorem d_AS_copyOf2_17 : decode b_AS_copyOf2 17 = .ok (.iload_n 1, 1) := by decide +kernel
theorem d_AS_copyOf2_18 : decode b_AS_copyOf2 18 = .ok (.invokestatic 95, 3) := by decide +kernel
theorem d_AS_copyOf2_21 : decode b_AS_copyOf2 21 = .ok (.checkcast 110, 3) := by decide +kernel
theorem d_AS_copyOf2_24 : decode b_AS_copyOf2 24 = .ok (.astore_n 3, 1) := by decide +kernel
theorem d_AS_copyOf2_25 : decode b_AS_copyOf2 25 = .ok (.aload_n 0, 1) := by decide +kernel
theorem d_AS_copyOf2_26 : decode b_AS_copyOf2 26 = .ok (.iconst 0, 1) := by decide +kernel
theorem d_AS_copyOf2_27 : decode b_AS_copyOf2 27 = .ok (.aload_n 3, 1) := by decide +kernel
theorem d_AS_copyOf2_28 : decode b_AS_copyOf2 28 = .ok (.iconst 0, 1) := by decide +kernel
theorem d_AS_copyOf2_29 : decode b_AS_copyOf2 29 = .ok (.aload_n 0, 1) := by decide +kernel
theorem d_AS_copyOf2_30 : decode b_AS_copyOf2 30 = .ok (.arraylength, 1) := by decide +kernel
theorem d_AS_copyOf2_31 : decode b_AS_copyOf2 31 = .ok (.iload_n 1, 1) := by decide +kernel
theorem d_AS_copyOf2_32 : decode b_AS_copyOf2 32 = .ok (.invokestatic 304, 3) := by decide +kernel
theorem d_AS_copyOf2_35 : decode b_AS_copyOf2 35 = .ok (.invokestatic 150, 3) := by decide +kernel
theorem d_AS_copyOf2_38 : decode b_AS_copyOf2 38 = .ok (.aload_n 3, 1) := by decide +kernel
theorem d_AS_copyOf2_39 : decode b_AS_copyOf2 39 = .ok (.areturn, 1) := by decide +kernel
theorem cal_AS_copyOf2 : am_cal y_AS_copyOf2 b_AS_copyOf2 4 ((Option.some (FieldType.array (FieldType.object "java/lang/Object")))) 3 := ⟨Or.inl wx_267, wx_5, by decide, by decide +kernel⟩
abbrev y_MA_min : MethodName := ⟨"java/lang/Math", "min", "(II)I"⟩
abbrev b_MA_min : ByteArray := prog_13_method_69_code
theorem d_MA_min_0 : decode b_MA_min 0 = .ok (.iload_n 0, 1) := by decide +kernel
theorem d_MA_min_1 : decode b_MA_min 1 = .ok (.iload_n 1, 1) := by decide +kernel
theorem d_MA_min_2 : decode b_MA_min 2 = .ok (.if_icmp .gt 7, 3) := by decide +kernel
theorem d_MA_min_5 : decode b_MA_min 5 = .ok (.iload_n 0, 1) := by decide +kernel
theorem d_MA_min_6 : decode b_MA_min 6 = .ok (.goto 4, 3) := by decide +kernel
theorem d_MA_min_9 : decode b_MA_min 9 = .ok (.iload_n 1, 1) := by decide +kernel
theorem d_MA_min_10 : decode b_MA_min 10 = .ok (.ireturn, 1) := by decide +kernel
theorem cal_MA_min : am_cal y_MA_min b_MA_min 2 ((Option.some FieldType.int)) 2 := ⟨Or.inl wx_273, wx_14, by decide, by decide +kernel⟩
abbrev y_A_get : MethodName := ⟨"java/util/ArrayList", "get", "(I)Ljava/lang/Object;"⟩
abbrev b_A_get : ByteArray := prog_20_method_20_code
theorem d_A_get_0 : decode b_A_get 0 = .ok (.iload_n 1, 1) := by decide +kernel
theorem d_A_get_1 : decode b_A_get 1 = .ok (.aload_n 0, 1) := by decide +kernel
theorem d_A_get_2 : decode b_A_get 2 = .ok (.getfield 48, 3) := by decide +kernel
theorem d_A_get_5 : decode b_A_get 5 = .ok (.invokestatic 118, 3) := by decide +kernel
theorem d_A_get_8 : decode b_A_get 8 = .ok (.pop, 1) := by decide +kernel
theorem d_A_get_9 : decode b_A_get 9 = .ok (.aload_n 0, 1) := by decide +kernel
theorem d_A_get_10 : decode b_A_get 10 = .ok (.iload_n 1, 1) := by decide +kernel
theorem d_A_get_11 : decode b_A_get 11 = .ok (.invokevirtual 123, 3) := by decide +kernel
theorem d_A_get_14 : decode b_A_get 14 = .ok (.areturn, 1) := by decide +kernel
theorem cal_A_get : am_cal y_A_get b_A_get 2 ((Option.some (FieldType.object "java/lang/Object"))) 1 := ⟨Or.inl wx_286, wx_4, by decide, by decide +kernel⟩
abbrev y_OB_checkIndex : MethodName := ⟨"java/util/Objects", "checkIndex", "(II)I"⟩
abbrev b_OB_checkIndex : ByteArray := prog_24_method_17_code
theorem d_OB_checkIndex_0 : decode b_OB_checkIndex 0 = .ok (.iload_n 0, 1) := by decide +kernel
theorem d_OB_checkIndex_1 : decode b_OB_checkIndex 1 = .ok (.iload_n 1, 1) := by decide +kernel
theorem d_OB_checkIndex_2 : decode b_OB_checkIndex 2 = .ok (.aconst_null, 1) := by decide +kernel
theorem d_OB_checkIndex_3 : decode b_OB_checkIndex 3 = .ok (.invokestatic 105, 3) := by decide +kernel
theorem d_OB_checkIndex_6 : decode b_OB_checkIndex 6 = .ok (.ireturn, 1) := by decide +kernel
theorem cal_OB_checkIndex : am_cal y_OB_checkIndex b_OB_checkIndex 2 ((Option.some FieldType.int)) 2 := ⟨Or.inl wx_289, wx_16, by decide, by decide +kernel⟩
abbrev y_PR_checkIndex : MethodName := ⟨"jdk/internal/util/Preconditions", "checkIndex", "(IILjava/util/function/BiFunction;)I"⟩
abbrev b_PR_checkIndex : ByteArray := prog_28_method_11_code
theorem d_PR_checkIndex_0 : decode b_PR_checkIndex 0 = .ok (.iload_n 0, 1) := by decide +kernel
theorem d_PR_checkIndex_1 : decode b_PR_checkIndex 1 = .ok (.ifCond .lt 8, 3) := by decide +kernel
theorem d_PR_checkIndex_4 : decode b_PR_checkIndex 4 = .ok (.iload_n 0, 1) := by decide +kernel
theorem d_PR_checkIndex_5 : decode b_PR_checkIndex 5 = .ok (.iload_n 1, 1) := by decide +kernel
theorem d_PR_checkIndex_6 : decode b_PR_checkIndex 6 = .ok (.if_icmp .lt 10, 3) := by decide +kernel
theorem d_PR_checkIndex_9 : decode b_PR_checkIndex 9 = .ok (.aload_n 2, 1) := by decide +kernel
theorem d_PR_checkIndex_10 : decode b_PR_checkIndex 10 = .ok (.iload_n 0, 1) := by decide +kernel
theorem d_PR_checkIndex_11 : decode b_PR_checkIndex 11 = .ok (.iload_n 1, 1) := by decide +kernel
theorem d_PR_checkIndex_12 : decode b_PR_checkIndex 12 = .ok (.invokestatic 95, 3) := by decide +kernel
theorem d_PR_checkIndex_15 : decode b_PR_checkIndex 15 = .ok (.athrow, 1) := by decide +kernel
theorem d_PR_checkIndex_16 : decode b_PR_checkIndex 16 = .ok (.iload_n 0, 1) := by decide +kernel
theorem d_PR_checkIndex_17 : decode b_PR_checkIndex 17 = .ok (.ireturn, 1) := by decide +kernel
theorem cal_PR_checkIndex : am_cal y_PR_checkIndex b_PR_checkIndex 3 ((Option.some FieldType.int)) 3 := ⟨Or.inl wx_292, wx_17, by decide, by decide +kernel⟩
abbrev y_A_elementData : MethodName := ⟨"java/util/ArrayList", "elementData", "(I)Ljava/lang/Object;"⟩
abbrev b_A_elementData : ByteArray := prog_20_method_18_code
theorem d_A_elementData_0 : decode b_A_elementData 0 = .ok (.aload_n 0, 1) := by decide +kernel
theorem d_A_elementData_1 : decode b_A_elementData 1 = .ok (.getfield 9, 3) := by decide +kernel
theorem d_A_elementData_4 : decode b_A_elementData 4 = .ok (.iload_n 1, 1) := by decide +kernel
theorem d_A_elementData_5 : decode b_A_elementData 5 = .ok (.aaload, 1) := by decide +kernel
theorem d_A_elementData_6 : decode b_A_elementData 6 = .ok (.areturn, 1) := by decide +kernel
theorem cal_A_elementData : am_cal y_A_elementData b_A_elementData 2 ((Option.some (FieldType.object "java/lang/Object"))) 1 := ⟨Or.inl wx_296, wx_4, by decide, by decide +kernel⟩
abbrev y_A_add3 : MethodName := ⟨"java/util/ArrayList", "add", "(ILjava/lang/Object;)V"⟩
abbrev b_A_add3 : ByteArray := prog_20_method_26_code
theorem d_A_add3_0 : decode b_A_add3 0 = .ok (.aload_n 0, 1) := by decide +kernel
theorem d_A_add3_1 : decode b_A_add3 1 = .ok (.iload_n 1, 1) := by decide +kernel
theorem d_A_add3_2 : decode b_A_add3 2 = .ok (.invokevirtual 135, 3) := by decide +kernel
theorem d_A_add3_5 : decode b_A_add3 5 = .ok (.aload_n 0, 1) := by decide +kernel
theorem d_A_add3_6 : decode b_A_add3 6 = .ok (.dup, 1) := by decide +kernel
theorem d_A_add3_7 : decode b_A_add3 7 = .ok (.getfield 63, 3) := by decide +kernel
theorem d_A_add3_10 : decode b_A_add3 10 = .ok (.iconst 1, 1) := by decide +kernel
theorem d_A_add3_11 : decode b_A_add3 11 = .ok (.iadd, 1) := by decide +kernel
theorem d_A_add3_12 : decode b_A_add3 12 = .ok (.putfield 63, 3) := by decide +kernel
theorem d_A_add3_15 : decode b_A_add3 15 = .ok (.aload_n 0, 1) := by decide +kernel
theorem d_A_add3_16 : decode b_A_add3 16 = .ok (.getfield 48, 3) := by decide +kernel
theorem d_A_add3_19 : decode b_A_add3 19 = .ok (.dup, 1) := by decide +kernel
theorem d_A_add3_20 : decode b_A_add3 20 = .ok (.istore_n 3, 1) := by decide +kernel
theorem d_A_add3_21 : decode b_A_add3 21 = .ok (.aload_n 0, 1) := by decide +kernel
theorem d_A_add3_22 : decode b_A_add3 22 = .ok (.getfield 9, 3) := by decide +kernel
theorem d_A_add3_25 : decode b_A_add3 25 = .ok (.dup, 1) := by decide +kernel
theorem d_A_add3_26 : decode b_A_add3 26 = .ok (.astore 4, 2) := by decide +kernel
theorem d_A_add3_28 : decode b_A_add3 28 = .ok (.arraylength, 1) := by decide +kernel
theorem d_A_add3_29 : decode b_A_add3 29 = .ok (.if_icmp .ne 9, 3) := by decide +kernel
theorem d_A_add3_32 : decode b_A_add3 32 = .ok (.aload_n 0, 1) := by decide +kernel
theorem d_A_add3_33 : decode b_A_add3 33 = .ok (.invokevirtual 129, 3) := by decide +kernel
theorem d_A_add3_36 : decode b_A_add3 36 = .ok (.astore 4, 2) := by decide +kernel
theorem d_A_add3_38 : decode b_A_add3 38 = .ok (.aload 4, 2) := by decide +kernel
theorem d_A_add3_40 : decode b_A_add3 40 = .ok (.iload_n 1, 1) := by decide +kernel
theorem d_A_add3_41 : decode b_A_add3 41 = .ok (.aload 4, 2) := by decide +kernel
theorem d_A_add3_43 : decode b_A_add3 43 = .ok (.iload_n 1, 1) := by decide +kernel
theorem d_A_add3_44 : decode b_A_add3 44 = .ok (.iconst 1, 1) := by decide +kernel
theorem d_A_add3_45 : decode b_A_add3 45 = .ok (.iadd, 1) := by decide +kernel
theorem d_A_add3_46 : decode b_A_add3 46 = .ok (.iload_n 3, 1) := by decide +kernel
theorem d_A_add3_47 : decode b_A_add3 47 = .ok (.iload_n 1, 1) := by decide +kernel
theorem d_A_add3_48 : decode b_A_add3 48 = .ok (.isub, 1) := by decide +kernel
theorem d_A_add3_49 : decode b_A_add3 49 = .ok (.invokestatic 112, 3) := by decide +kernel
theorem d_A_add3_52 : decode b_A_add3 52 = .ok (.aload 4, 2) := by decide +kernel
theorem d_A_add3_54 : decode b_A_add3 54 = .ok (.iload_n 1, 1) := by decide +kernel
theorem d_A_add3_55 : decode b_A_add3 55 = .ok (.aload_n 2, 1) := by decide +kernel
theorem d_A_add3_56 : decode b_A_add3 56 = .ok (.aastore, 1) := by decide +kernel
theorem d_A_add3_57 : decode b_A_add3 57 = .ok (.aload_n 0, 1) := by decide +kernel
theorem d_A_add3_58 : decode b_A_add3 58 = .ok (.iload_n 3, 1) := by decide +kernel
theorem d_A_add3_59 : decode b_A_add3 59 = .ok (.iconst 1, 1) := by decide +kernel
theorem d_A_add3_60 : decode b_A_add3 60 = .ok (.iadd, 1) := by decide +kernel
theorem d_A_add3_61 : decode b_A_add3 61 = .ok (.putfield 48, 3) := by decide +kernel
theorem d_A_add3_64 : decode b_A_add3 64 = .ok (.return_, 1) := by decide +kernel
theorem cal_A_add3 : am_cal y_A_add3 b_A_add3 5 ((Option.none : Option FieldType)) 2 := ⟨Or.inl wx_300, wx_4, by decide, by decide +kernel⟩
abbrev y_A_rangeCheckForAdd : MethodName := ⟨"java/util/ArrayList", "rangeCheckForAdd", "(I)V"⟩
abbrev b_A_rangeCheckForAdd : ByteArray := prog_20_method_45_code
theorem d_A_rangeCheckForAdd_0 : decode b_A_rangeCheckForAdd 0 = .ok (.iload_n 1, 1) := by decide +kernel
theorem d_A_rangeCheckForAdd_1 : decode b_A_rangeCheckForAdd 1 = .ok (.aload_n 0, 1) := by decide +kernel
theorem d_A_rangeCheckForAdd_2 : decode b_A_rangeCheckForAdd 2 = .ok (.getfield 48, 3) := by decide +kernel
theorem d_A_rangeCheckForAdd_5 : decode b_A_rangeCheckForAdd 5 = .ok (.if_icmp .gt 7, 3) := by decide +kernel
theorem d_A_rangeCheckForAdd_8 : decode b_A_rangeCheckForAdd 8 = .ok (.iload_n 1, 1) := by decide +kernel
theorem d_A_rangeCheckForAdd_9 : decode b_A_rangeCheckForAdd 9 = .ok (.ifCond .ge 16, 3) := by decide +kernel
theorem d_A_rangeCheckForAdd_12 : decode b_A_rangeCheckForAdd 12 = .ok (.new 187, 3) := by decide +kernel
theorem d_A_rangeCheckForAdd_15 : decode b_A_rangeCheckForAdd 15 = .ok (.dup, 1) := by decide +kernel
theorem d_A_rangeCheckForAdd_16 : decode b_A_rangeCheckForAdd 16 = .ok (.aload_n 0, 1) := by decide +kernel
theorem d_A_rangeCheckForAdd_17 : decode b_A_rangeCheckForAdd 17 = .ok (.iload_n 1, 1) := by decide +kernel
theorem d_A_rangeCheckForAdd_18 : decode b_A_rangeCheckForAdd 18 = .ok (.invokevirtual 198, 3) := by decide +kernel
theorem d_A_rangeCheckForAdd_21 : decode b_A_rangeCheckForAdd 21 = .ok (.invokespecial 193, 3) := by decide +kernel
theorem d_A_rangeCheckForAdd_24 : decode b_A_rangeCheckForAdd 24 = .ok (.athrow, 1) := by decide +kernel
theorem d_A_rangeCheckForAdd_25 : decode b_A_rangeCheckForAdd 25 = .ok (.return_, 1) := by decide +kernel
theorem cal_A_rangeCheckForAdd : am_cal y_A_rangeCheckForAdd b_A_rangeCheckForAdd 2 ((Option.none : Option FieldType)) 1 := ⟨Or.inl wx_304, wx_4, by decide, by decide +kernel⟩
abbrev y_L_meter : MethodName := ⟨"BillSharesLaw", "meter", "(LBillShares;IIIII[J)I"⟩
abbrev b_L_meter : ByteArray := method_4_code
theorem d_L_meter_0 : decode b_L_meter 0 = .ok (.aload 6, 2) := by decide +kernel
theorem d_L_meter_2 : decode b_L_meter 2 = .ok (.iconst 0, 1) := by decide +kernel
theorem d_L_meter_3 : decode b_L_meter 3 = .ok (.aload_n 0, 1) := by decide +kernel
theorem d_L_meter_4 : decode b_L_meter 4 = .ok (.iload_n 1, 1) := by decide +kernel
theorem d_L_meter_5 : decode b_L_meter 5 = .ok (.iload_n 2, 1) := by decide +kernel
theorem d_L_meter_6 : decode b_L_meter 6 = .ok (.iload_n 3, 1) := by decide +kernel
theorem d_L_meter_7 : decode b_L_meter 7 = .ok (.iload 4, 2) := by decide +kernel
theorem d_L_meter_9 : decode b_L_meter 9 = .ok (.iload 5, 2) := by decide +kernel
theorem d_L_meter_11 : decode b_L_meter 11 = .ok (.invokevirtual 17, 3) := by decide +kernel
theorem d_L_meter_14 : decode b_L_meter 14 = .ok (.i2l, 1) := by decide +kernel
theorem d_L_meter_15 : decode b_L_meter 15 = .ok (.lastore, 1) := by decide +kernel
theorem d_L_meter_16 : decode b_L_meter 16 = .ok (.goto 11, 3) := by decide +kernel
theorem d_L_meter_19 : decode b_L_meter 19 = .ok (.astore 7, 2) := by decide +kernel
theorem d_L_meter_21 : decode b_L_meter 21 = .ok (.iconst 1, 1) := by decide +kernel
theorem d_L_meter_22 : decode b_L_meter 22 = .ok (.ireturn, 1) := by decide +kernel
theorem d_L_meter_23 : decode b_L_meter 23 = .ok (.astore 7, 2) := by decide +kernel
theorem d_L_meter_25 : decode b_L_meter 25 = .ok (.iconst 2, 1) := by decide +kernel
theorem d_L_meter_26 : decode b_L_meter 26 = .ok (.ireturn, 1) := by decide +kernel
theorem d_L_meter_27 : decode b_L_meter 27 = .ok (.iconst 0, 1) := by decide +kernel
theorem d_L_meter_28 : decode b_L_meter 28 = .ok (.ireturn, 1) := by decide +kernel
theorem cal_L_meter : am_cal y_L_meter b_L_meter 8 ((Option.some FieldType.int)) 7 := ⟨Or.inr ⟨_, wx_308⟩, wx_0, by decide, by decide +kernel⟩
abbrev y_L_reading : MethodName := ⟨"BillSharesLaw", "reading", "(LBillShares;III[J)I"⟩
abbrev b_L_reading : ByteArray := method_5_code
theorem d_L_reading_0 : decode b_L_reading 0 = .ok (.aload 4, 2) := by decide +kernel
theorem d_L_reading_2 : decode b_L_reading 2 = .ok (.iconst 0, 1) := by decide +kernel
theorem d_L_reading_3 : decode b_L_reading 3 = .ok (.aload_n 0, 1) := by decide +kernel
theorem d_L_reading_4 : decode b_L_reading 4 = .ok (.iload_n 1, 1) := by decide +kernel
theorem d_L_reading_5 : decode b_L_reading 5 = .ok (.iload_n 2, 1) := by decide +kernel
theorem d_L_reading_6 : decode b_L_reading 6 = .ok (.iload_n 3, 1) := by decide +kernel
theorem d_L_reading_7 : decode b_L_reading 7 = .ok (.invokevirtual 21, 3) := by decide +kernel
theorem d_L_reading_10 : decode b_L_reading 10 = .ok (.i2l, 1) := by decide +kernel
theorem d_L_reading_11 : decode b_L_reading 11 = .ok (.lastore, 1) := by decide +kernel
theorem d_L_reading_12 : decode b_L_reading 12 = .ok (.goto 11, 3) := by decide +kernel
theorem d_L_reading_15 : decode b_L_reading 15 = .ok (.astore 5, 2) := by decide +kernel
theorem d_L_reading_17 : decode b_L_reading 17 = .ok (.iconst 1, 1) := by decide +kernel
theorem d_L_reading_18 : decode b_L_reading 18 = .ok (.ireturn, 1) := by decide +kernel
theorem d_L_reading_19 : decode b_L_reading 19 = .ok (.astore 5, 2) := by decide +kernel
theorem d_L_reading_21 : decode b_L_reading 21 = .ok (.iconst 2, 1) := by decide +kernel
theorem d_L_reading_22 : decode b_L_reading 22 = .ok (.ireturn, 1) := by decide +kernel
theorem d_L_reading_23 : decode b_L_reading 23 = .ok (.iconst 0, 1) := by decide +kernel
theorem d_L_reading_24 : decode b_L_reading 24 = .ok (.ireturn, 1) := by decide +kernel
theorem cal_L_reading : am_cal y_L_reading b_L_reading 6 ((Option.some FieldType.int)) 5 := ⟨Or.inr ⟨_, wx_361⟩, wx_0, by decide, by decide +kernel⟩
abbrev y_L_changed : MethodName := ⟨"BillSharesLaw", "changed", "(LBillShares;IIII[J)I"⟩
abbrev b_L_changed : ByteArray := method_6_code
theorem d_L_changed_0 : decode b_L_changed 0 = .ok (.aload 5, 2) := by decide +kernel
theorem d_L_changed_2 : decode b_L_changed 2 = .ok (.iconst 0, 1) := by decide +kernel
theorem d_L_changed_3 : decode b_L_changed 3 = .ok (.aload_n 0, 1) := by decide +kernel
theorem d_L_changed_4 : decode b_L_changed 4 = .ok (.iload_n 1, 1) := by decide +kernel
theorem d_L_changed_5 : decode b_L_changed 5 = .ok (.iload_n 2, 1) := by decide +kernel
theorem d_L_changed_6 : decode b_L_changed 6 = .ok (.iload_n 3, 1) := by decide +kernel
theorem d_L_changed_7 : decode b_L_changed 7 = .ok (.iload 4, 2) := by decide +kernel
theorem d_L_changed_9 : decode b_L_changed 9 = .ok (.invokevirtual 25, 3) := by decide +kernel
theorem d_L_changed_12 : decode b_L_changed 12 = .ok (.i2l, 1) := by decide +kernel
theorem d_L_changed_13 : decode b_L_changed 13 = .ok (.lastore, 1) := by decide +kernel
theorem d_L_changed_14 : decode b_L_changed 14 = .ok (.goto 11, 3) := by decide +kernel
theorem d_L_changed_17 : decode b_L_changed 17 = .ok (.astore 6, 2) := by decide +kernel
theorem d_L_changed_19 : decode b_L_changed 19 = .ok (.iconst 1, 1) := by decide +kernel
theorem d_L_changed_20 : decode b_L_changed 20 = .ok (.ireturn, 1) := by decide +kernel
theorem d_L_changed_21 : decode b_L_changed 21 = .ok (.astore 6, 2) := by decide +kernel
theorem d_L_changed_23 : decode b_L_changed 23 = .ok (.iconst 2, 1) := by decide +kernel
theorem d_L_changed_24 : decode b_L_changed 24 = .ok (.ireturn, 1) := by decide +kernel
theorem d_L_changed_25 : decode b_L_changed 25 = .ok (.iconst 0, 1) := by decide +kernel
theorem d_L_changed_26 : decode b_L_changed 26 = .ok (.ireturn, 1) := by decide +kernel
theorem cal_L_changed : am_cal y_L_changed b_L_changed 7 ((Option.some FieldType.int)) 6 := ⟨Or.inr ⟨_, wx_392⟩, wx_0, by decide, by decide +kernel⟩
abbrev y_L_correct : MethodName := ⟨"BillSharesLaw", "correct", "(LBillShares;III[J)I"⟩
abbrev b_L_correct : ByteArray := method_7_code
theorem d_L_correct_0 : decode b_L_correct 0 = .ok (.aload 4, 2) := by decide +kernel
theorem d_L_correct_2 : decode b_L_correct 2 = .ok (.iconst 0, 1) := by decide +kernel
theorem d_L_correct_3 : decode b_L_correct 3 = .ok (.aload_n 0, 1) := by decide +kernel
theorem d_L_correct_4 : decode b_L_correct 4 = .ok (.iload_n 1, 1) := by decide +kernel
theorem d_L_correct_5 : decode b_L_correct 5 = .ok (.iload_n 2, 1) := by decide +kernel
theorem d_L_correct_6 : decode b_L_correct 6 = .ok (.iload_n 3, 1) := by decide +kernel
theorem d_L_correct_7 : decode b_L_correct 7 = .ok (.invokevirtual 29, 3) := by decide +kernel
theorem d_L_correct_10 : decode b_L_correct 10 = .ok (.i2l, 1) := by decide +kernel
theorem d_L_correct_11 : decode b_L_correct 11 = .ok (.lastore, 1) := by decide +kernel
theorem d_L_correct_12 : decode b_L_correct 12 = .ok (.goto 7, 3) := by decide +kernel
theorem d_L_correct_15 : decode b_L_correct 15 = .ok (.astore 5, 2) := by decide +kernel
theorem d_L_correct_17 : decode b_L_correct 17 = .ok (.iconst 1, 1) := by decide +kernel
theorem d_L_correct_18 : decode b_L_correct 18 = .ok (.ireturn, 1) := by decide +kernel
theorem d_L_correct_19 : decode b_L_correct 19 = .ok (.iconst 0, 1) := by decide +kernel
theorem d_L_correct_20 : decode b_L_correct 20 = .ok (.ireturn, 1) := by decide +kernel
theorem cal_L_correct : am_cal y_L_correct b_L_correct 6 ((Option.some FieldType.int)) 5 := ⟨Or.inr ⟨_, wx_399⟩, wx_0, by decide, by decide +kernel⟩
abbrev y_L_tested : MethodName := ⟨"BillSharesLaw", "tested", "(LBillShares;II[J)I"⟩
abbrev b_L_tested : ByteArray := method_8_code
theorem d_L_tested_0 : decode b_L_tested 0 = .ok (.aload_n 3, 1) := by decide +kernel
theorem d_L_tested_1 : decode b_L_tested 1 = .ok (.iconst 0, 1) := by decide +kernel
theorem d_L_tested_2 : decode b_L_tested 2 = .ok (.aload_n 0, 1) := by decide +kernel
theorem d_L_tested_3 : decode b_L_tested 3 = .ok (.iload_n 1, 1) := by decide +kernel
theorem d_L_tested_4 : decode b_L_tested 4 = .ok (.iload_n 2, 1) := by decide +kernel
theorem d_L_tested_5 : decode b_L_tested 5 = .ok (.invokevirtual 32, 3) := by decide +kernel
theorem d_L_tested_8 : decode b_L_tested 8 = .ok (.i2l, 1) := by decide +kernel
theorem d_L_tested_9 : decode b_L_tested 9 = .ok (.lastore, 1) := by decide +kernel
theorem d_L_tested_10 : decode b_L_tested 10 = .ok (.goto 7, 3) := by decide +kernel
theorem d_L_tested_13 : decode b_L_tested 13 = .ok (.astore 4, 2) := by decide +kernel
theorem d_L_tested_15 : decode b_L_tested 15 = .ok (.iconst 1, 1) := by decide +kernel
theorem d_L_tested_16 : decode b_L_tested 16 = .ok (.ireturn, 1) := by decide +kernel
theorem d_L_tested_17 : decode b_L_tested 17 = .ok (.iconst 0, 1) := by decide +kernel
theorem d_L_tested_18 : decode b_L_tested 18 = .ok (.ireturn, 1) := by decide +kernel
theorem cal_L_tested : am_cal y_L_tested b_L_tested 5 ((Option.some FieldType.int)) 4 := ⟨Or.inr ⟨_, wx_419⟩, wx_0, by decide, by decide +kernel⟩
abbrev y_L_cost : MethodName := ⟨"BillSharesLaw", "cost", "(LBillShares;III[J)I"⟩
abbrev b_L_cost : ByteArray := method_9_code
theorem d_L_cost_0 : decode b_L_cost 0 = .ok (.aload 4, 2) := by decide +kernel
theorem d_L_cost_2 : decode b_L_cost 2 = .ok (.iconst 0, 1) := by decide +kernel
theorem d_L_cost_3 : decode b_L_cost 3 = .ok (.aload_n 0, 1) := by decide +kernel
theorem d_L_cost_4 : decode b_L_cost 4 = .ok (.iload_n 1, 1) := by decide +kernel
theorem d_L_cost_5 : decode b_L_cost 5 = .ok (.iload_n 2, 1) := by decide +kernel
theorem d_L_cost_6 : decode b_L_cost 6 = .ok (.iload_n 3, 1) := by decide +kernel
theorem d_L_cost_7 : decode b_L_cost 7 = .ok (.invokevirtual 35, 3) := by decide +kernel
theorem d_L_cost_10 : decode b_L_cost 10 = .ok (.i2l, 1) := by decide +kernel
theorem d_L_cost_11 : decode b_L_cost 11 = .ok (.lastore, 1) := by decide +kernel
theorem d_L_cost_12 : decode b_L_cost 12 = .ok (.goto 7, 3) := by decide +kernel
theorem d_L_cost_15 : decode b_L_cost 15 = .ok (.astore 5, 2) := by decide +kernel
theorem d_L_cost_17 : decode b_L_cost 17 = .ok (.iconst 1, 1) := by decide +kernel
theorem d_L_cost_18 : decode b_L_cost 18 = .ok (.ireturn, 1) := by decide +kernel
theorem d_L_cost_19 : decode b_L_cost 19 = .ok (.iconst 0, 1) := by decide +kernel
theorem d_L_cost_20 : decode b_L_cost 20 = .ok (.ireturn, 1) := by decide +kernel
theorem cal_L_cost : am_cal y_L_cost b_L_cost 6 ((Option.some FieldType.int)) 5 := ⟨Or.inr ⟨_, wx_426⟩, wx_0, by decide, by decide +kernel⟩
abbrev y_L_base : MethodName := ⟨"BillSharesLaw", "base", "(LBillShares;II[J)I"⟩
abbrev b_L_base : ByteArray := method_10_code
theorem d_L_base_0 : decode b_L_base 0 = .ok (.aload_n 3, 1) := by decide +kernel
theorem d_L_base_1 : decode b_L_base 1 = .ok (.iconst 0, 1) := by decide +kernel
theorem d_L_base_2 : decode b_L_base 2 = .ok (.aload_n 0, 1) := by decide +kernel
theorem d_L_base_3 : decode b_L_base 3 = .ok (.iload_n 1, 1) := by decide +kernel
theorem d_L_base_4 : decode b_L_base 4 = .ok (.iload_n 2, 1) := by decide +kernel
theorem d_L_base_5 : decode b_L_base 5 = .ok (.invokevirtual 38, 3) := by decide +kernel
theorem d_L_base_8 : decode b_L_base 8 = .ok (.i2l, 1) := by decide +kernel
theorem d_L_base_9 : decode b_L_base 9 = .ok (.lastore, 1) := by decide +kernel
theorem d_L_base_10 : decode b_L_base 10 = .ok (.goto 7, 3) := by decide +kernel
theorem d_L_base_13 : decode b_L_base 13 = .ok (.astore 4, 2) := by decide +kernel
theorem d_L_base_15 : decode b_L_base 15 = .ok (.iconst 1, 1) := by decide +kernel
theorem d_L_base_16 : decode b_L_base 16 = .ok (.ireturn, 1) := by decide +kernel
theorem d_L_base_17 : decode b_L_base 17 = .ok (.iconst 0, 1) := by decide +kernel
theorem d_L_base_18 : decode b_L_base 18 = .ok (.ireturn, 1) := by decide +kernel
theorem cal_L_base : am_cal y_L_base b_L_base 5 ((Option.some FieldType.int)) 4 := ⟨Or.inr ⟨_, wx_437⟩, wx_0, by decide, by decide +kernel⟩
abbrev y_L_moves : MethodName := ⟨"BillSharesLaw", "moves", "(LBillShares;II[J)I"⟩
abbrev b_L_moves : ByteArray := method_11_code
theorem d_L_moves_0 : decode b_L_moves 0 = .ok (.aload_n 3, 1) := by decide +kernel
theorem d_L_moves_1 : decode b_L_moves 1 = .ok (.iconst 0, 1) := by decide +kernel
theorem d_L_moves_2 : decode b_L_moves 2 = .ok (.aload_n 0, 1) := by decide +kernel
theorem d_L_moves_3 : decode b_L_moves 3 = .ok (.iload_n 1, 1) := by decide +kernel
theorem d_L_moves_4 : decode b_L_moves 4 = .ok (.iload_n 2, 1) := by decide +kernel
theorem d_L_moves_5 : decode b_L_moves 5 = .ok (.invokevirtual 41, 3) := by decide +kernel
theorem d_L_moves_8 : decode b_L_moves 8 = .ok (.i2l, 1) := by decide +kernel
theorem d_L_moves_9 : decode b_L_moves 9 = .ok (.lastore, 1) := by decide +kernel
theorem d_L_moves_10 : decode b_L_moves 10 = .ok (.goto 11, 3) := by decide +kernel
theorem d_L_moves_13 : decode b_L_moves 13 = .ok (.astore 4, 2) := by decide +kernel
theorem d_L_moves_15 : decode b_L_moves 15 = .ok (.iconst 1, 1) := by decide +kernel
theorem d_L_moves_16 : decode b_L_moves 16 = .ok (.ireturn, 1) := by decide +kernel
theorem d_L_moves_17 : decode b_L_moves 17 = .ok (.astore 4, 2) := by decide +kernel
theorem d_L_moves_19 : decode b_L_moves 19 = .ok (.iconst 2, 1) := by decide +kernel
theorem d_L_moves_20 : decode b_L_moves 20 = .ok (.ireturn, 1) := by decide +kernel
theorem d_L_moves_21 : decode b_L_moves 21 = .ok (.iconst 0, 1) := by decide +kernel
theorem d_L_moves_22 : decode b_L_moves 22 = .ok (.ireturn, 1) := by decide +kernel
theorem cal_L_moves : am_cal y_L_moves b_L_moves 5 ((Option.some FieldType.int)) 4 := ⟨Or.inr ⟨_, wx_444⟩, wx_0, by decide, by decide +kernel⟩
abbrev y_L_prepaid : MethodName := ⟨"BillSharesLaw", "prepaid", "(LBillShares;III[J)I"⟩
abbrev b_L_prepaid : ByteArray := method_12_code
theorem d_L_prepaid_0 : decode b_L_prepaid 0 = .ok (.aload 4, 2) := by decide +kernel
theorem d_L_prepaid_2 : decode b_L_prepaid 2 = .ok (.iconst 0, 1) := by decide +kernel
theorem d_L_prepaid_3 : decode b_L_prepaid 3 = .ok (.aload_n 0, 1) := by decide +kernel
theorem d_L_prepaid_4 : decode b_L_prepaid 4 = .ok (.iload_n 1, 1) := by decide +kernel
theorem d_L_prepaid_5 : decode b_L_prepaid 5 = .ok (.iload_n 2, 1) := by decide +kernel
theorem d_L_prepaid_6 : decode b_L_prepaid 6 = .ok (.iload_n 3, 1) := by decide +kernel
theorem d_L_prepaid_7 : decode b_L_prepaid 7 = .ok (.invokevirtual 44, 3) := by decide +kernel
theorem d_L_prepaid_10 : decode b_L_prepaid 10 = .ok (.lastore, 1) := by decide +kernel
theorem d_L_prepaid_11 : decode b_L_prepaid 11 = .ok (.goto 7, 3) := by decide +kernel
theorem d_L_prepaid_14 : decode b_L_prepaid 14 = .ok (.astore 5, 2) := by decide +kernel
theorem d_L_prepaid_16 : decode b_L_prepaid 16 = .ok (.iconst 1, 1) := by decide +kernel
theorem d_L_prepaid_17 : decode b_L_prepaid 17 = .ok (.ireturn, 1) := by decide +kernel
theorem d_L_prepaid_18 : decode b_L_prepaid 18 = .ok (.iconst 0, 1) := by decide +kernel
theorem d_L_prepaid_19 : decode b_L_prepaid 19 = .ok (.ireturn, 1) := by decide +kernel
theorem cal_L_prepaid : am_cal y_L_prepaid b_L_prepaid 6 ((Option.some FieldType.int)) 5 := ⟨Or.inr ⟨_, wx_465⟩, wx_0, by decide, by decide +kernel⟩
abbrev y_L_run : MethodName := ⟨"BillSharesLaw", "run", "(LBillShares;I[J)I"⟩
abbrev b_L_run : ByteArray := method_13_code
theorem d_L_run_0 : decode b_L_run 0 = .ok (.aload_n 2, 1) := by decide +kernel
theorem d_L_run_1 : decode b_L_run 1 = .ok (.iconst 0, 1) := by decide +kernel
theorem d_L_run_2 : decode b_L_run 2 = .ok (.aload_n 0, 1) := by decide +kernel
theorem d_L_run_3 : decode b_L_run 3 = .ok (.iload_n 1, 1) := by decide +kernel
theorem d_L_run_4 : decode b_L_run 4 = .ok (.invokevirtual 48, 3) := by decide +kernel
theorem d_L_run_7 : decode b_L_run 7 = .ok (.i2l, 1) := by decide +kernel
theorem d_L_run_8 : decode b_L_run 8 = .ok (.lastore, 1) := by decide +kernel
theorem d_L_run_9 : decode b_L_run 9 = .ok (.goto 9, 3) := by decide +kernel
theorem d_L_run_12 : decode b_L_run 12 = .ok (.astore_n 3, 1) := by decide +kernel
theorem d_L_run_13 : decode b_L_run 13 = .ok (.iconst 1, 1) := by decide +kernel
theorem d_L_run_14 : decode b_L_run 14 = .ok (.ireturn, 1) := by decide +kernel
theorem d_L_run_15 : decode b_L_run 15 = .ok (.astore_n 3, 1) := by decide +kernel
theorem d_L_run_16 : decode b_L_run 16 = .ok (.iconst 2, 1) := by decide +kernel
theorem d_L_run_17 : decode b_L_run 17 = .ok (.ireturn, 1) := by decide +kernel
theorem d_L_run_18 : decode b_L_run 18 = .ok (.iconst 0, 1) := by decide +kernel
theorem d_L_run_19 : decode b_L_run 19 = .ok (.ireturn, 1) := by decide +kernel
theorem cal_L_run : am_cal y_L_run b_L_run 4 ((Option.some FieldType.int)) 3 := ⟨Or.inr ⟨_, wx_472⟩, wx_0, by decide, by decide +kernel⟩
abbrev y_A_isEmpty : MethodName := ⟨"java/util/ArrayList", "isEmpty", "()Z"⟩
abbrev b_A_isEmpty : ByteArray := prog_20_method_9_code
theorem d_A_isEmpty_0 : decode b_A_isEmpty 0 = .ok (.aload_n 0, 1) := by decide +kernel
theorem d_A_isEmpty_1 : decode b_A_isEmpty 1 = .ok (.getfield 48, 3) := by decide +kernel
theorem d_A_isEmpty_4 : decode b_A_isEmpty 4 = .ok (.ifCond .ne 7, 3) := by decide +kernel
theorem d_A_isEmpty_7 : decode b_A_isEmpty 7 = .ok (.iconst 1, 1) := by decide +kernel
theorem d_A_isEmpty_8 : decode b_A_isEmpty 8 = .ok (.goto 4, 3) := by decide +kernel
theorem d_A_isEmpty_11 : decode b_A_isEmpty 11 = .ok (.iconst 0, 1) := by decide +kernel
theorem d_A_isEmpty_12 : decode b_A_isEmpty 12 = .ok (.ireturn, 1) := by decide +kernel
theorem cal_A_isEmpty : am_cal y_A_isEmpty b_A_isEmpty 1 ((Option.some FieldType.boolean)) 0 := ⟨Or.inl wx_480, wx_4, by decide, by decide +kernel⟩
abbrev y_L_use : MethodName := ⟨"BillSharesLaw", "use", "(LBillShares;II[J)I"⟩
abbrev b_L_use : ByteArray := method_14_code
theorem d_L_use_0 : decode b_L_use 0 = .ok (.aload_n 3, 1) := by decide +kernel
theorem d_L_use_1 : decode b_L_use 1 = .ok (.iconst 0, 1) := by decide +kernel
theorem d_L_use_2 : decode b_L_use 2 = .ok (.aload_n 0, 1) := by decide +kernel
theorem d_L_use_3 : decode b_L_use 3 = .ok (.iload_n 1, 1) := by decide +kernel
theorem d_L_use_4 : decode b_L_use 4 = .ok (.iload_n 2, 1) := by decide +kernel
theorem d_L_use_5 : decode b_L_use 5 = .ok (.invokevirtual 52, 3) := by decide +kernel
theorem d_L_use_8 : decode b_L_use 8 = .ok (.lastore, 1) := by decide +kernel
theorem d_L_use_9 : decode b_L_use 9 = .ok (.goto 7, 3) := by decide +kernel
theorem d_L_use_12 : decode b_L_use 12 = .ok (.astore 4, 2) := by decide +kernel
theorem d_L_use_14 : decode b_L_use 14 = .ok (.iconst 1, 1) := by decide +kernel
theorem d_L_use_15 : decode b_L_use 15 = .ok (.ireturn, 1) := by decide +kernel
theorem d_L_use_16 : decode b_L_use 16 = .ok (.iconst 0, 1) := by decide +kernel
theorem d_L_use_17 : decode b_L_use 17 = .ok (.ireturn, 1) := by decide +kernel
theorem cal_L_use : am_cal y_L_use b_L_use 5 ((Option.some FieldType.int)) 4 := ⟨Or.inr ⟨_, wx_573⟩, wx_0, by decide, by decide +kernel⟩
abbrev y_L_barred : MethodName := ⟨"BillSharesLaw", "barred", "(LBillShares;III[J)I"⟩
abbrev b_L_barred : ByteArray := method_15_code
theorem d_L_barred_0 : decode b_L_barred 0 = .ok (.aload 4, 2) := by decide +kernel
theorem d_L_barred_2 : decode b_L_barred 2 = .ok (.iconst 0, 1) := by decide +kernel
theorem d_L_barred_3 : decode b_L_barred 3 = .ok (.aload_n 0, 1) := by decide +kernel
theorem d_L_barred_4 : decode b_L_barred 4 = .ok (.iload_n 1, 1) := by decide +kernel
theorem d_L_barred_5 : decode b_L_barred 5 = .ok (.iload_n 2, 1) := by decide +kernel
theorem d_L_barred_6 : decode b_L_barred 6 = .ok (.iload_n 3, 1) := by decide +kernel
theorem d_L_barred_7 : decode b_L_barred 7 = .ok (.invokevirtual 56, 3) := by decide +kernel
theorem d_L_barred_10 : decode b_L_barred 10 = .ok (.i2l, 1) := by decide +kernel
theorem d_L_barred_11 : decode b_L_barred 11 = .ok (.lastore, 1) := by decide +kernel
theorem d_L_barred_12 : decode b_L_barred 12 = .ok (.goto 7, 3) := by decide +kernel
theorem d_L_barred_15 : decode b_L_barred 15 = .ok (.astore 5, 2) := by decide +kernel
theorem d_L_barred_17 : decode b_L_barred 17 = .ok (.iconst 1, 1) := by decide +kernel
theorem d_L_barred_18 : decode b_L_barred 18 = .ok (.ireturn, 1) := by decide +kernel
theorem d_L_barred_19 : decode b_L_barred 19 = .ok (.iconst 0, 1) := by decide +kernel
theorem d_L_barred_20 : decode b_L_barred 20 = .ok (.ireturn, 1) := by decide +kernel
theorem cal_L_barred : am_cal y_L_barred b_L_barred 6 ((Option.some FieldType.int)) 5 := ⟨Or.inr ⟨_, wx_583⟩, wx_0, by decide, by decide +kernel⟩
abbrev y_L_line : MethodName := ⟨"BillSharesLaw", "line", "(LBillShares;IIII[J)I"⟩
abbrev b_L_line : ByteArray := method_16_code
theorem d_L_line_0 : decode b_L_line 0 = .ok (.aload 5, 2) := by decide +kernel
theorem d_L_line_2 : decode b_L_line 2 = .ok (.iconst 0, 1) := by decide +kernel
theorem d_L_line_3 : decode b_L_line 3 = .ok (.aload_n 0, 1) := by decide +kernel
theorem d_L_line_4 : decode b_L_line 4 = .ok (.iload_n 1, 1) := by decide +kernel
theorem d_L_line_5 : decode b_L_line 5 = .ok (.iload_n 2, 1) := by decide +kernel
theorem d_L_line_6 : decode b_L_line 6 = .ok (.iload_n 3, 1) := by decide +kernel
theorem d_L_line_7 : decode b_L_line 7 = .ok (.iload 4, 2) := by decide +kernel
theorem d_L_line_9 : decode b_L_line 9 = .ok (.invokevirtual 59, 3) := by decide +kernel
theorem d_L_line_12 : decode b_L_line 12 = .ok (.lastore, 1) := by decide +kernel
theorem d_L_line_13 : decode b_L_line 13 = .ok (.goto 11, 3) := by decide +kernel
theorem d_L_line_16 : decode b_L_line 16 = .ok (.astore 6, 2) := by decide +kernel
theorem d_L_line_18 : decode b_L_line 18 = .ok (.iconst 1, 1) := by decide +kernel
theorem d_L_line_19 : decode b_L_line 19 = .ok (.ireturn, 1) := by decide +kernel
theorem d_L_line_20 : decode b_L_line 20 = .ok (.astore 6, 2) := by decide +kernel
theorem d_L_line_22 : decode b_L_line 22 = .ok (.iconst 2, 1) := by decide +kernel
theorem d_L_line_23 : decode b_L_line 23 = .ok (.ireturn, 1) := by decide +kernel
theorem d_L_line_24 : decode b_L_line 24 = .ok (.iconst 0, 1) := by decide +kernel
theorem d_L_line_25 : decode b_L_line 25 = .ok (.ireturn, 1) := by decide +kernel
theorem cal_L_line : am_cal y_L_line b_L_line 7 ((Option.some FieldType.int)) 6 := ⟨Or.inr ⟨_, wx_590⟩, wx_0, by decide, by decide +kernel⟩
abbrev y_L_share : MethodName := ⟨"BillSharesLaw", "share", "(LBillShares;II[J)I"⟩
abbrev b_L_share : ByteArray := method_17_code
theorem d_L_share_0 : decode b_L_share 0 = .ok (.aload_n 3, 1) := by decide +kernel
theorem d_L_share_1 : decode b_L_share 1 = .ok (.iconst 0, 1) := by decide +kernel
theorem d_L_share_2 : decode b_L_share 2 = .ok (.aload_n 0, 1) := by decide +kernel
theorem d_L_share_3 : decode b_L_share 3 = .ok (.iload_n 1, 1) := by decide +kernel
theorem d_L_share_4 : decode b_L_share 4 = .ok (.iload_n 2, 1) := by decide +kernel
theorem d_L_share_5 : decode b_L_share 5 = .ok (.invokevirtual 63, 3) := by decide +kernel
theorem d_L_share_8 : decode b_L_share 8 = .ok (.lastore, 1) := by decide +kernel
theorem d_L_share_9 : decode b_L_share 9 = .ok (.goto 11, 3) := by decide +kernel
theorem d_L_share_12 : decode b_L_share 12 = .ok (.astore 4, 2) := by decide +kernel
theorem d_L_share_14 : decode b_L_share 14 = .ok (.iconst 1, 1) := by decide +kernel
theorem d_L_share_15 : decode b_L_share 15 = .ok (.ireturn, 1) := by decide +kernel
theorem d_L_share_16 : decode b_L_share 16 = .ok (.astore 4, 2) := by decide +kernel
theorem d_L_share_18 : decode b_L_share 18 = .ok (.iconst 2, 1) := by decide +kernel
theorem d_L_share_19 : decode b_L_share 19 = .ok (.ireturn, 1) := by decide +kernel
theorem d_L_share_20 : decode b_L_share 20 = .ok (.iconst 0, 1) := by decide +kernel
theorem d_L_share_21 : decode b_L_share 21 = .ok (.ireturn, 1) := by decide +kernel
theorem cal_L_share : am_cal y_L_share b_L_share 5 ((Option.some FieldType.int)) 4 := ⟨Or.inr ⟨_, wx_603⟩, wx_0, by decide, by decide +kernel⟩
abbrev y_L_part : MethodName := ⟨"BillSharesLaw", "part", "(LBillShares;III[J)I"⟩
abbrev b_L_part : ByteArray := method_18_code
theorem d_L_part_0 : decode b_L_part 0 = .ok (.aload 4, 2) := by decide +kernel
theorem d_L_part_2 : decode b_L_part 2 = .ok (.iconst 0, 1) := by decide +kernel
theorem d_L_part_3 : decode b_L_part 3 = .ok (.aload_n 0, 1) := by decide +kernel
theorem d_L_part_4 : decode b_L_part 4 = .ok (.iload_n 1, 1) := by decide +kernel
theorem d_L_part_5 : decode b_L_part 5 = .ok (.iload_n 2, 1) := by decide +kernel
theorem d_L_part_6 : decode b_L_part 6 = .ok (.iload_n 3, 1) := by decide +kernel
theorem d_L_part_7 : decode b_L_part 7 = .ok (.invokevirtual 66, 3) := by decide +kernel
theorem d_L_part_10 : decode b_L_part 10 = .ok (.lastore, 1) := by decide +kernel
theorem d_L_part_11 : decode b_L_part 11 = .ok (.goto 11, 3) := by decide +kernel
theorem d_L_part_14 : decode b_L_part 14 = .ok (.astore 5, 2) := by decide +kernel
theorem d_L_part_16 : decode b_L_part 16 = .ok (.iconst 1, 1) := by decide +kernel
theorem d_L_part_17 : decode b_L_part 17 = .ok (.ireturn, 1) := by decide +kernel
theorem d_L_part_18 : decode b_L_part 18 = .ok (.astore 5, 2) := by decide +kernel
theorem d_L_part_20 : decode b_L_part 20 = .ok (.iconst 2, 1) := by decide +kernel
theorem d_L_part_21 : decode b_L_part 21 = .ok (.ireturn, 1) := by decide +kernel
theorem d_L_part_22 : decode b_L_part 22 = .ok (.iconst 0, 1) := by decide +kernel
theorem d_L_part_23 : decode b_L_part 23 = .ok (.ireturn, 1) := by decide +kernel
theorem cal_L_part : am_cal y_L_part b_L_part 6 ((Option.some FieldType.int)) 5 := ⟨Or.inr ⟨_, wx_610⟩, wx_0, by decide, by decide +kernel⟩
abbrev y_L_balance : MethodName := ⟨"BillSharesLaw", "balance", "(LBillShares;II[J)I"⟩
abbrev b_L_balance : ByteArray := method_19_code
theorem d_L_balance_0 : decode b_L_balance 0 = .ok (.aload_n 3, 1) := by decide +kernel
theorem d_L_balance_1 : decode b_L_balance 1 = .ok (.iconst 0, 1) := by decide +kernel
theorem d_L_balance_2 : decode b_L_balance 2 = .ok (.aload_n 0, 1) := by decide +kernel
theorem d_L_balance_3 : decode b_L_balance 3 = .ok (.iload_n 1, 1) := by decide +kernel
theorem d_L_balance_4 : decode b_L_balance 4 = .ok (.iload_n 2, 1) := by decide +kernel
theorem d_L_balance_5 : decode b_L_balance 5 = .ok (.invokevirtual 69, 3) := by decide +kernel
theorem d_L_balance_8 : decode b_L_balance 8 = .ok (.lastore, 1) := by decide +kernel
theorem d_L_balance_9 : decode b_L_balance 9 = .ok (.goto 11, 3) := by decide +kernel
theorem d_L_balance_12 : decode b_L_balance 12 = .ok (.astore 4, 2) := by decide +kernel
theorem d_L_balance_14 : decode b_L_balance 14 = .ok (.iconst 1, 1) := by decide +kernel
theorem d_L_balance_15 : decode b_L_balance 15 = .ok (.ireturn, 1) := by decide +kernel
theorem d_L_balance_16 : decode b_L_balance 16 = .ok (.astore 4, 2) := by decide +kernel
theorem d_L_balance_18 : decode b_L_balance 18 = .ok (.iconst 2, 1) := by decide +kernel
theorem d_L_balance_19 : decode b_L_balance 19 = .ok (.ireturn, 1) := by decide +kernel
theorem d_L_balance_20 : decode b_L_balance 20 = .ok (.iconst 0, 1) := by decide +kernel
theorem d_L_balance_21 : decode b_L_balance 21 = .ok (.ireturn, 1) := by decide +kernel
theorem cal_L_balance : am_cal y_L_balance b_L_balance 5 ((Option.some FieldType.int)) 4 := ⟨Or.inr ⟨_, wx_636⟩, wx_0, by decide, by decide +kernel⟩
abbrev y_L_difference : MethodName := ⟨"BillSharesLaw", "difference", "(LBillShares;II[J)I"⟩
abbrev b_L_difference : ByteArray := method_20_code
theorem d_L_difference_0 : decode b_L_difference 0 = .ok (.aload_n 3, 1) := by decide +kernel
theorem d_L_difference_1 : decode b_L_difference 1 = .ok (.iconst 0, 1) := by decide +kernel
theorem d_L_difference_2 : decode b_L_difference 2 = .ok (.aload_n 0, 1) := by decide +kernel
theorem d_L_difference_3 : decode b_L_difference 3 = .ok (.iload_n 1, 1) := by decide +kernel
theorem d_L_difference_4 : decode b_L_difference 4 = .ok (.iload_n 2, 1) := by decide +kernel
theorem d_L_difference_5 : decode b_L_difference 5 = .ok (.invokevirtual 72, 3) := by decide +kernel
theorem d_L_difference_8 : decode b_L_difference 8 = .ok (.lastore, 1) := by decide +kernel
theorem d_L_difference_9 : decode b_L_difference 9 = .ok (.goto 11, 3) := by decide +kernel
theorem d_L_difference_12 : decode b_L_difference 12 = .ok (.astore 4, 2) := by decide +kernel
theorem d_L_difference_14 : decode b_L_difference 14 = .ok (.iconst 1, 1) := by decide +kernel
theorem d_L_difference_15 : decode b_L_difference 15 = .ok (.ireturn, 1) := by decide +kernel
theorem d_L_difference_16 : decode b_L_difference 16 = .ok (.astore 4, 2) := by decide +kernel
theorem d_L_difference_18 : decode b_L_difference 18 = .ok (.iconst 2, 1) := by decide +kernel
theorem d_L_difference_19 : decode b_L_difference 19 = .ok (.ireturn, 1) := by decide +kernel
theorem d_L_difference_20 : decode b_L_difference 20 = .ok (.iconst 0, 1) := by decide +kernel
theorem d_L_difference_21 : decode b_L_difference 21 = .ok (.ireturn, 1) := by decide +kernel
theorem cal_L_difference : am_cal y_L_difference b_L_difference 5 ((Option.some FieldType.int)) 4 := ⟨Or.inr ⟨_, wx_643⟩, wx_0, by decide, by decide +kernel⟩
abbrev y_L_edition : MethodName := ⟨"BillSharesLaw", "edition", "(LBillShares;I[J)I"⟩
abbrev b_L_edition : ByteArray := method_21_code
theorem d_L_edition_0 : decode b_L_edition 0 = .ok (.aload_n 2, 1) := by decide +kernel
theorem d_L_edition_1 : decode b_L_edition 1 = .ok (.iconst 0, 1) := by decide +kernel
theorem d_L_edition_2 : decode b_L_edition 2 = .ok (.aload_n 0, 1) := by decide +kernel
theorem d_L_edition_3 : decode b_L_edition 3 = .ok (.iload_n 1, 1) := by decide +kernel
theorem d_L_edition_4 : decode b_L_edition 4 = .ok (.invokevirtual 75, 3) := by decide +kernel
theorem d_L_edition_7 : decode b_L_edition 7 = .ok (.i2l, 1) := by decide +kernel
theorem d_L_edition_8 : decode b_L_edition 8 = .ok (.lastore, 1) := by decide +kernel
theorem d_L_edition_9 : decode b_L_edition 9 = .ok (.goto 6, 3) := by decide +kernel
theorem d_L_edition_12 : decode b_L_edition 12 = .ok (.astore_n 3, 1) := by decide +kernel
theorem d_L_edition_13 : decode b_L_edition 13 = .ok (.iconst 1, 1) := by decide +kernel
theorem d_L_edition_14 : decode b_L_edition 14 = .ok (.ireturn, 1) := by decide +kernel
theorem d_L_edition_15 : decode b_L_edition 15 = .ok (.iconst 0, 1) := by decide +kernel
theorem d_L_edition_16 : decode b_L_edition 16 = .ok (.ireturn, 1) := by decide +kernel
theorem cal_L_edition : am_cal y_L_edition b_L_edition 4 ((Option.some FieldType.int)) 3 := ⟨Or.inr ⟨_, wx_650⟩, wx_0, by decide, by decide +kernel⟩
