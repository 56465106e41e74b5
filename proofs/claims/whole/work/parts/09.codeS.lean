/-! code rows (written by wip/whole/mkcode.py) -/
abbrev y_S_init : MethodName := ⟨"BillShares", "<init>", "()V"⟩
abbrev b_S_init : ByteArray := prog_1_method_1_code
theorem d_S_init_0 : decode b_S_init 0 = .ok (.aload_n 0, 1) := by decide +kernel
theorem d_S_init_1 : decode b_S_init 1 = .ok (.invokespecial 3, 3) := by decide +kernel
theorem d_S_init_4 : decode b_S_init 4 = .ok (.aload_n 0, 1) := by decide +kernel
theorem d_S_init_5 : decode b_S_init 5 = .ok (.new 9, 3) := by decide +kernel
theorem d_S_init_8 : decode b_S_init 8 = .ok (.dup, 1) := by decide +kernel
theorem d_S_init_9 : decode b_S_init 9 = .ok (.invokespecial 11, 3) := by decide +kernel
theorem d_S_init_12 : decode b_S_init 12 = .ok (.putfield 12, 3) := by decide +kernel
theorem d_S_init_15 : decode b_S_init 15 = .ok (.aload_n 0, 1) := by decide +kernel
theorem d_S_init_16 : decode b_S_init 16 = .ok (.new 9, 3) := by decide +kernel
theorem d_S_init_19 : decode b_S_init 19 = .ok (.dup, 1) := by decide +kernel
theorem d_S_init_20 : decode b_S_init 20 = .ok (.invokespecial 11, 3) := by decide +kernel
theorem d_S_init_23 : decode b_S_init 23 = .ok (.putfield 16, 3) := by decide +kernel
theorem d_S_init_26 : decode b_S_init 26 = .ok (.aload_n 0, 1) := by decide +kernel
theorem d_S_init_27 : decode b_S_init 27 = .ok (.new 9, 3) := by decide +kernel
theorem d_S_init_30 : decode b_S_init 30 = .ok (.dup, 1) := by decide +kernel
theorem d_S_init_31 : decode b_S_init 31 = .ok (.invokespecial 11, 3) := by decide +kernel
theorem d_S_init_34 : decode b_S_init 34 = .ok (.putfield 19, 3) := by decide +kernel
theorem d_S_init_37 : decode b_S_init 37 = .ok (.aload_n 0, 1) := by decide +kernel
theorem d_S_init_38 : decode b_S_init 38 = .ok (.bipush 40, 2) := by decide +kernel
theorem d_S_init_40 : decode b_S_init 40 = .ok (.newarray .int, 2) := by decide +kernel
theorem d_S_init_42 : decode b_S_init 42 = .ok (.putfield 22, 3) := by decide +kernel
theorem d_S_init_45 : decode b_S_init 45 = .ok (.aload_n 0, 1) := by decide +kernel
theorem d_S_init_46 : decode b_S_init 46 = .ok (.iconst 4, 1) := by decide +kernel
theorem d_S_init_47 : decode b_S_init 47 = .ok (.newarray .int, 2) := by decide +kernel
theorem d_S_init_49 : decode b_S_init 49 = .ok (.putfield 26, 3) := by decide +kernel
theorem d_S_init_52 : decode b_S_init 52 = .ok (.aload_n 0, 1) := by decide +kernel
theorem d_S_init_53 : decode b_S_init 53 = .ok (.bipush 10, 2) := by decide +kernel
theorem d_S_init_55 : decode b_S_init 55 = .ok (.newarray .int, 2) := by decide +kernel
theorem d_S_init_57 : decode b_S_init 57 = .ok (.putfield 29, 3) := by decide +kernel
theorem d_S_init_60 : decode b_S_init 60 = .ok (.aload_n 0, 1) := by decide +kernel
theorem d_S_init_61 : decode b_S_init 61 = .ok (.getfield 26, 3) := by decide +kernel
theorem d_S_init_64 : decode b_S_init 64 = .ok (.bipush 30, 2) := by decide +kernel
theorem d_S_init_66 : decode b_S_init 66 = .ok (.invokestatic 32, 3) := by decide +kernel
theorem d_S_init_69 : decode b_S_init 69 = .ok (.return_, 1) := by decide +kernel
theorem cal_S_init : am_cal y_S_init b_S_init 1 ((Option.none : Option FieldType)) 0 := ⟨Or.inl wx_24, wx_1, by decide, by decide +kernel⟩
abbrev y_S_flat : MethodName := ⟨"BillShares", "flat", "(II)I"⟩
abbrev b_S_flat : ByteArray := prog_1_method_2_code
theorem d_S_flat_0 : decode b_S_flat 0 = .ok (.iload_n 1, 1) := by decide +kernel
theorem d_S_flat_1 : decode b_S_flat 1 = .ok (.iconst 1, 1) := by decide +kernel
theorem d_S_flat_2 : decode b_S_flat 2 = .ok (.sipush 1000, 3) := by decide +kernel
theorem d_S_flat_5 : decode b_S_flat 5 = .ok (.invokestatic 38, 3) := by decide +kernel
theorem d_S_flat_8 : decode b_S_flat 8 = .ok (.iload_n 2, 1) := by decide +kernel
theorem d_S_flat_9 : decode b_S_flat 9 = .ok (.iconst 0, 1) := by decide +kernel
theorem d_S_flat_10 : decode b_S_flat 10 = .ok (.bipush 99, 2) := by decide +kernel
theorem d_S_flat_12 : decode b_S_flat 12 = .ok (.invokestatic 38, 3) := by decide +kernel
theorem d_S_flat_15 : decode b_S_flat 15 = .ok (.aload_n 0, 1) := by decide +kernel
theorem d_S_flat_16 : decode b_S_flat 16 = .ok (.getfield 12, 3) := by decide +kernel
theorem d_S_flat_19 : decode b_S_flat 19 = .ok (.invokevirtual 42, 3) := by decide +kernel
theorem d_S_flat_22 : decode b_S_flat 22 = .ok (.bipush 20, 2) := by decide +kernel
theorem d_S_flat_24 : decode b_S_flat 24 = .ok (.if_icmp .lt 13, 3) := by decide +kernel
theorem d_S_flat_27 : decode b_S_flat 27 = .ok (.new 46, 3) := by decide +kernel
theorem d_S_flat_30 : decode b_S_flat 30 = .ok (.dup, 1) := by decide +kernel
theorem d_S_flat_31 : decode b_S_flat 31 = .ok (.ldc 48, 2) := by decide +kernel
theorem d_S_flat_33 : decode b_S_flat 33 = .ok (.invokespecial 50, 3) := by decide +kernel
theorem d_S_flat_36 : decode b_S_flat 36 = .ok (.athrow, 1) := by decide +kernel
theorem d_S_flat_37 : decode b_S_flat 37 = .ok (.new 53, 3) := by decide +kernel
theorem d_S_flat_40 : decode b_S_flat 40 = .ok (.dup, 1) := by decide +kernel
theorem d_S_flat_41 : decode b_S_flat 41 = .ok (.iload_n 1, 1) := by decide +kernel
theorem d_S_flat_42 : decode b_S_flat 42 = .ok (.iload_n 2, 1) := by decide +kernel
theorem d_S_flat_43 : decode b_S_flat 43 = .ok (.invokespecial 55, 3) := by decide +kernel
theorem d_S_flat_46 : decode b_S_flat 46 = .ok (.astore_n 3, 1) := by decide +kernel
theorem d_S_flat_47 : decode b_S_flat 47 = .ok (.aload_n 0, 1) := by decide +kernel
theorem d_S_flat_48 : decode b_S_flat 48 = .ok (.getfield 12, 3) := by decide +kernel
theorem d_S_flat_51 : decode b_S_flat 51 = .ok (.aload_n 3, 1) := by decide +kernel
theorem d_S_flat_52 : decode b_S_flat 52 = .ok (.invokevirtual 58, 3) := by decide +kernel
theorem d_S_flat_55 : decode b_S_flat 55 = .ok (.pop, 1) := by decide +kernel
theorem d_S_flat_56 : decode b_S_flat 56 = .ok (.aload_n 0, 1) := by decide +kernel
theorem d_S_flat_57 : decode b_S_flat 57 = .ok (.getfield 16, 3) := by decide +kernel
theorem d_S_flat_60 : decode b_S_flat 60 = .ok (.aload_n 0, 1) := by decide +kernel
theorem d_S_flat_61 : decode b_S_flat 61 = .ok (.iload_n 2, 1) := by decide +kernel
theorem d_S_flat_62 : decode b_S_flat 62 = .ok (.invokevirtual 62, 3) := by decide +kernel
theorem d_S_flat_65 : decode b_S_flat 65 = .ok (.aload_n 3, 1) := by decide +kernel
theorem d_S_flat_66 : decode b_S_flat 66 = .ok (.invokevirtual 66, 3) := by decide +kernel
theorem d_S_flat_69 : decode b_S_flat 69 = .ok (.aload_n 0, 1) := by decide +kernel
theorem d_S_flat_70 : decode b_S_flat 70 = .ok (.getfield 12, 3) := by decide +kernel
theorem d_S_flat_73 : decode b_S_flat 73 = .ok (.invokevirtual 42, 3) := by decide +kernel
theorem d_S_flat_76 : decode b_S_flat 76 = .ok (.iconst 1, 1) := by decide +kernel
theorem d_S_flat_77 : decode b_S_flat 77 = .ok (.isub, 1) := by decide +kernel
theorem d_S_flat_78 : decode b_S_flat 78 = .ok (.ireturn, 1) := by decide +kernel
theorem cal_S_flat : am_cal y_S_flat b_S_flat 4 ((Option.some FieldType.int)) 2 := ⟨Or.inl wx_85, wx_1, by decide, by decide +kernel⟩
abbrev y_S_checkBounds : MethodName := ⟨"BillShares", "checkBounds", "(III)V"⟩
abbrev b_S_checkBounds : ByteArray := prog_1_method_21_code
theorem d_S_checkBounds_0 : decode b_S_checkBounds 0 = .ok (.iload_n 0, 1) := by decide +kernel
theorem d_S_checkBounds_1 : decode b_S_checkBounds 1 = .ok (.iload_n 1, 1) := by decide +kernel
theorem d_S_checkBounds_2 : decode b_S_checkBounds 2 = .ok (.if_icmp .lt 8, 3) := by decide +kernel
theorem d_S_checkBounds_5 : decode b_S_checkBounds 5 = .ok (.iload_n 0, 1) := by decide +kernel
theorem d_S_checkBounds_6 : decode b_S_checkBounds 6 = .ok (.iload_n 2, 1) := by decide +kernel
theorem d_S_checkBounds_7 : decode b_S_checkBounds 7 = .ok (.if_icmp .le 13, 3) := by decide +kernel
theorem d_S_checkBounds_10 : decode b_S_checkBounds 10 = .ok (.new 104, 3) := by decide +kernel
theorem d_S_checkBounds_13 : decode b_S_checkBounds 13 = .ok (.dup, 1) := by decide +kernel
theorem d_S_checkBounds_14 : decode b_S_checkBounds 14 = .ok (.ldc 194, 2) := by decide +kernel
theorem d_S_checkBounds_16 : decode b_S_checkBounds 16 = .ok (.invokespecial 108, 3) := by decide +kernel
theorem d_S_checkBounds_19 : decode b_S_checkBounds 19 = .ok (.athrow, 1) := by decide +kernel
theorem d_S_checkBounds_20 : decode b_S_checkBounds 20 = .ok (.return_, 1) := by decide +kernel
theorem cal_S_checkBounds : am_cal y_S_checkBounds b_S_checkBounds 3 ((Option.none : Option FieldType)) 3 := ⟨Or.inl wx_88, wx_1, by decide, by decide +kernel⟩
abbrev y_F_init : MethodName := ⟨"BillShares$Flat", "<init>", "(II)V"⟩
abbrev b_F_init : ByteArray := prog_3_method_1_code
theorem d_F_init_0 : decode b_F_init 0 = .ok (.aload_n 0, 1) := by decide +kernel
theorem d_F_init_1 : decode b_F_init 1 = .ok (.invokespecial 3, 3) := by decide +kernel
theorem d_F_init_4 : decode b_F_init 4 = .ok (.aload_n 0, 1) := by decide +kernel
theorem d_F_init_5 : decode b_F_init 5 = .ok (.new 9, 3) := by decide +kernel
theorem d_F_init_8 : decode b_F_init 8 = .ok (.dup, 1) := by decide +kernel
theorem d_F_init_9 : decode b_F_init 9 = .ok (.invokespecial 11, 3) := by decide +kernel
theorem d_F_init_12 : decode b_F_init 12 = .ok (.putfield 12, 3) := by decide +kernel
theorem d_F_init_15 : decode b_F_init 15 = .ok (.aload_n 0, 1) := by decide +kernel
theorem d_F_init_16 : decode b_F_init 16 = .ok (.bipush 12, 2) := by decide +kernel
theorem d_F_init_18 : decode b_F_init 18 = .ok (.newarray .int, 2) := by decide +kernel
theorem d_F_init_20 : decode b_F_init 20 = .ok (.putfield 18, 3) := by decide +kernel
theorem d_F_init_23 : decode b_F_init 23 = .ok (.aload_n 0, 1) := by decide +kernel
theorem d_F_init_24 : decode b_F_init 24 = .ok (.iconst 1, 1) := by decide +kernel
theorem d_F_init_25 : decode b_F_init 25 = .ok (.putfield 22, 3) := by decide +kernel
theorem d_F_init_28 : decode b_F_init 28 = .ok (.aload_n 0, 1) := by decide +kernel
theorem d_F_init_29 : decode b_F_init 29 = .ok (.bipush 10, 2) := by decide +kernel
theorem d_F_init_31 : decode b_F_init 31 = .ok (.newarray .long, 2) := by decide +kernel
theorem d_F_init_33 : decode b_F_init 33 = .ok (.putfield 26, 3) := by decide +kernel
theorem d_F_init_36 : decode b_F_init 36 = .ok (.aload_n 0, 1) := by decide +kernel
theorem d_F_init_37 : decode b_F_init 37 = .ok (.bipush 10, 2) := by decide +kernel
theorem d_F_init_39 : decode b_F_init 39 = .ok (.anewarray 30, 3) := by decide +kernel
theorem d_F_init_42 : decode b_F_init 42 = .ok (.putfield 32, 3) := by decide +kernel
theorem d_F_init_45 : decode b_F_init 45 = .ok (.aload_n 0, 1) := by decide +kernel
theorem d_F_init_46 : decode b_F_init 46 = .ok (.iload_n 1, 1) := by decide +kernel
theorem d_F_init_47 : decode b_F_init 47 = .ok (.putfield 36, 3) := by decide +kernel
theorem d_F_init_50 : decode b_F_init 50 = .ok (.aload_n 0, 1) := by decide +kernel
theorem d_F_init_51 : decode b_F_init 51 = .ok (.iload_n 2, 1) := by decide +kernel
theorem d_F_init_52 : decode b_F_init 52 = .ok (.putfield 39, 3) := by decide +kernel
theorem d_F_init_55 : decode b_F_init 55 = .ok (.return_, 1) := by decide +kernel
theorem cal_F_init : am_cal y_F_init b_F_init 3 ((Option.none : Option FieldType)) 2 := ⟨Or.inl wx_180, wx_12, by decide, by decide +kernel⟩
abbrev y_S_placeByRank : MethodName := ⟨"BillShares", "placeByRank", "(I)I"⟩
abbrev b_S_placeByRank : ByteArray := prog_1_method_31_code
theorem d_S_placeByRank_0 : decode b_S_placeByRank 0 = .ok (.iconst 0, 1) := by decide +kernel
theorem d_S_placeByRank_1 : decode b_S_placeByRank 1 = .ok (.istore_n 2, 1) := by decide +kernel
theorem d_S_placeByRank_2 : decode b_S_placeByRank 2 = .ok (.iload_n 2, 1) := by decide +kernel
theorem d_S_placeByRank_3 : decode b_S_placeByRank 3 = .ok (.aload_n 0, 1) := by decide +kernel
theorem d_S_placeByRank_4 : decode b_S_placeByRank 4 = .ok (.getfield 16, 3) := by decide +kernel
theorem d_S_placeByRank_7 : decode b_S_placeByRank 7 = .ok (.invokevirtual 42, 3) := by decide +kernel
theorem d_S_placeByRank_10 : decode b_S_placeByRank 10 = .ok (.if_icmp .ge 27, 3) := by decide +kernel
theorem d_S_placeByRank_13 : decode b_S_placeByRank 13 = .ok (.aload_n 0, 1) := by decide +kernel
theorem d_S_placeByRank_14 : decode b_S_placeByRank 14 = .ok (.getfield 16, 3) := by decide +kernel
theorem d_S_placeByRank_17 : decode b_S_placeByRank 17 = .ok (.iload_n 2, 1) := by decide +kernel
theorem d_S_placeByRank_18 : decode b_S_placeByRank 18 = .ok (.invokevirtual 204, 3) := by decide +kernel
theorem d_S_placeByRank_21 : decode b_S_placeByRank 21 = .ok (.checkcast 53, 3) := by decide +kernel
theorem d_S_placeByRank_24 : decode b_S_placeByRank 24 = .ok (.getfield 218, 3) := by decide +kernel
theorem d_S_placeByRank_27 : decode b_S_placeByRank 27 = .ok (.iload_n 1, 1) := by decide +kernel
theorem d_S_placeByRank_28 : decode b_S_placeByRank 28 = .ok (.if_icmp .gt 9, 3) := by decide +kernel
theorem d_S_placeByRank_31 : decode b_S_placeByRank 31 = .ok (.iinc 2 1, 3) := by decide +kernel
theorem d_S_placeByRank_34 : decode b_S_placeByRank 34 = .ok (.goto (-32), 3) := by decide +kernel
theorem d_S_placeByRank_37 : decode b_S_placeByRank 37 = .ok (.iload_n 2, 1) := by decide +kernel
theorem d_S_placeByRank_38 : decode b_S_placeByRank 38 = .ok (.ireturn, 1) := by decide +kernel
theorem cal_S_placeByRank : am_cal y_S_placeByRank b_S_placeByRank 3 ((Option.some FieldType.int)) 1 := ⟨Or.inl wx_282, wx_1, by decide, by decide +kernel⟩
abbrev y_S_meter : MethodName := ⟨"BillShares", "meter", "(IIIII)I"⟩
abbrev b_S_meter : ByteArray := prog_1_method_3_code
theorem d_S_meter_0 : decode b_S_meter 0 = .ok (.aload_n 0, 1) := by decide +kernel
theorem d_S_meter_1 : decode b_S_meter 1 = .ok (.iload_n 1, 1) := by decide +kernel
theorem d_S_meter_2 : decode b_S_meter 2 = .ok (.invokevirtual 69, 3) := by decide +kernel
theorem d_S_meter_5 : decode b_S_meter 5 = .ok (.astore 6, 2) := by decide +kernel
theorem d_S_meter_7 : decode b_S_meter 7 = .ok (.iload_n 2, 1) := by decide +kernel
theorem d_S_meter_8 : decode b_S_meter 8 = .ok (.invokestatic 73, 3) := by decide +kernel
theorem d_S_meter_11 : decode b_S_meter 11 = .ok (.iload_n 3, 1) := by decide +kernel
theorem d_S_meter_12 : decode b_S_meter 12 = .ok (.iconst 1, 1) := by decide +kernel
theorem d_S_meter_13 : decode b_S_meter 13 = .ok (.sipush 1000, 3) := by decide +kernel
theorem d_S_meter_16 : decode b_S_meter 16 = .ok (.invokestatic 38, 3) := by decide +kernel
theorem d_S_meter_19 : decode b_S_meter 19 = .ok (.iload 4, 2) := by decide +kernel
theorem d_S_meter_21 : decode b_S_meter 21 = .ok (.iconst 1, 1) := by decide +kernel
theorem d_S_meter_22 : decode b_S_meter 22 = .ok (.sipush 1000, 3) := by decide +kernel
theorem d_S_meter_25 : decode b_S_meter 25 = .ok (.invokestatic 38, 3) := by decide +kernel
theorem d_S_meter_28 : decode b_S_meter 28 = .ok (.iload 5, 2) := by decide +kernel
theorem d_S_meter_30 : decode b_S_meter 30 = .ok (.invokestatic 77, 3) := by decide +kernel
theorem d_S_meter_33 : decode b_S_meter 33 = .ok (.aload_n 0, 1) := by decide +kernel
theorem d_S_meter_34 : decode b_S_meter 34 = .ok (.getfield 19, 3) := by decide +kernel
theorem d_S_meter_37 : decode b_S_meter 37 = .ok (.invokevirtual 42, 3) := by decide +kernel
theorem d_S_meter_40 : decode b_S_meter 40 = .ok (.bipush 60, 2) := by decide +kernel
theorem d_S_meter_42 : decode b_S_meter 42 = .ok (.if_icmp .lt 13, 3) := by decide +kernel
theorem d_S_meter_45 : decode b_S_meter 45 = .ok (.new 46, 3) := by decide +kernel
theorem d_S_meter_48 : decode b_S_meter 48 = .ok (.dup, 1) := by decide +kernel
theorem d_S_meter_49 : decode b_S_meter 49 = .ok (.ldc 80, 2) := by decide +kernel
theorem d_S_meter_51 : decode b_S_meter 51 = .ok (.invokespecial 50, 3) := by decide +kernel
theorem d_S_meter_54 : decode b_S_meter 54 = .ok (.athrow, 1) := by decide +kernel
theorem d_S_meter_55 : decode b_S_meter 55 = .ok (.new 82, 3) := by decide +kernel
theorem d_S_meter_58 : decode b_S_meter 58 = .ok (.dup, 1) := by decide +kernel
theorem d_S_meter_59 : decode b_S_meter 59 = .ok (.iload_n 2, 1) := by decide +kernel
theorem d_S_meter_60 : decode b_S_meter 60 = .ok (.iload_n 3, 1) := by decide +kernel
theorem d_S_meter_61 : decode b_S_meter 61 = .ok (.iload 4, 2) := by decide +kernel
theorem d_S_meter_63 : decode b_S_meter 63 = .ok (.iload 5, 2) := by decide +kernel
theorem d_S_meter_65 : decode b_S_meter 65 = .ok (.invokespecial 84, 3) := by decide +kernel
theorem d_S_meter_68 : decode b_S_meter 68 = .ok (.astore 7, 2) := by decide +kernel
theorem d_S_meter_70 : decode b_S_meter 70 = .ok (.aload_n 0, 1) := by decide +kernel
theorem d_S_meter_71 : decode b_S_meter 71 = .ok (.getfield 19, 3) := by decide +kernel
theorem d_S_meter_74 : decode b_S_meter 74 = .ok (.aload 7, 2) := by decide +kernel
theorem d_S_meter_76 : decode b_S_meter 76 = .ok (.invokevirtual 58, 3) := by decide +kernel
theorem d_S_meter_79 : decode b_S_meter 79 = .ok (.pop, 1) := by decide +kernel
theorem d_S_meter_80 : decode b_S_meter 80 = .ok (.aload 6, 2) := by decide +kernel
theorem d_S_meter_82 : decode b_S_meter 82 = .ok (.getfield 87, 3) := by decide +kernel
theorem d_S_meter_85 : decode b_S_meter 85 = .ok (.aload 7, 2) := by decide +kernel
theorem d_S_meter_87 : decode b_S_meter 87 = .ok (.invokevirtual 58, 3) := by decide +kernel
theorem d_S_meter_90 : decode b_S_meter 90 = .ok (.pop, 1) := by decide +kernel
theorem d_S_meter_91 : decode b_S_meter 91 = .ok (.aload_n 0, 1) := by decide +kernel
theorem d_S_meter_92 : decode b_S_meter 92 = .ok (.getfield 19, 3) := by decide +kernel
theorem d_S_meter_95 : decode b_S_meter 95 = .ok (.invokevirtual 42, 3) := by decide +kernel
theorem d_S_meter_98 : decode b_S_meter 98 = .ok (.iconst 1, 1) := by decide +kernel
theorem d_S_meter_99 : decode b_S_meter 99 = .ok (.isub, 1) := by decide +kernel
theorem d_S_meter_100 : decode b_S_meter 100 = .ok (.ireturn, 1) := by decide +kernel
theorem cal_S_meter : am_cal y_S_meter b_S_meter 8 ((Option.some FieldType.int)) 5 := ⟨Or.inl wx_312, wx_1, by decide, by decide +kernel⟩
abbrev y_S_flatAt : MethodName := ⟨"BillShares", "flatAt", "(I)LBillShares$Flat;"⟩
abbrev b_S_flatAt : ByteArray := prog_1_method_28_code
theorem d_S_flatAt_0 : decode b_S_flatAt 0 = .ok (.iload_n 1, 1) := by decide +kernel
theorem d_S_flatAt_1 : decode b_S_flatAt 1 = .ok (.ifCond .lt 14, 3) := by decide +kernel
theorem d_S_flatAt_4 : decode b_S_flatAt 4 = .ok (.iload_n 1, 1) := by decide +kernel
theorem d_S_flatAt_5 : decode b_S_flatAt 5 = .ok (.aload_n 0, 1) := by decide +kernel
theorem d_S_flatAt_6 : decode b_S_flatAt 6 = .ok (.getfield 12, 3) := by decide +kernel
theorem d_S_flatAt_9 : decode b_S_flatAt 9 = .ok (.invokevirtual 42, 3) := by decide +kernel
theorem d_S_flatAt_12 : decode b_S_flatAt 12 = .ok (.if_icmp .lt 13, 3) := by decide +kernel
theorem d_S_flatAt_15 : decode b_S_flatAt 15 = .ok (.new 104, 3) := by decide +kernel
theorem d_S_flatAt_18 : decode b_S_flatAt 18 = .ok (.dup, 1) := by decide +kernel
theorem d_S_flatAt_19 : decode b_S_flatAt 19 = .ok (.ldc 202, 2) := by decide +kernel
theorem d_S_flatAt_21 : decode b_S_flatAt 21 = .ok (.invokespecial 108, 3) := by decide +kernel
theorem d_S_flatAt_24 : decode b_S_flatAt 24 = .ok (.athrow, 1) := by decide +kernel
theorem d_S_flatAt_25 : decode b_S_flatAt 25 = .ok (.aload_n 0, 1) := by decide +kernel
theorem d_S_flatAt_26 : decode b_S_flatAt 26 = .ok (.getfield 12, 3) := by decide +kernel
theorem d_S_flatAt_29 : decode b_S_flatAt 29 = .ok (.iload_n 1, 1) := by decide +kernel
theorem d_S_flatAt_30 : decode b_S_flatAt 30 = .ok (.invokevirtual 204, 3) := by decide +kernel
theorem d_S_flatAt_33 : decode b_S_flatAt 33 = .ok (.checkcast 53, 3) := by decide +kernel
theorem d_S_flatAt_36 : decode b_S_flatAt 36 = .ok (.areturn, 1) := by decide +kernel
theorem cal_S_flatAt : am_cal y_S_flatAt b_S_flatAt 2 ((Option.some (FieldType.object "BillShares$Flat"))) 1 := ⟨Or.inl wx_316, wx_1, by decide, by decide +kernel⟩
abbrev y_S_checkKind : MethodName := ⟨"BillShares", "checkKind", "(I)V"⟩
abbrev b_S_checkKind : ByteArray := prog_1_method_24_code
theorem d_S_checkKind_0 : decode b_S_checkKind 0 = .ok (.iload_n 0, 1) := by decide +kernel
theorem d_S_checkKind_1 : decode b_S_checkKind 1 = .ok (.iconst 0, 1) := by decide +kernel
theorem d_S_checkKind_2 : decode b_S_checkKind 2 = .ok (.iconst 3, 1) := by decide +kernel
theorem d_S_checkKind_3 : decode b_S_checkKind 3 = .ok (.invokestatic 38, 3) := by decide +kernel
theorem d_S_checkKind_6 : decode b_S_checkKind 6 = .ok (.return_, 1) := by decide +kernel
theorem cal_S_checkKind : am_cal y_S_checkKind b_S_checkKind 1 ((Option.none : Option FieldType)) 1 := ⟨Or.inl wx_320, wx_1, by decide, by decide +kernel⟩
abbrev y_S_checkDay : MethodName := ⟨"BillShares", "checkDay", "(I)V"⟩
abbrev b_S_checkDay : ByteArray := prog_1_method_22_code
theorem d_S_checkDay_0 : decode b_S_checkDay 0 = .ok (.iload_n 0, 1) := by decide +kernel
theorem d_S_checkDay_1 : decode b_S_checkDay 1 = .ok (.iconst 0, 1) := by decide +kernel
theorem d_S_checkDay_2 : decode b_S_checkDay 2 = .ok (.sipush 3649, 3) := by decide +kernel
theorem d_S_checkDay_5 : decode b_S_checkDay 5 = .ok (.invokestatic 38, 3) := by decide +kernel
theorem d_S_checkDay_8 : decode b_S_checkDay 8 = .ok (.return_, 1) := by decide +kernel
theorem cal_S_checkDay : am_cal y_S_checkDay b_S_checkDay 1 ((Option.none : Option FieldType)) 1 := ⟨Or.inl wx_323, wx_1, by decide, by decide +kernel⟩
abbrev y_T_init : MethodName := ⟨"BillShares$Meter", "<init>", "(IIII)V"⟩
abbrev b_T_init : ByteArray := prog_4_method_1_code
theorem d_T_init_0 : decode b_T_init 0 = .ok (.aload_n 0, 1) := by decide +kernel
theorem d_T_init_1 : decode b_T_init 1 = .ok (.invokespecial 3, 3) := by decide +kernel
theorem d_T_init_4 : decode b_T_init 4 = .ok (.aload_n 0, 1) := by decide +kernel
theorem d_T_init_5 : decode b_T_init 5 = .ok (.iconst 0, 1) := by decide +kernel
theorem d_T_init_6 : decode b_T_init 6 = .ok (.putfield 9, 3) := by decide +kernel
theorem d_T_init_9 : decode b_T_init 9 = .ok (.aload_n 0, 1) := by decide +kernel
theorem d_T_init_10 : decode b_T_init 10 = .ok (.bipush 40, 2) := by decide +kernel
theorem d_T_init_12 : decode b_T_init 12 = .ok (.newarray .int, 2) := by decide +kernel
theorem d_T_init_14 : decode b_T_init 14 = .ok (.putfield 15, 3) := by decide +kernel
theorem d_T_init_17 : decode b_T_init 17 = .ok (.aload_n 0, 1) := by decide +kernel
theorem d_T_init_18 : decode b_T_init 18 = .ok (.bipush 40, 2) := by decide +kernel
theorem d_T_init_20 : decode b_T_init 20 = .ok (.newarray .int, 2) := by decide +kernel
theorem d_T_init_22 : decode b_T_init 22 = .ok (.putfield 19, 3) := by decide +kernel
theorem d_T_init_25 : decode b_T_init 25 = .ok (.aload_n 0, 1) := by decide +kernel
theorem d_T_init_26 : decode b_T_init 26 = .ok (.bipush 40, 2) := by decide +kernel
theorem d_T_init_28 : decode b_T_init 28 = .ok (.newarray .int, 2) := by decide +kernel
theorem d_T_init_30 : decode b_T_init 30 = .ok (.putfield 22, 3) := by decide +kernel
theorem d_T_init_33 : decode b_T_init 33 = .ok (.aload_n 0, 1) := by decide +kernel
theorem d_T_init_34 : decode b_T_init 34 = .ok (.iload_n 1, 1) := by decide +kernel
theorem d_T_init_35 : decode b_T_init 35 = .ok (.putfield 25, 3) := by decide +kernel
theorem d_T_init_38 : decode b_T_init 38 = .ok (.aload_n 0, 1) := by decide +kernel
theorem d_T_init_39 : decode b_T_init 39 = .ok (.iload_n 2, 1) := by decide +kernel
theorem d_T_init_40 : decode b_T_init 40 = .ok (.putfield 28, 3) := by decide +kernel
theorem d_T_init_43 : decode b_T_init 43 = .ok (.aload_n 0, 1) := by decide +kernel
theorem d_T_init_44 : decode b_T_init 44 = .ok (.iload_n 3, 1) := by decide +kernel
theorem d_T_init_45 : decode b_T_init 45 = .ok (.putfield 31, 3) := by decide +kernel
theorem d_T_init_48 : decode b_T_init 48 = .ok (.aload_n 0, 1) := by decide +kernel
theorem d_T_init_49 : decode b_T_init 49 = .ok (.iload 4, 2) := by decide +kernel
theorem d_T_init_51 : decode b_T_init 51 = .ok (.putfield 34, 3) := by decide +kernel
theorem d_T_init_54 : decode b_T_init 54 = .ok (.return_, 1) := by decide +kernel
theorem cal_T_init : am_cal y_T_init b_T_init 5 ((Option.none : Option FieldType)) 4 := ⟨Or.inl wx_329, wx_18, by decide, by decide +kernel⟩
abbrev y_S_reading : MethodName := ⟨"BillShares", "reading", "(III)I"⟩
abbrev b_S_reading : ByteArray := prog_1_method_4_code
theorem d_S_reading_0 : decode b_S_reading 0 = .ok (.aload_n 0, 1) := by decide +kernel
theorem d_S_reading_1 : decode b_S_reading 1 = .ok (.iload_n 1, 1) := by decide +kernel
theorem d_S_reading_2 : decode b_S_reading 2 = .ok (.iload_n 2, 1) := by decide +kernel
theorem d_S_reading_3 : decode b_S_reading 3 = .ok (.iload_n 3, 1) := by decide +kernel
theorem d_S_reading_4 : decode b_S_reading 4 = .ok (.iconst (-1), 1) := by decide +kernel
theorem d_S_reading_5 : decode b_S_reading 5 = .ok (.invokevirtual 88, 3) := by decide +kernel
theorem d_S_reading_8 : decode b_S_reading 8 = .ok (.ireturn, 1) := by decide +kernel
theorem cal_S_reading : am_cal y_S_reading b_S_reading 4 ((Option.some FieldType.int)) 3 := ⟨Or.inl wx_365, wx_1, by decide, by decide +kernel⟩
abbrev y_S_addReading : MethodName := ⟨"BillShares", "addReading", "(IIII)I"⟩
abbrev b_S_addReading : ByteArray := prog_1_method_32_code
theorem d_S_addReading_0 : decode b_S_addReading 0 = .ok (.aload_n 0, 1) := by decide +kernel
theorem d_S_addReading_1 : decode b_S_addReading 1 = .ok (.iload_n 1, 1) := by decide +kernel
theorem d_S_addReading_2 : decode b_S_addReading 2 = .ok (.invokevirtual 93, 3) := by decide +kernel
theorem d_S_addReading_5 : decode b_S_addReading 5 = .ok (.astore 5, 2) := by decide +kernel
theorem d_S_addReading_7 : decode b_S_addReading 7 = .ok (.iload_n 2, 1) := by decide +kernel
theorem d_S_addReading_8 : decode b_S_addReading 8 = .ok (.invokestatic 77, 3) := by decide +kernel
theorem d_S_addReading_11 : decode b_S_addReading 11 = .ok (.iload_n 3, 1) := by decide +kernel
theorem d_S_addReading_12 : decode b_S_addReading 12 = .ok (.iconst 0, 1) := by decide +kernel
theorem d_S_addReading_13 : decode b_S_addReading 13 = .ok (.ldc 92, 2) := by decide +kernel
theorem d_S_addReading_15 : decode b_S_addReading 15 = .ok (.invokestatic 38, 3) := by decide +kernel
theorem d_S_addReading_18 : decode b_S_addReading 18 = .ok (.aload 5, 2) := by decide +kernel
theorem d_S_addReading_20 : decode b_S_addReading 20 = .ok (.iload_n 2, 1) := by decide +kernel
theorem d_S_addReading_21 : decode b_S_addReading 21 = .ok (.iload_n 3, 1) := by decide +kernel
theorem d_S_addReading_22 : decode b_S_addReading 22 = .ok (.invokevirtual 221, 3) := by decide +kernel
theorem d_S_addReading_25 : decode b_S_addReading 25 = .ok (.ifCond .ne 13, 3) := by decide +kernel
theorem d_S_addReading_28 : decode b_S_addReading 28 = .ok (.new 104, 3) := by decide +kernel
theorem d_S_addReading_31 : decode b_S_addReading 31 = .ok (.dup, 1) := by decide +kernel
theorem d_S_addReading_32 : decode b_S_addReading 32 = .ok (.ldc 224, 2) := by decide +kernel
theorem d_S_addReading_34 : decode b_S_addReading 34 = .ok (.invokespecial 108, 3) := by decide +kernel
theorem d_S_addReading_37 : decode b_S_addReading 37 = .ok (.athrow, 1) := by decide +kernel
theorem d_S_addReading_38 : decode b_S_addReading 38 = .ok (.aload 5, 2) := by decide +kernel
theorem d_S_addReading_40 : decode b_S_addReading 40 = .ok (.getfield 226, 3) := by decide +kernel
theorem d_S_addReading_43 : decode b_S_addReading 43 = .ok (.bipush 40, 2) := by decide +kernel
theorem d_S_addReading_45 : decode b_S_addReading 45 = .ok (.if_icmp .lt 13, 3) := by decide +kernel
theorem d_S_addReading_48 : decode b_S_addReading 48 = .ok (.new 46, 3) := by decide +kernel
theorem d_S_addReading_51 : decode b_S_addReading 51 = .ok (.dup, 1) := by decide +kernel
theorem d_S_addReading_52 : decode b_S_addReading 52 = .ok (.ldc 229, 2) := by decide +kernel
theorem d_S_addReading_54 : decode b_S_addReading 54 = .ok (.invokespecial 50, 3) := by decide +kernel
theorem d_S_addReading_57 : decode b_S_addReading 57 = .ok (.athrow, 1) := by decide +kernel
theorem d_S_addReading_58 : decode b_S_addReading 58 = .ok (.aload 5, 2) := by decide +kernel
theorem d_S_addReading_60 : decode b_S_addReading 60 = .ok (.iload_n 2, 1) := by decide +kernel
theorem d_S_addReading_61 : decode b_S_addReading 61 = .ok (.iload_n 3, 1) := by decide +kernel
theorem d_S_addReading_62 : decode b_S_addReading 62 = .ok (.iload 4, 2) := by decide +kernel
theorem d_S_addReading_64 : decode b_S_addReading 64 = .ok (.invokevirtual 231, 3) := by decide +kernel
theorem d_S_addReading_67 : decode b_S_addReading 67 = .ok (.ireturn, 1) := by decide +kernel
theorem cal_S_addReading : am_cal y_S_addReading b_S_addReading 6 ((Option.some FieldType.int)) 4 := ⟨Or.inl wx_369, wx_1, by decide, by decide +kernel⟩
abbrev y_S_meterAt : MethodName := ⟨"BillShares", "meterAt", "(I)LBillShares$Meter;"⟩
abbrev b_S_meterAt : ByteArray := prog_1_method_29_code
theorem d_S_meterAt_0 : decode b_S_meterAt 0 = .ok (.iload_n 1, 1) := by decide +kernel
theorem d_S_meterAt_1 : decode b_S_meterAt 1 = .ok (.ifCond .lt 14, 3) := by decide +kernel
theorem d_S_meterAt_4 : decode b_S_meterAt 4 = .ok (.iload_n 1, 1) := by decide +kernel
theorem d_S_meterAt_5 : decode b_S_meterAt 5 = .ok (.aload_n 0, 1) := by decide +kernel
theorem d_S_meterAt_6 : decode b_S_meterAt 6 = .ok (.getfield 19, 3) := by decide +kernel
theorem d_S_meterAt_9 : decode b_S_meterAt 9 = .ok (.invokevirtual 42, 3) := by decide +kernel
theorem d_S_meterAt_12 : decode b_S_meterAt 12 = .ok (.if_icmp .lt 13, 3) := by decide +kernel
theorem d_S_meterAt_15 : decode b_S_meterAt 15 = .ok (.new 104, 3) := by decide +kernel
theorem d_S_meterAt_18 : decode b_S_meterAt 18 = .ok (.dup, 1) := by decide +kernel
theorem d_S_meterAt_19 : decode b_S_meterAt 19 = .ok (.ldc 208, 2) := by decide +kernel
theorem d_S_meterAt_21 : decode b_S_meterAt 21 = .ok (.invokespecial 108, 3) := by decide +kernel
theorem d_S_meterAt_24 : decode b_S_meterAt 24 = .ok (.athrow, 1) := by decide +kernel
theorem d_S_meterAt_25 : decode b_S_meterAt 25 = .ok (.aload_n 0, 1) := by decide +kernel
theorem d_S_meterAt_26 : decode b_S_meterAt 26 = .ok (.getfield 19, 3) := by decide +kernel
theorem d_S_meterAt_29 : decode b_S_meterAt 29 = .ok (.iload_n 1, 1) := by decide +kernel
theorem d_S_meterAt_30 : decode b_S_meterAt 30 = .ok (.invokevirtual 204, 3) := by decide +kernel
theorem d_S_meterAt_33 : decode b_S_meterAt 33 = .ok (.checkcast 82, 3) := by decide +kernel
theorem d_S_meterAt_36 : decode b_S_meterAt 36 = .ok (.areturn, 1) := by decide +kernel
theorem cal_S_meterAt : am_cal y_S_meterAt b_S_meterAt 2 ((Option.some (FieldType.object "BillShares$Meter"))) 1 := ⟨Or.inl wx_373, wx_1, by decide, by decide +kernel⟩
abbrev y_T_mayEndWith : MethodName := ⟨"BillShares$Meter", "mayEndWith", "(II)Z"⟩
abbrev b_T_mayEndWith : ByteArray := prog_4_method_2_code
theorem d_T_mayEndWith_0 : decode b_T_mayEndWith 0 = .ok (.aload_n 0, 1) := by decide +kernel
theorem d_T_mayEndWith_1 : decode b_T_mayEndWith 1 = .ok (.getfield 9, 3) := by decide +kernel
theorem d_T_mayEndWith_4 : decode b_T_mayEndWith 4 = .ok (.ifCond .eq 32, 3) := by decide +kernel
theorem d_T_mayEndWith_7 : decode b_T_mayEndWith 7 = .ok (.iload_n 1, 1) := by decide +kernel
theorem d_T_mayEndWith_8 : decode b_T_mayEndWith 8 = .ok (.aload_n 0, 1) := by decide +kernel
theorem d_T_mayEndWith_9 : decode b_T_mayEndWith 9 = .ok (.getfield 15, 3) := by decide +kernel
theorem d_T_mayEndWith_12 : decode b_T_mayEndWith 12 = .ok (.aload_n 0, 1) := by decide +kernel
theorem d_T_mayEndWith_13 : decode b_T_mayEndWith 13 = .ok (.getfield 9, 3) := by decide +kernel
theorem d_T_mayEndWith_16 : decode b_T_mayEndWith 16 = .ok (.iconst 1, 1) := by decide +kernel
theorem d_T_mayEndWith_17 : decode b_T_mayEndWith 17 = .ok (.isub, 1) := by decide +kernel
theorem d_T_mayEndWith_18 : decode b_T_mayEndWith 18 = .ok (.iaload, 1) := by decide +kernel
theorem d_T_mayEndWith_19 : decode b_T_mayEndWith 19 = .ok (.if_icmp .le 21, 3) := by decide +kernel
theorem d_T_mayEndWith_22 : decode b_T_mayEndWith 22 = .ok (.iload_n 2, 1) := by decide +kernel
theorem d_T_mayEndWith_23 : decode b_T_mayEndWith 23 = .ok (.aload_n 0, 1) := by decide +kernel
theorem d_T_mayEndWith_24 : decode b_T_mayEndWith 24 = .ok (.aload_n 0, 1) := by decide +kernel
theorem d_T_mayEndWith_25 : decode b_T_mayEndWith 25 = .ok (.getfield 9, 3) := by decide +kernel
theorem d_T_mayEndWith_28 : decode b_T_mayEndWith 28 = .ok (.iconst 1, 1) := by decide +kernel
theorem d_T_mayEndWith_29 : decode b_T_mayEndWith 29 = .ok (.isub, 1) := by decide +kernel
theorem d_T_mayEndWith_30 : decode b_T_mayEndWith 30 = .ok (.invokevirtual 37, 3) := by decide +kernel
theorem d_T_mayEndWith_33 : decode b_T_mayEndWith 33 = .ok (.if_icmp .lt 7, 3) := by decide +kernel
theorem d_T_mayEndWith_36 : decode b_T_mayEndWith 36 = .ok (.iconst 1, 1) := by decide +kernel
theorem d_T_mayEndWith_37 : decode b_T_mayEndWith 37 = .ok (.goto 4, 3) := by decide +kernel
theorem d_T_mayEndWith_40 : decode b_T_mayEndWith 40 = .ok (.iconst 0, 1) := by decide +kernel
theorem d_T_mayEndWith_41 : decode b_T_mayEndWith 41 = .ok (.ireturn, 1) := by decide +kernel
theorem cal_T_mayEndWith : am_cal y_T_mayEndWith b_T_mayEndWith 3 ((Option.some FieldType.boolean)) 2 := ⟨Or.inl wx_379, wx_18, by decide, by decide +kernel⟩
abbrev y_T_valueBehind : MethodName := ⟨"BillShares$Meter", "valueBehind", "(I)I"⟩
abbrev b_T_valueBehind : ByteArray := prog_4_method_7_code
theorem d_T_valueBehind_0 : decode b_T_valueBehind 0 = .ok (.aload_n 0, 1) := by decide +kernel
theorem d_T_valueBehind_1 : decode b_T_valueBehind 1 = .ok (.getfield 22, 3) := by decide +kernel
theorem d_T_valueBehind_4 : decode b_T_valueBehind 4 = .ok (.iload_n 1, 1) := by decide +kernel
theorem d_T_valueBehind_5 : decode b_T_valueBehind 5 = .ok (.iaload, 1) := by decide +kernel
theorem d_T_valueBehind_6 : decode b_T_valueBehind 6 = .ok (.iconst (-1), 1) := by decide +kernel
theorem d_T_valueBehind_7 : decode b_T_valueBehind 7 = .ok (.if_icmp .ne 12, 3) := by decide +kernel
theorem d_T_valueBehind_10 : decode b_T_valueBehind 10 = .ok (.aload_n 0, 1) := by decide +kernel
theorem d_T_valueBehind_11 : decode b_T_valueBehind 11 = .ok (.getfield 19, 3) := by decide +kernel
theorem d_T_valueBehind_14 : decode b_T_valueBehind 14 = .ok (.iload_n 1, 1) := by decide +kernel
theorem d_T_valueBehind_15 : decode b_T_valueBehind 15 = .ok (.iaload, 1) := by decide +kernel
theorem d_T_valueBehind_16 : decode b_T_valueBehind 16 = .ok (.goto 9, 3) := by decide +kernel
theorem d_T_valueBehind_19 : decode b_T_valueBehind 19 = .ok (.aload_n 0, 1) := by decide +kernel
theorem d_T_valueBehind_20 : decode b_T_valueBehind 20 = .ok (.getfield 22, 3) := by decide +kernel
theorem d_T_valueBehind_23 : decode b_T_valueBehind 23 = .ok (.iload_n 1, 1) := by decide +kernel
theorem d_T_valueBehind_24 : decode b_T_valueBehind 24 = .ok (.iaload, 1) := by decide +kernel
theorem d_T_valueBehind_25 : decode b_T_valueBehind 25 = .ok (.ireturn, 1) := by decide +kernel
theorem cal_T_valueBehind : am_cal y_T_valueBehind b_T_valueBehind 2 ((Option.some FieldType.int)) 1 := ⟨Or.inl wx_383, wx_18, by decide, by decide +kernel⟩
abbrev y_T_append : MethodName := ⟨"BillShares$Meter", "append", "(III)I"⟩
abbrev b_T_append : ByteArray := prog_4_method_3_code
theorem d_T_append_0 : decode b_T_append 0 = .ok (.aload_n 0, 1) := by decide +kernel
theorem d_T_append_1 : decode b_T_append 1 = .ok (.getfield 9, 3) := by decide +kernel
theorem d_T_append_4 : decode b_T_append 4 = .ok (.aload_n 0, 1) := by decide +kernel
theorem d_T_append_5 : decode b_T_append 5 = .ok (.getfield 15, 3) := by decide +kernel
theorem d_T_append_8 : decode b_T_append 8 = .ok (.arraylength, 1) := by decide +kernel
theorem d_T_append_9 : decode b_T_append 9 = .ok (.if_icmp .ge 43, 3) := by decide +kernel
theorem d_T_append_12 : decode b_T_append 12 = .ok (.aload_n 0, 1) := by decide +kernel
theorem d_T_append_13 : decode b_T_append 13 = .ok (.getfield 15, 3) := by decide +kernel
theorem d_T_append_16 : decode b_T_append 16 = .ok (.aload_n 0, 1) := by decide +kernel
theorem d_T_append_17 : decode b_T_append 17 = .ok (.getfield 9, 3) := by decide +kernel
theorem d_T_append_20 : decode b_T_append 20 = .ok (.iload_n 1, 1) := by decide +kernel
theorem d_T_append_21 : decode b_T_append 21 = .ok (.iastore, 1) := by decide +kernel
theorem d_T_append_22 : decode b_T_append 22 = .ok (.aload_n 0, 1) := by decide +kernel
theorem d_T_append_23 : decode b_T_append 23 = .ok (.getfield 19, 3) := by decide +kernel
theorem d_T_append_26 : decode b_T_append 26 = .ok (.aload_n 0, 1) := by decide +kernel
theorem d_T_append_27 : decode b_T_append 27 = .ok (.getfield 9, 3) := by decide +kernel
theorem d_T_append_30 : decode b_T_append 30 = .ok (.iload_n 2, 1) := by decide +kernel
theorem d_T_append_31 : decode b_T_append 31 = .ok (.iastore, 1) := by decide +kernel
theorem d_T_append_32 : decode b_T_append 32 = .ok (.aload_n 0, 1) := by decide +kernel
theorem d_T_append_33 : decode b_T_append 33 = .ok (.getfield 22, 3) := by decide +kernel
theorem d_T_append_36 : decode b_T_append 36 = .ok (.aload_n 0, 1) := by decide +kernel
theorem d_T_append_37 : decode b_T_append 37 = .ok (.getfield 9, 3) := by decide +kernel
theorem d_T_append_40 : decode b_T_append 40 = .ok (.iload_n 3, 1) := by decide +kernel
theorem d_T_append_41 : decode b_T_append 41 = .ok (.iastore, 1) := by decide +kernel
theorem d_T_append_42 : decode b_T_append 42 = .ok (.aload_n 0, 1) := by decide +kernel
theorem d_T_append_43 : decode b_T_append 43 = .ok (.dup, 1) := by decide +kernel
theorem d_T_append_44 : decode b_T_append 44 = .ok (.getfield 9, 3) := by decide +kernel
theorem d_T_append_47 : decode b_T_append 47 = .ok (.iconst 1, 1) := by decide +kernel
theorem d_T_append_48 : decode b_T_append 48 = .ok (.iadd, 1) := by decide +kernel
theorem d_T_append_49 : decode b_T_append 49 = .ok (.putfield 9, 3) := by decide +kernel
theorem d_T_append_52 : decode b_T_append 52 = .ok (.aload_n 0, 1) := by decide +kernel
theorem d_T_append_53 : decode b_T_append 53 = .ok (.getfield 9, 3) := by decide +kernel
theorem d_T_append_56 : decode b_T_append 56 = .ok (.ireturn, 1) := by decide +kernel
theorem cal_T_append : am_cal y_T_append b_T_append 4 ((Option.some FieldType.int)) 3 := ⟨Or.inl wx_389, wx_18, by decide, by decide +kernel⟩
abbrev y_S_changed : MethodName := ⟨"BillShares", "changed", "(IIII)I"⟩
abbrev b_S_changed : ByteArray := prog_1_method_5_code
theorem d_S_changed_0 : decode b_S_changed 0 = .ok (.iload 4, 2) := by decide +kernel
theorem d_S_changed_2 : decode b_S_changed 2 = .ok (.iconst 0, 1) := by decide +kernel
theorem d_S_changed_3 : decode b_S_changed 3 = .ok (.ldc 92, 2) := by decide +kernel
theorem d_S_changed_5 : decode b_S_changed 5 = .ok (.invokestatic 38, 3) := by decide +kernel
theorem d_S_changed_8 : decode b_S_changed 8 = .ok (.aload_n 0, 1) := by decide +kernel
theorem d_S_changed_9 : decode b_S_changed 9 = .ok (.iload_n 1, 1) := by decide +kernel
theorem d_S_changed_10 : decode b_S_changed 10 = .ok (.iload_n 2, 1) := by decide +kernel
theorem d_S_changed_11 : decode b_S_changed 11 = .ok (.iload_n 3, 1) := by decide +kernel
theorem d_S_changed_12 : decode b_S_changed 12 = .ok (.iload 4, 2) := by decide +kernel
theorem d_S_changed_14 : decode b_S_changed 14 = .ok (.invokevirtual 88, 3) := by decide +kernel
theorem d_S_changed_17 : decode b_S_changed 17 = .ok (.ireturn, 1) := by decide +kernel
theorem cal_S_changed : am_cal y_S_changed b_S_changed 5 ((Option.some FieldType.int)) 4 := ⟨Or.inl wx_396, wx_1, by decide, by decide +kernel⟩
abbrev y_S_correct : MethodName := ⟨"BillShares", "correct", "(III)I"⟩
abbrev b_S_correct : ByteArray := prog_1_method_6_code
theorem d_S_correct_0 : decode b_S_correct 0 = .ok (.aload_n 0, 1) := by decide +kernel
theorem d_S_correct_1 : decode b_S_correct 1 = .ok (.iload_n 1, 1) := by decide +kernel
theorem d_S_correct_2 : decode b_S_correct 2 = .ok (.invokevirtual 93, 3) := by decide +kernel
theorem d_S_correct_5 : decode b_S_correct 5 = .ok (.astore 4, 2) := by decide +kernel
theorem d_S_correct_7 : decode b_S_correct 7 = .ok (.iload_n 2, 1) := by decide +kernel
theorem d_S_correct_8 : decode b_S_correct 8 = .ok (.invokestatic 77, 3) := by decide +kernel
theorem d_S_correct_11 : decode b_S_correct 11 = .ok (.iload_n 3, 1) := by decide +kernel
theorem d_S_correct_12 : decode b_S_correct 12 = .ok (.iconst 0, 1) := by decide +kernel
theorem d_S_correct_13 : decode b_S_correct 13 = .ok (.ldc 92, 2) := by decide +kernel
theorem d_S_correct_15 : decode b_S_correct 15 = .ok (.invokestatic 38, 3) := by decide +kernel
theorem d_S_correct_18 : decode b_S_correct 18 = .ok (.aload 4, 2) := by decide +kernel
theorem d_S_correct_20 : decode b_S_correct 20 = .ok (.iload_n 2, 1) := by decide +kernel
theorem d_S_correct_21 : decode b_S_correct 21 = .ok (.invokevirtual 97, 3) := by decide +kernel
theorem d_S_correct_24 : decode b_S_correct 24 = .ok (.istore 5, 2) := by decide +kernel
theorem d_S_correct_26 : decode b_S_correct 26 = .ok (.iload 5, 2) := by decide +kernel
theorem d_S_correct_28 : decode b_S_correct 28 = .ok (.iconst (-1), 1) := by decide +kernel
theorem d_S_correct_29 : decode b_S_correct 29 = .ok (.if_icmp .eq 14, 3) := by decide +kernel
theorem d_S_correct_32 : decode b_S_correct 32 = .ok (.aload 4, 2) := by decide +kernel
theorem d_S_correct_34 : decode b_S_correct 34 = .ok (.iload 5, 2) := by decide +kernel
theorem d_S_correct_36 : decode b_S_correct 36 = .ok (.iload_n 3, 1) := by decide +kernel
theorem d_S_correct_37 : decode b_S_correct 37 = .ok (.invokevirtual 100, 3) := by decide +kernel
theorem d_S_correct_40 : decode b_S_correct 40 = .ok (.ifCond .ne 13, 3) := by decide +kernel
theorem d_S_correct_43 : decode b_S_correct 43 = .ok (.new 104, 3) := by decide +kernel
theorem d_S_correct_46 : decode b_S_correct 46 = .ok (.dup, 1) := by decide +kernel
theorem d_S_correct_47 : decode b_S_correct 47 = .ok (.ldc 106, 2) := by decide +kernel
theorem d_S_correct_49 : decode b_S_correct 49 = .ok (.invokespecial 108, 3) := by decide +kernel
theorem d_S_correct_52 : decode b_S_correct 52 = .ok (.athrow, 1) := by decide +kernel
theorem d_S_correct_53 : decode b_S_correct 53 = .ok (.aload 4, 2) := by decide +kernel
theorem d_S_correct_55 : decode b_S_correct 55 = .ok (.iload 5, 2) := by decide +kernel
theorem d_S_correct_57 : decode b_S_correct 57 = .ok (.iload_n 3, 1) := by decide +kernel
theorem d_S_correct_58 : decode b_S_correct 58 = .ok (.invokevirtual 109, 3) := by decide +kernel
theorem d_S_correct_61 : decode b_S_correct 61 = .ok (.ireturn, 1) := by decide +kernel
theorem cal_S_correct : am_cal y_S_correct b_S_correct 6 ((Option.some FieldType.int)) 3 := ⟨Or.inl wx_403, wx_1, by decide, by decide +kernel⟩
abbrev y_T_indexOfDay : MethodName := ⟨"BillShares$Meter", "indexOfDay", "(I)I"⟩
abbrev b_T_indexOfDay : ByteArray := prog_4_method_4_code
theorem d_T_indexOfDay_0 : decode b_T_indexOfDay 0 = .ok (.iconst 0, 1) := by decide +kernel
theorem d_T_indexOfDay_1 : decode b_T_indexOfDay 1 = .ok (.istore_n 2, 1) := by decide +kernel
theorem d_T_indexOfDay_2 : decode b_T_indexOfDay 2 = .ok (.iload_n 2, 1) := by decide +kernel
theorem d_T_indexOfDay_3 : decode b_T_indexOfDay 3 = .ok (.aload_n 0, 1) := by decide +kernel
theorem d_T_indexOfDay_4 : decode b_T_indexOfDay 4 = .ok (.getfield 9, 3) := by decide +kernel
theorem d_T_indexOfDay_7 : decode b_T_indexOfDay 7 = .ok (.if_icmp .ge 21, 3) := by decide +kernel
theorem d_T_indexOfDay_10 : decode b_T_indexOfDay 10 = .ok (.aload_n 0, 1) := by decide +kernel
theorem d_T_indexOfDay_11 : decode b_T_indexOfDay 11 = .ok (.getfield 15, 3) := by decide +kernel
theorem d_T_indexOfDay_14 : decode b_T_indexOfDay 14 = .ok (.iload_n 2, 1) := by decide +kernel
theorem d_T_indexOfDay_15 : decode b_T_indexOfDay 15 = .ok (.iaload, 1) := by decide +kernel
theorem d_T_indexOfDay_16 : decode b_T_indexOfDay 16 = .ok (.iload_n 1, 1) := by decide +kernel
theorem d_T_indexOfDay_17 : decode b_T_indexOfDay 17 = .ok (.if_icmp .ne 5, 3) := by decide +kernel
theorem d_T_indexOfDay_20 : decode b_T_indexOfDay 20 = .ok (.iload_n 2, 1) := by decide +kernel
theorem d_T_indexOfDay_21 : decode b_T_indexOfDay 21 = .ok (.ireturn, 1) := by decide +kernel
theorem d_T_indexOfDay_22 : decode b_T_indexOfDay 22 = .ok (.iinc 2 1, 3) := by decide +kernel
theorem d_T_indexOfDay_25 : decode b_T_indexOfDay 25 = .ok (.goto (-23), 3) := by decide +kernel
theorem d_T_indexOfDay_28 : decode b_T_indexOfDay 28 = .ok (.iconst (-1), 1) := by decide +kernel
theorem d_T_indexOfDay_29 : decode b_T_indexOfDay 29 = .ok (.ireturn, 1) := by decide +kernel
theorem cal_T_indexOfDay : am_cal y_T_indexOfDay b_T_indexOfDay 3 ((Option.some FieldType.int)) 1 := ⟨Or.inl wx_407, wx_18, by decide, by decide +kernel⟩
abbrev y_T_fits : MethodName := ⟨"BillShares$Meter", "fits", "(II)Z"⟩
abbrev b_T_fits : ByteArray := prog_4_method_5_code
theorem d_T_fits_0 : decode b_T_fits 0 = .ok (.iload_n 1, 1) := by decide +kernel
theorem d_T_fits_1 : decode b_T_fits 1 = .ok (.ifCond .eq 14, 3) := by decide +kernel
theorem d_T_fits_4 : decode b_T_fits 4 = .ok (.iload_n 2, 1) := by decide +kernel
theorem d_T_fits_5 : decode b_T_fits 5 = .ok (.aload_n 0, 1) := by decide +kernel
theorem d_T_fits_6 : decode b_T_fits 6 = .ok (.iload_n 1, 1) := by decide +kernel
theorem d_T_fits_7 : decode b_T_fits 7 = .ok (.iconst 1, 1) := by decide +kernel
theorem d_T_fits_8 : decode b_T_fits 8 = .ok (.isub, 1) := by decide +kernel
theorem d_T_fits_9 : decode b_T_fits 9 = .ok (.invokevirtual 37, 3) := by decide +kernel
theorem d_T_fits_12 : decode b_T_fits 12 = .ok (.if_icmp .lt 7, 3) := by decide +kernel
theorem d_T_fits_15 : decode b_T_fits 15 = .ok (.iconst 1, 1) := by decide +kernel
theorem d_T_fits_16 : decode b_T_fits 16 = .ok (.goto 4, 3) := by decide +kernel
theorem d_T_fits_19 : decode b_T_fits 19 = .ok (.iconst 0, 1) := by decide +kernel
theorem d_T_fits_20 : decode b_T_fits 20 = .ok (.istore_n 3, 1) := by decide +kernel
theorem d_T_fits_21 : decode b_T_fits 21 = .ok (.iload_n 1, 1) := by decide +kernel
theorem d_T_fits_22 : decode b_T_fits 22 = .ok (.iconst 1, 1) := by decide +kernel
theorem d_T_fits_23 : decode b_T_fits 23 = .ok (.iadd, 1) := by decide +kernel
theorem d_T_fits_24 : decode b_T_fits 24 = .ok (.aload_n 0, 1) := by decide +kernel
theorem d_T_fits_25 : decode b_T_fits 25 = .ok (.getfield 9, 3) := by decide +kernel
theorem d_T_fits_28 : decode b_T_fits 28 = .ok (.if_icmp .ge 25, 3) := by decide +kernel
theorem d_T_fits_31 : decode b_T_fits 31 = .ok (.aload_n 0, 1) := by decide +kernel
theorem d_T_fits_32 : decode b_T_fits 32 = .ok (.getfield 22, 3) := by decide +kernel
theorem d_T_fits_35 : decode b_T_fits 35 = .ok (.iload_n 1, 1) := by decide +kernel
theorem d_T_fits_36 : decode b_T_fits 36 = .ok (.iaload, 1) := by decide +kernel
theorem d_T_fits_37 : decode b_T_fits 37 = .ok (.iconst (-1), 1) := by decide +kernel
theorem d_T_fits_38 : decode b_T_fits 38 = .ok (.if_icmp .ne 15, 3) := by decide +kernel
theorem d_T_fits_41 : decode b_T_fits 41 = .ok (.iload_n 2, 1) := by decide +kernel
theorem d_T_fits_42 : decode b_T_fits 42 = .ok (.aload_n 0, 1) := by decide +kernel
theorem d_T_fits_43 : decode b_T_fits 43 = .ok (.getfield 19, 3) := by decide +kernel
theorem d_T_fits_46 : decode b_T_fits 46 = .ok (.iload_n 1, 1) := by decide +kernel
theorem d_T_fits_47 : decode b_T_fits 47 = .ok (.iconst 1, 1) := by decide +kernel
theorem d_T_fits_48 : decode b_T_fits 48 = .ok (.iadd, 1) := by decide +kernel
theorem d_T_fits_49 : decode b_T_fits 49 = .ok (.iaload, 1) := by decide +kernel
theorem d_T_fits_50 : decode b_T_fits 50 = .ok (.if_icmp .gt 7, 3) := by decide +kernel
theorem d_T_fits_53 : decode b_T_fits 53 = .ok (.iconst 1, 1) := by decide +kernel
theorem d_T_fits_54 : decode b_T_fits 54 = .ok (.goto 4, 3) := by decide +kernel
theorem d_T_fits_57 : decode b_T_fits 57 = .ok (.iconst 0, 1) := by decide +kernel
theorem d_T_fits_58 : decode b_T_fits 58 = .ok (.istore 4, 2) := by decide +kernel
theorem d_T_fits_60 : decode b_T_fits 60 = .ok (.iload_n 3, 1) := by decide +kernel
theorem d_T_fits_61 : decode b_T_fits 61 = .ok (.ifCond .eq 12, 3) := by decide +kernel
theorem d_T_fits_64 : decode b_T_fits 64 = .ok (.iload 4, 2) := by decide +kernel
theorem d_T_fits_66 : decode b_T_fits 66 = .ok (.ifCond .eq 7, 3) := by decide +kernel
theorem d_T_fits_69 : decode b_T_fits 69 = .ok (.iconst 1, 1) := by decide +kernel
theorem d_T_fits_70 : decode b_T_fits 70 = .ok (.goto 4, 3) := by decide +kernel
theorem d_T_fits_73 : decode b_T_fits 73 = .ok (.iconst 0, 1) := by decide +kernel
theorem d_T_fits_74 : decode b_T_fits 74 = .ok (.ireturn, 1) := by decide +kernel
theorem cal_T_fits : am_cal y_T_fits b_T_fits 5 ((Option.some FieldType.boolean)) 2 := ⟨Or.inl wx_411, wx_18, by decide, by decide +kernel⟩
abbrev y_T_replaceValue : MethodName := ⟨"BillShares$Meter", "replaceValue", "(II)I"⟩
abbrev b_T_replaceValue : ByteArray := prog_4_method_6_code
theorem d_T_replaceValue_0 : decode b_T_replaceValue 0 = .ok (.aload_n 0, 1) := by decide +kernel
theorem d_T_replaceValue_1 : decode b_T_replaceValue 1 = .ok (.getfield 19, 3) := by decide +kernel
theorem d_T_replaceValue_4 : decode b_T_replaceValue 4 = .ok (.iload_n 1, 1) := by decide +kernel
theorem d_T_replaceValue_5 : decode b_T_replaceValue 5 = .ok (.iaload, 1) := by decide +kernel
theorem d_T_replaceValue_6 : decode b_T_replaceValue 6 = .ok (.istore_n 3, 1) := by decide +kernel
theorem d_T_replaceValue_7 : decode b_T_replaceValue 7 = .ok (.aload_n 0, 1) := by decide +kernel
theorem d_T_replaceValue_8 : decode b_T_replaceValue 8 = .ok (.getfield 19, 3) := by decide +kernel
theorem d_T_replaceValue_11 : decode b_T_replaceValue 11 = .ok (.iload_n 1, 1) := by decide +kernel
theorem d_T_replaceValue_12 : decode b_T_replaceValue 12 = .ok (.iload_n 2, 1) := by decide +kernel
theorem d_T_replaceValue_13 : decode b_T_replaceValue 13 = .ok (.iastore, 1) := by decide +kernel
theorem d_T_replaceValue_14 : decode b_T_replaceValue 14 = .ok (.iload_n 3, 1) := by decide +kernel
theorem d_T_replaceValue_15 : decode b_T_replaceValue 15 = .ok (.ireturn, 1) := by decide +kernel
theorem cal_T_replaceValue : am_cal y_T_replaceValue b_T_replaceValue 4 ((Option.some FieldType.int)) 2 := ⟨Or.inl wx_416, wx_18, by decide, by decide +kernel⟩
abbrev y_S_tested : MethodName := ⟨"BillShares", "tested", "(II)I"⟩
abbrev b_S_tested : ByteArray := prog_1_method_7_code
theorem d_S_tested_0 : decode b_S_tested 0 = .ok (.aload_n 0, 1) := by decide +kernel
theorem d_S_tested_1 : decode b_S_tested 1 = .ok (.iload_n 1, 1) := by decide +kernel
theorem d_S_tested_2 : decode b_S_tested 2 = .ok (.invokevirtual 93, 3) := by decide +kernel
theorem d_S_tested_5 : decode b_S_tested 5 = .ok (.astore_n 3, 1) := by decide +kernel
theorem d_S_tested_6 : decode b_S_tested 6 = .ok (.iload_n 2, 1) := by decide +kernel
theorem d_S_tested_7 : decode b_S_tested 7 = .ok (.invokestatic 77, 3) := by decide +kernel
theorem d_S_tested_10 : decode b_S_tested 10 = .ok (.aload_n 3, 1) := by decide +kernel
theorem d_S_tested_11 : decode b_S_tested 11 = .ok (.getfield 113, 3) := by decide +kernel
theorem d_S_tested_14 : decode b_S_tested 14 = .ok (.istore 4, 2) := by decide +kernel
theorem d_S_tested_16 : decode b_S_tested 16 = .ok (.aload_n 3, 1) := by decide +kernel
theorem d_S_tested_17 : decode b_S_tested 17 = .ok (.iload_n 2, 1) := by decide +kernel
theorem d_S_tested_18 : decode b_S_tested 18 = .ok (.putfield 113, 3) := by decide +kernel
theorem d_S_tested_21 : decode b_S_tested 21 = .ok (.iload 4, 2) := by decide +kernel
theorem d_S_tested_23 : decode b_S_tested 23 = .ok (.ireturn, 1) := by decide +kernel
theorem cal_S_tested : am_cal y_S_tested b_S_tested 5 ((Option.some FieldType.int)) 2 := ⟨Or.inl wx_423, wx_1, by decide, by decide +kernel⟩
abbrev y_S_cost : MethodName := ⟨"BillShares", "cost", "(III)I"⟩
abbrev b_S_cost : ByteArray := prog_1_method_8_code
theorem d_S_cost_0 : decode b_S_cost 0 = .ok (.iload_n 1, 1) := by decide +kernel
theorem d_S_cost_1 : decode b_S_cost 1 = .ok (.invokestatic 73, 3) := by decide +kernel
theorem d_S_cost_4 : decode b_S_cost 4 = .ok (.iload_n 2, 1) := by decide +kernel
theorem d_S_cost_5 : decode b_S_cost 5 = .ok (.invokestatic 117, 3) := by decide +kernel
theorem d_S_cost_8 : decode b_S_cost 8 = .ok (.iload_n 3, 1) := by decide +kernel
theorem d_S_cost_9 : decode b_S_cost 9 = .ok (.iconst 0, 1) := by decide +kernel
theorem d_S_cost_10 : decode b_S_cost 10 = .ok (.ldc 120, 2) := by decide +kernel
theorem d_S_cost_12 : decode b_S_cost 12 = .ok (.invokestatic 38, 3) := by decide +kernel
theorem d_S_cost_15 : decode b_S_cost 15 = .ok (.iload_n 1, 1) := by decide +kernel
theorem d_S_cost_16 : decode b_S_cost 16 = .ok (.bipush 10, 2) := by decide +kernel
theorem d_S_cost_18 : decode b_S_cost 18 = .ok (.imul, 1) := by decide +kernel
theorem d_S_cost_19 : decode b_S_cost 19 = .ok (.iload_n 2, 1) := by decide +kernel
theorem d_S_cost_20 : decode b_S_cost 20 = .ok (.iadd, 1) := by decide +kernel
theorem d_S_cost_21 : decode b_S_cost 21 = .ok (.istore 4, 2) := by decide +kernel
theorem d_S_cost_23 : decode b_S_cost 23 = .ok (.aload_n 0, 1) := by decide +kernel
theorem d_S_cost_24 : decode b_S_cost 24 = .ok (.getfield 22, 3) := by decide +kernel
theorem d_S_cost_27 : decode b_S_cost 27 = .ok (.iload 4, 2) := by decide +kernel
theorem d_S_cost_29 : decode b_S_cost 29 = .ok (.iaload, 1) := by decide +kernel
theorem d_S_cost_30 : decode b_S_cost 30 = .ok (.istore 5, 2) := by decide +kernel
theorem d_S_cost_32 : decode b_S_cost 32 = .ok (.aload_n 0, 1) := by decide +kernel
theorem d_S_cost_33 : decode b_S_cost 33 = .ok (.getfield 22, 3) := by decide +kernel
theorem d_S_cost_36 : decode b_S_cost 36 = .ok (.iload 4, 2) := by decide +kernel
theorem d_S_cost_38 : decode b_S_cost 38 = .ok (.iload_n 3, 1) := by decide +kernel
theorem d_S_cost_39 : decode b_S_cost 39 = .ok (.iastore, 1) := by decide +kernel
theorem d_S_cost_40 : decode b_S_cost 40 = .ok (.iload 5, 2) := by decide +kernel
theorem d_S_cost_42 : decode b_S_cost 42 = .ok (.ireturn, 1) := by decide +kernel
theorem cal_S_cost : am_cal y_S_cost b_S_cost 6 ((Option.some FieldType.int)) 3 := ⟨Or.inl wx_430, wx_1, by decide, by decide +kernel⟩
abbrev y_S_checkYear : MethodName := ⟨"BillShares", "checkYear", "(I)V"⟩
abbrev b_S_checkYear : ByteArray := prog_1_method_23_code
theorem d_S_checkYear_0 : decode b_S_checkYear 0 = .ok (.iload_n 0, 1) := by decide +kernel
theorem d_S_checkYear_1 : decode b_S_checkYear 1 = .ok (.iconst 0, 1) := by decide +kernel
theorem d_S_checkYear_2 : decode b_S_checkYear 2 = .ok (.bipush 9, 2) := by decide +kernel
theorem d_S_checkYear_4 : decode b_S_checkYear 4 = .ok (.invokestatic 38, 3) := by decide +kernel
theorem d_S_checkYear_7 : decode b_S_checkYear 7 = .ok (.return_, 1) := by decide +kernel
theorem cal_S_checkYear : am_cal y_S_checkYear b_S_checkYear 1 ((Option.none : Option FieldType)) 1 := ⟨Or.inl wx_433, wx_1, by decide, by decide +kernel⟩
abbrev y_S_base : MethodName := ⟨"BillShares", "base", "(II)I"⟩
abbrev b_S_base : ByteArray := prog_1_method_9_code
theorem d_S_base_0 : decode b_S_base 0 = .ok (.iload_n 1, 1) := by decide +kernel
theorem d_S_base_1 : decode b_S_base 1 = .ok (.invokestatic 73, 3) := by decide +kernel
theorem d_S_base_4 : decode b_S_base 4 = .ok (.iload_n 2, 1) := by decide +kernel
theorem d_S_base_5 : decode b_S_base 5 = .ok (.iconst 0, 1) := by decide +kernel
theorem d_S_base_6 : decode b_S_base 6 = .ok (.bipush 100, 2) := by decide +kernel
theorem d_S_base_8 : decode b_S_base 8 = .ok (.invokestatic 38, 3) := by decide +kernel
theorem d_S_base_11 : decode b_S_base 11 = .ok (.aload_n 0, 1) := by decide +kernel
theorem d_S_base_12 : decode b_S_base 12 = .ok (.getfield 26, 3) := by decide +kernel
theorem d_S_base_15 : decode b_S_base 15 = .ok (.iload_n 1, 1) := by decide +kernel
theorem d_S_base_16 : decode b_S_base 16 = .ok (.iaload, 1) := by decide +kernel
theorem d_S_base_17 : decode b_S_base 17 = .ok (.istore_n 3, 1) := by decide +kernel
theorem d_S_base_18 : decode b_S_base 18 = .ok (.aload_n 0, 1) := by decide +kernel
theorem d_S_base_19 : decode b_S_base 19 = .ok (.getfield 26, 3) := by decide +kernel
theorem d_S_base_22 : decode b_S_base 22 = .ok (.iload_n 1, 1) := by decide +kernel
theorem d_S_base_23 : decode b_S_base 23 = .ok (.iload_n 2, 1) := by decide +kernel
theorem d_S_base_24 : decode b_S_base 24 = .ok (.iastore, 1) := by decide +kernel
theorem d_S_base_25 : decode b_S_base 25 = .ok (.iload_n 3, 1) := by decide +kernel
theorem d_S_base_26 : decode b_S_base 26 = .ok (.ireturn, 1) := by decide +kernel
theorem cal_S_base : am_cal y_S_base b_S_base 4 ((Option.some FieldType.int)) 2 := ⟨Or.inl wx_441, wx_1, by decide, by decide +kernel⟩
abbrev y_S_moves : MethodName := ⟨"BillShares", "moves", "(II)I"⟩
abbrev b_S_moves : ByteArray := prog_1_method_10_code
theorem d_S_moves_0 : decode b_S_moves 0 = .ok (.aload_n 0, 1) := by decide +kernel
theorem d_S_moves_1 : decode b_S_moves 1 = .ok (.iload_n 1, 1) := by decide +kernel
theorem d_S_moves_2 : decode b_S_moves 2 = .ok (.invokevirtual 69, 3) := by decide +kernel
theorem d_S_moves_5 : decode b_S_moves 5 = .ok (.astore_n 3, 1) := by decide +kernel
theorem d_S_moves_6 : decode b_S_moves 6 = .ok (.iload_n 2, 1) := by decide +kernel
theorem d_S_moves_7 : decode b_S_moves 7 = .ok (.invokestatic 77, 3) := by decide +kernel
theorem d_S_moves_10 : decode b_S_moves 10 = .ok (.iload_n 2, 1) := by decide +kernel
theorem d_S_moves_11 : decode b_S_moves 11 = .ok (.aload_n 3, 1) := by decide +kernel
theorem d_S_moves_12 : decode b_S_moves 12 = .ok (.invokevirtual 121, 3) := by decide +kernel
theorem d_S_moves_15 : decode b_S_moves 15 = .ok (.if_icmp .gt 13, 3) := by decide +kernel
theorem d_S_moves_18 : decode b_S_moves 18 = .ok (.new 104, 3) := by decide +kernel
theorem d_S_moves_21 : decode b_S_moves 21 = .ok (.dup, 1) := by decide +kernel
theorem d_S_moves_22 : decode b_S_moves 22 = .ok (.ldc 124, 2) := by decide +kernel
theorem d_S_moves_24 : decode b_S_moves 24 = .ok (.invokespecial 108, 3) := by decide +kernel
theorem d_S_moves_27 : decode b_S_moves 27 = .ok (.athrow, 1) := by decide +kernel
theorem d_S_moves_28 : decode b_S_moves 28 = .ok (.aload_n 3, 1) := by decide +kernel
theorem d_S_moves_29 : decode b_S_moves 29 = .ok (.getfield 126, 3) := by decide +kernel
theorem d_S_moves_32 : decode b_S_moves 32 = .ok (.bipush 12, 2) := by decide +kernel
theorem d_S_moves_34 : decode b_S_moves 34 = .ok (.if_icmp .lt 13, 3) := by decide +kernel
theorem d_S_moves_37 : decode b_S_moves 37 = .ok (.new 46, 3) := by decide +kernel
theorem d_S_moves_40 : decode b_S_moves 40 = .ok (.dup, 1) := by decide +kernel
theorem d_S_moves_41 : decode b_S_moves 41 = .ok (.ldc 129, 2) := by decide +kernel
theorem d_S_moves_43 : decode b_S_moves 43 = .ok (.invokespecial 50, 3) := by decide +kernel
theorem d_S_moves_46 : decode b_S_moves 46 = .ok (.athrow, 1) := by decide +kernel
theorem d_S_moves_47 : decode b_S_moves 47 = .ok (.aload_n 3, 1) := by decide +kernel
theorem d_S_moves_48 : decode b_S_moves 48 = .ok (.iload_n 2, 1) := by decide +kernel
theorem d_S_moves_49 : decode b_S_moves 49 = .ok (.invokevirtual 131, 3) := by decide +kernel
theorem d_S_moves_52 : decode b_S_moves 52 = .ok (.ireturn, 1) := by decide +kernel
theorem cal_S_moves : am_cal y_S_moves b_S_moves 4 ((Option.some FieldType.int)) 2 := ⟨Or.inl wx_448, wx_1, by decide, by decide +kernel⟩
abbrev y_F_latestMove : MethodName := ⟨"BillShares$Flat", "latestMove", "()I"⟩
abbrev b_F_latestMove : ByteArray := prog_3_method_2_code
theorem d_F_latestMove_0 : decode b_F_latestMove 0 = .ok (.aload_n 0, 1) := by decide +kernel
theorem d_F_latestMove_1 : decode b_F_latestMove 1 = .ok (.aload_n 0, 1) := by decide +kernel
theorem d_F_latestMove_2 : decode b_F_latestMove 2 = .ok (.getfield 22, 3) := by decide +kernel
theorem d_F_latestMove_5 : decode b_F_latestMove 5 = .ok (.iconst 1, 1) := by decide +kernel
theorem d_F_latestMove_6 : decode b_F_latestMove 6 = .ok (.isub, 1) := by decide +kernel
theorem d_F_latestMove_7 : decode b_F_latestMove 7 = .ok (.invokevirtual 42, 3) := by decide +kernel
theorem d_F_latestMove_10 : decode b_F_latestMove 10 = .ok (.ireturn, 1) := by decide +kernel
theorem cal_F_latestMove : am_cal y_F_latestMove b_F_latestMove 1 ((Option.some FieldType.int)) 0 := ⟨Or.inl wx_452, wx_12, by decide, by decide +kernel⟩
abbrev y_F_movedIn : MethodName := ⟨"BillShares$Flat", "movedIn", "(I)I"⟩
abbrev b_F_movedIn : ByteArray := prog_3_method_4_code
theorem d_F_movedIn_0 : decode b_F_movedIn 0 = .ok (.iload_n 1, 1) := by decide +kernel
theorem d_F_movedIn_1 : decode b_F_movedIn 1 = .ok (.ifCond .lt 20, 3) := by decide +kernel
theorem d_F_movedIn_4 : decode b_F_movedIn 4 = .ok (.iload_n 1, 1) := by decide +kernel
theorem d_F_movedIn_5 : decode b_F_movedIn 5 = .ok (.aload_n 0, 1) := by decide +kernel
theorem d_F_movedIn_6 : decode b_F_movedIn 6 = .ok (.getfield 22, 3) := by decide +kernel
theorem d_F_movedIn_9 : decode b_F_movedIn 9 = .ok (.if_icmp .ge 12, 3) := by decide +kernel
theorem d_F_movedIn_12 : decode b_F_movedIn 12 = .ok (.aload_n 0, 1) := by decide +kernel
theorem d_F_movedIn_13 : decode b_F_movedIn 13 = .ok (.getfield 18, 3) := by decide +kernel
theorem d_F_movedIn_16 : decode b_F_movedIn 16 = .ok (.iload_n 1, 1) := by decide +kernel
theorem d_F_movedIn_17 : decode b_F_movedIn 17 = .ok (.iaload, 1) := by decide +kernel
theorem d_F_movedIn_18 : decode b_F_movedIn 18 = .ok (.goto 4, 3) := by decide +kernel
theorem d_F_movedIn_21 : decode b_F_movedIn 21 = .ok (.iconst 0, 1) := by decide +kernel
theorem d_F_movedIn_22 : decode b_F_movedIn 22 = .ok (.ireturn, 1) := by decide +kernel
theorem cal_F_movedIn : am_cal y_F_movedIn b_F_movedIn 2 ((Option.some FieldType.int)) 1 := ⟨Or.inl wx_456, wx_12, by decide, by decide +kernel⟩
abbrev y_F_takeIn : MethodName := ⟨"BillShares$Flat", "takeIn", "(I)I"⟩
abbrev b_F_takeIn : ByteArray := prog_3_method_3_code
theorem d_F_takeIn_0 : decode b_F_takeIn 0 = .ok (.aload_n 0, 1) := by decide +kernel
theorem d_F_takeIn_1 : decode b_F_takeIn 1 = .ok (.getfield 22, 3) := by decide +kernel
theorem d_F_takeIn_4 : decode b_F_takeIn 4 = .ok (.aload_n 0, 1) := by decide +kernel
theorem d_F_takeIn_5 : decode b_F_takeIn 5 = .ok (.getfield 18, 3) := by decide +kernel
theorem d_F_takeIn_8 : decode b_F_takeIn 8 = .ok (.arraylength, 1) := by decide +kernel
theorem d_F_takeIn_9 : decode b_F_takeIn 9 = .ok (.if_icmp .ge 23, 3) := by decide +kernel
theorem d_F_takeIn_12 : decode b_F_takeIn 12 = .ok (.aload_n 0, 1) := by decide +kernel
theorem d_F_takeIn_13 : decode b_F_takeIn 13 = .ok (.getfield 18, 3) := by decide +kernel
theorem d_F_takeIn_16 : decode b_F_takeIn 16 = .ok (.aload_n 0, 1) := by decide +kernel
theorem d_F_takeIn_17 : decode b_F_takeIn 17 = .ok (.getfield 22, 3) := by decide +kernel
theorem d_F_takeIn_20 : decode b_F_takeIn 20 = .ok (.iload_n 1, 1) := by decide +kernel
theorem d_F_takeIn_21 : decode b_F_takeIn 21 = .ok (.iastore, 1) := by decide +kernel
theorem d_F_takeIn_22 : decode b_F_takeIn 22 = .ok (.aload_n 0, 1) := by decide +kernel
theorem d_F_takeIn_23 : decode b_F_takeIn 23 = .ok (.dup, 1) := by decide +kernel
theorem d_F_takeIn_24 : decode b_F_takeIn 24 = .ok (.getfield 22, 3) := by decide +kernel
theorem d_F_takeIn_27 : decode b_F_takeIn 27 = .ok (.iconst 1, 1) := by decide +kernel
theorem d_F_takeIn_28 : decode b_F_takeIn 28 = .ok (.iadd, 1) := by decide +kernel
theorem d_F_takeIn_29 : decode b_F_takeIn 29 = .ok (.putfield 22, 3) := by decide +kernel
theorem d_F_takeIn_32 : decode b_F_takeIn 32 = .ok (.aload_n 0, 1) := by decide +kernel
theorem d_F_takeIn_33 : decode b_F_takeIn 33 = .ok (.getfield 22, 3) := by decide +kernel
theorem d_F_takeIn_36 : decode b_F_takeIn 36 = .ok (.iconst 1, 1) := by decide +kernel
theorem d_F_takeIn_37 : decode b_F_takeIn 37 = .ok (.isub, 1) := by decide +kernel
theorem d_F_takeIn_38 : decode b_F_takeIn 38 = .ok (.ireturn, 1) := by decide +kernel
theorem cal_F_takeIn : am_cal y_F_takeIn b_F_takeIn 2 ((Option.some FieldType.int)) 1 := ⟨Or.inl wx_462, wx_12, by decide, by decide +kernel⟩
abbrev y_S_prepaid : MethodName := ⟨"BillShares", "prepaid", "(III)J"⟩
abbrev b_S_prepaid : ByteArray := prog_1_method_11_code
theorem d_S_prepaid_0 : decode b_S_prepaid 0 = .ok (.aload_n 0, 1) := by decide +kernel
theorem d_S_prepaid_1 : decode b_S_prepaid 1 = .ok (.iload_n 1, 1) := by decide +kernel
theorem d_S_prepaid_2 : decode b_S_prepaid 2 = .ok (.invokevirtual 69, 3) := by decide +kernel
theorem d_S_prepaid_5 : decode b_S_prepaid 5 = .ok (.astore 4, 2) := by decide +kernel
theorem d_S_prepaid_7 : decode b_S_prepaid 7 = .ok (.iload_n 2, 1) := by decide +kernel
theorem d_S_prepaid_8 : decode b_S_prepaid 8 = .ok (.invokestatic 117, 3) := by decide +kernel
theorem d_S_prepaid_11 : decode b_S_prepaid 11 = .ok (.iload_n 3, 1) := by decide +kernel
theorem d_S_prepaid_12 : decode b_S_prepaid 12 = .ok (.iconst 1, 1) := by decide +kernel
theorem d_S_prepaid_13 : decode b_S_prepaid 13 = .ok (.ldc 120, 2) := by decide +kernel
theorem d_S_prepaid_15 : decode b_S_prepaid 15 = .ok (.invokestatic 38, 3) := by decide +kernel
theorem d_S_prepaid_18 : decode b_S_prepaid 18 = .ok (.aload 4, 2) := by decide +kernel
theorem d_S_prepaid_20 : decode b_S_prepaid 20 = .ok (.getfield 134, 3) := by decide +kernel
theorem d_S_prepaid_23 : decode b_S_prepaid 23 = .ok (.iload_n 2, 1) := by decide +kernel
theorem d_S_prepaid_24 : decode b_S_prepaid 24 = .ok (.dup2, 1) := by decide +kernel
theorem d_S_prepaid_25 : decode b_S_prepaid 25 = .ok (.laload, 1) := by decide +kernel
theorem d_S_prepaid_26 : decode b_S_prepaid 26 = .ok (.iload_n 3, 1) := by decide +kernel
theorem d_S_prepaid_27 : decode b_S_prepaid 27 = .ok (.i2l, 1) := by decide +kernel
theorem d_S_prepaid_28 : decode b_S_prepaid 28 = .ok (.ladd, 1) := by decide +kernel
theorem d_S_prepaid_29 : decode b_S_prepaid 29 = .ok (.lastore, 1) := by decide +kernel
theorem d_S_prepaid_30 : decode b_S_prepaid 30 = .ok (.aload 4, 2) := by decide +kernel
theorem d_S_prepaid_32 : decode b_S_prepaid 32 = .ok (.getfield 134, 3) := by decide +kernel
theorem d_S_prepaid_35 : decode b_S_prepaid 35 = .ok (.iload_n 2, 1) := by decide +kernel
theorem d_S_prepaid_36 : decode b_S_prepaid 36 = .ok (.laload, 1) := by decide +kernel
theorem d_S_prepaid_37 : decode b_S_prepaid 37 = .ok (.lreturn, 1) := by decide +kernel
theorem cal_S_prepaid : am_cal y_S_prepaid b_S_prepaid 5 ((Option.some FieldType.long)) 3 := ⟨Or.inl wx_469, wx_1, by decide, by decide +kernel⟩
abbrev y_S_run : MethodName := ⟨"BillShares", "run", "(I)I"⟩
abbrev b_S_run : ByteArray := prog_1_method_12_code
theorem d_S_run_0 : decode b_S_run 0 = .ok (.iload_n 1, 1) := by decide +kernel
theorem d_S_run_1 : decode b_S_run 1 = .ok (.invokestatic 117, 3) := by decide +kernel
theorem d_S_run_4 : decode b_S_run 4 = .ok (.aload_n 0, 1) := by decide +kernel
theorem d_S_run_5 : decode b_S_run 5 = .ok (.getfield 12, 3) := by decide +kernel
theorem d_S_run_8 : decode b_S_run 8 = .ok (.invokevirtual 138, 3) := by decide +kernel
theorem d_S_run_11 : decode b_S_run 11 = .ok (.ifCond .ne 14, 3) := by decide +kernel
theorem d_S_run_14 : decode b_S_run 14 = .ok (.aload_n 0, 1) := by decide +kernel
theorem d_S_run_15 : decode b_S_run 15 = .ok (.getfield 29, 3) := by decide +kernel
theorem d_S_run_18 : decode b_S_run 18 = .ok (.iload_n 1, 1) := by decide +kernel
theorem d_S_run_19 : decode b_S_run 19 = .ok (.iaload, 1) := by decide +kernel
theorem d_S_run_20 : decode b_S_run 20 = .ok (.bipush 50, 2) := by decide +kernel
theorem d_S_run_22 : decode b_S_run 22 = .ok (.if_icmp .lt 13, 3) := by decide +kernel
theorem d_S_run_25 : decode b_S_run 25 = .ok (.new 46, 3) := by decide +kernel
theorem d_S_run_28 : decode b_S_run 28 = .ok (.dup, 1) := by decide +kernel
theorem d_S_run_29 : decode b_S_run 29 = .ok (.ldc 142, 2) := by decide +kernel
theorem d_S_run_31 : decode b_S_run 31 = .ok (.invokespecial 50, 3) := by decide +kernel
theorem d_S_run_34 : decode b_S_run 34 = .ok (.athrow, 1) := by decide +kernel
theorem d_S_run_35 : decode b_S_run 35 = .ok (.aload_n 0, 1) := by decide +kernel
theorem d_S_run_36 : decode b_S_run 36 = .ok (.iload_n 1, 1) := by decide +kernel
theorem d_S_run_37 : decode b_S_run 37 = .ok (.invokevirtual 144, 3) := by decide +kernel
theorem d_S_run_40 : decode b_S_run 40 = .ok (.iconst 0, 1) := by decide +kernel
theorem d_S_run_41 : decode b_S_run 41 = .ok (.istore_n 2, 1) := by decide +kernel
theorem d_S_run_42 : decode b_S_run 42 = .ok (.iload_n 2, 1) := by decide +kernel
theorem d_S_run_43 : decode b_S_run 43 = .ok (.iconst 4, 1) := by decide +kernel
theorem d_S_run_44 : decode b_S_run 44 = .ok (.if_icmp .ge 15, 3) := by decide +kernel
theorem d_S_run_47 : decode b_S_run 47 = .ok (.aload_n 0, 1) := by decide +kernel
theorem d_S_run_48 : decode b_S_run 48 = .ok (.iload_n 2, 1) := by decide +kernel
theorem d_S_run_49 : decode b_S_run 49 = .ok (.iload_n 1, 1) := by decide +kernel
theorem d_S_run_50 : decode b_S_run 50 = .ok (.invokevirtual 147, 3) := by decide +kernel
theorem d_S_run_53 : decode b_S_run 53 = .ok (.iinc 2 1, 3) := by decide +kernel
theorem d_S_run_56 : decode b_S_run 56 = .ok (.goto (-14), 3) := by decide +kernel
theorem d_S_run_59 : decode b_S_run 59 = .ok (.aload_n 0, 1) := by decide +kernel
theorem d_S_run_60 : decode b_S_run 60 = .ok (.getfield 29, 3) := by decide +kernel
theorem d_S_run_63 : decode b_S_run 63 = .ok (.iload_n 1, 1) := by decide +kernel
theorem d_S_run_64 : decode b_S_run 64 = .ok (.dup2, 1) := by decide +kernel
theorem d_S_run_65 : decode b_S_run 65 = .ok (.iaload, 1) := by decide +kernel
theorem d_S_run_66 : decode b_S_run 66 = .ok (.iconst 1, 1) := by decide +kernel
theorem d_S_run_67 : decode b_S_run 67 = .ok (.iadd, 1) := by decide +kernel
theorem d_S_run_68 : decode b_S_run 68 = .ok (.iastore, 1) := by decide +kernel
theorem d_S_run_69 : decode b_S_run 69 = .ok (.aload_n 0, 1) := by decide +kernel
theorem d_S_run_70 : decode b_S_run 70 = .ok (.getfield 29, 3) := by decide +kernel
theorem d_S_run_73 : decode b_S_run 73 = .ok (.iload_n 1, 1) := by decide +kernel
theorem d_S_run_74 : decode b_S_run 74 = .ok (.iaload, 1) := by decide +kernel
theorem d_S_run_75 : decode b_S_run 75 = .ok (.ireturn, 1) := by decide +kernel
theorem cal_S_run : am_cal y_S_run b_S_run 3 ((Option.some FieldType.int)) 1 := ⟨Or.inl wx_476, wx_1, by decide, by decide +kernel⟩
abbrev y_S_openBills : MethodName := ⟨"BillShares", "openBills", "(I)V"⟩
abbrev b_S_openBills : ByteArray := prog_1_method_33_code
theorem d_S_openBills_0 : decode b_S_openBills 0 = .ok (.iconst 0, 1) := by decide +kernel
theorem d_S_openBills_1 : decode b_S_openBills 1 = .ok (.istore_n 2, 1) := by decide +kernel
theorem d_S_openBills_2 : decode b_S_openBills 2 = .ok (.iload_n 2, 1) := by decide +kernel
theorem d_S_openBills_3 : decode b_S_openBills 3 = .ok (.aload_n 0, 1) := by decide +kernel
theorem d_S_openBills_4 : decode b_S_openBills 4 = .ok (.getfield 12, 3) := by decide +kernel
theorem d_S_openBills_7 : decode b_S_openBills 7 = .ok (.invokevirtual 42, 3) := by decide +kernel
theorem d_S_openBills_10 : decode b_S_openBills 10 = .ok (.if_icmp .ge 33, 3) := by decide +kernel
theorem d_S_openBills_13 : decode b_S_openBills 13 = .ok (.aload_n 0, 1) := by decide +kernel
theorem d_S_openBills_14 : decode b_S_openBills 14 = .ok (.getfield 12, 3) := by decide +kernel
theorem d_S_openBills_17 : decode b_S_openBills 17 = .ok (.iload_n 2, 1) := by decide +kernel
theorem d_S_openBills_18 : decode b_S_openBills 18 = .ok (.invokevirtual 204, 3) := by decide +kernel
theorem d_S_openBills_21 : decode b_S_openBills 21 = .ok (.checkcast 53, 3) := by decide +kernel
theorem d_S_openBills_24 : decode b_S_openBills 24 = .ok (.iload_n 1, 1) := by decide +kernel
theorem d_S_openBills_25 : decode b_S_openBills 25 = .ok (.invokevirtual 235, 3) := by decide +kernel
theorem d_S_openBills_28 : decode b_S_openBills 28 = .ok (.astore_n 3, 1) := by decide +kernel
theorem d_S_openBills_29 : decode b_S_openBills 29 = .ok (.aload_n 3, 1) := by decide +kernel
theorem d_S_openBills_30 : decode b_S_openBills 30 = .ok (.aload_n 3, 1) := by decide +kernel
theorem d_S_openBills_31 : decode b_S_openBills 31 = .ok (.invokevirtual 179, 3) := by decide +kernel
theorem d_S_openBills_34 : decode b_S_openBills 34 = .ok (.putfield 190, 3) := by decide +kernel
theorem d_S_openBills_37 : decode b_S_openBills 37 = .ok (.iinc 2 1, 3) := by decide +kernel
theorem d_S_openBills_40 : decode b_S_openBills 40 = .ok (.goto (-38), 3) := by decide +kernel
theorem d_S_openBills_43 : decode b_S_openBills 43 = .ok (.return_, 1) := by decide +kernel
theorem cal_S_openBills : am_cal y_S_openBills b_S_openBills 4 ((Option.none : Option FieldType)) 1 := ⟨Or.inl wx_485, wx_1, by decide, by decide +kernel⟩
abbrev y_F_billOf : MethodName := ⟨"BillShares$Flat", "billOf", "(I)LBillShares$Bill;"⟩
abbrev b_F_billOf : ByteArray := prog_3_method_7_code
theorem d_F_billOf_0 : decode b_F_billOf 0 = .ok (.aload_n 0, 1) := by decide +kernel
theorem d_F_billOf_1 : decode b_F_billOf 1 = .ok (.getfield 32, 3) := by decide +kernel
theorem d_F_billOf_4 : decode b_F_billOf 4 = .ok (.iload_n 1, 1) := by decide +kernel
theorem d_F_billOf_5 : decode b_F_billOf 5 = .ok (.aaload, 1) := by decide +kernel
theorem d_F_billOf_6 : decode b_F_billOf 6 = .ok (.ifnonnull 16, 3) := by decide +kernel
theorem d_F_billOf_9 : decode b_F_billOf 9 = .ok (.aload_n 0, 1) := by decide +kernel
theorem d_F_billOf_10 : decode b_F_billOf 10 = .ok (.getfield 32, 3) := by decide +kernel
theorem d_F_billOf_13 : decode b_F_billOf 13 = .ok (.iload_n 1, 1) := by decide +kernel
theorem d_F_billOf_14 : decode b_F_billOf 14 = .ok (.new 30, 3) := by decide +kernel
theorem d_F_billOf_17 : decode b_F_billOf 17 = .ok (.dup, 1) := by decide +kernel
theorem d_F_billOf_18 : decode b_F_billOf 18 = .ok (.invokespecial 49, 3) := by decide +kernel
theorem d_F_billOf_21 : decode b_F_billOf 21 = .ok (.aastore, 1) := by decide +kernel
theorem d_F_billOf_22 : decode b_F_billOf 22 = .ok (.aload_n 0, 1) := by decide +kernel
theorem d_F_billOf_23 : decode b_F_billOf 23 = .ok (.getfield 32, 3) := by decide +kernel
theorem d_F_billOf_26 : decode b_F_billOf 26 = .ok (.iload_n 1, 1) := by decide +kernel
theorem d_F_billOf_27 : decode b_F_billOf 27 = .ok (.aaload, 1) := by decide +kernel
theorem d_F_billOf_28 : decode b_F_billOf 28 = .ok (.areturn, 1) := by decide +kernel
theorem cal_F_billOf : am_cal y_F_billOf b_F_billOf 2 ((Option.some (FieldType.object "BillShares$Bill"))) 1 := ⟨Or.inl wx_489, wx_12, by decide, by decide +kernel⟩
abbrev y_B_init : MethodName := ⟨"BillShares$Bill", "<init>", "()V"⟩
abbrev b_B_init : ByteArray := prog_2_method_1_code
theorem d_B_init_0 : decode b_B_init 0 = .ok (.aload_n 0, 1) := by decide +kernel
theorem d_B_init_1 : decode b_B_init 1 = .ok (.invokespecial 3, 3) := by decide +kernel
theorem d_B_init_4 : decode b_B_init 4 = .ok (.aload_n 0, 1) := by decide +kernel
theorem d_B_init_5 : decode b_B_init 5 = .ok (.iconst 4, 1) := by decide +kernel
theorem d_B_init_6 : decode b_B_init 6 = .ok (.newarray .long, 2) := by decide +kernel
theorem d_B_init_8 : decode b_B_init 8 = .ok (.putfield 9, 3) := by decide +kernel
theorem d_B_init_11 : decode b_B_init 11 = .ok (.aload_n 0, 1) := by decide +kernel
theorem d_B_init_12 : decode b_B_init 12 = .ok (.iconst 4, 1) := by decide +kernel
theorem d_B_init_13 : decode b_B_init 13 = .ok (.newarray .long, 2) := by decide +kernel
theorem d_B_init_15 : decode b_B_init 15 = .ok (.putfield 15, 3) := by decide +kernel
theorem d_B_init_18 : decode b_B_init 18 = .ok (.aload_n 0, 1) := by decide +kernel
theorem d_B_init_19 : decode b_B_init 19 = .ok (.lconst 0, 1) := by decide +kernel
theorem d_B_init_20 : decode b_B_init 20 = .ok (.putfield 18, 3) := by decide +kernel
theorem d_B_init_23 : decode b_B_init 23 = .ok (.return_, 1) := by decide +kernel
theorem cal_B_init : am_cal y_B_init b_B_init 1 ((Option.none : Option FieldType)) 0 := ⟨Or.inl wx_493, wx_19, by decide, by decide +kernel⟩
abbrev y_B_total : MethodName := ⟨"BillShares$Bill", "total", "()J"⟩
abbrev b_B_total : ByteArray := prog_2_method_2_code
theorem d_B_total_0 : decode b_B_total 0 = .ok (.lconst 0, 1) := by decide +kernel
theorem d_B_total_1 : decode b_B_total 1 = .ok (.lstore_n 1, 1) := by decide +kernel
theorem d_B_total_2 : decode b_B_total 2 = .ok (.iconst 0, 1) := by decide +kernel
theorem d_B_total_3 : decode b_B_total 3 = .ok (.istore_n 3, 1) := by decide +kernel
theorem d_B_total_4 : decode b_B_total 4 = .ok (.iload_n 3, 1) := by decide +kernel
theorem d_B_total_5 : decode b_B_total 5 = .ok (.iconst 4, 1) := by decide +kernel
theorem d_B_total_6 : decode b_B_total 6 = .ok (.if_icmp .ge 25, 3) := by decide +kernel
theorem d_B_total_9 : decode b_B_total 9 = .ok (.lload_n 1, 1) := by decide +kernel
theorem d_B_total_10 : decode b_B_total 10 = .ok (.aload_n 0, 1) := by decide +kernel
theorem d_B_total_11 : decode b_B_total 11 = .ok (.getfield 9, 3) := by decide +kernel
theorem d_B_total_14 : decode b_B_total 14 = .ok (.iload_n 3, 1) := by decide +kernel
theorem d_B_total_15 : decode b_B_total 15 = .ok (.laload, 1) := by decide +kernel
theorem d_B_total_16 : decode b_B_total 16 = .ok (.aload_n 0, 1) := by decide +kernel
theorem d_B_total_17 : decode b_B_total 17 = .ok (.getfield 15, 3) := by decide +kernel
theorem d_B_total_20 : decode b_B_total 20 = .ok (.iload_n 3, 1) := by decide +kernel
theorem d_B_total_21 : decode b_B_total 21 = .ok (.laload, 1) := by decide +kernel
theorem d_B_total_22 : decode b_B_total 22 = .ok (.ladd, 1) := by decide +kernel
theorem d_B_total_23 : decode b_B_total 23 = .ok (.ladd, 1) := by decide +kernel
theorem d_B_total_24 : decode b_B_total 24 = .ok (.lstore_n 1, 1) := by decide +kernel
theorem d_B_total_25 : decode b_B_total 25 = .ok (.iinc 3 1, 3) := by decide +kernel
theorem d_B_total_28 : decode b_B_total 28 = .ok (.goto (-24), 3) := by decide +kernel
theorem d_B_total_31 : decode b_B_total 31 = .ok (.lload_n 1, 1) := by decide +kernel
theorem d_B_total_32 : decode b_B_total 32 = .ok (.lreturn, 1) := by decide +kernel
theorem cal_B_total : am_cal y_B_total b_B_total 4 ((Option.some FieldType.long)) 0 := ⟨Or.inl wx_511, wx_19, by decide, by decide +kernel⟩
abbrev y_S_shareOut : MethodName := ⟨"BillShares", "shareOut", "(II)V"⟩
abbrev b_S_shareOut : ByteArray := prog_1_method_34_code
theorem d_S_shareOut_0 : decode b_S_shareOut 0 = .ok (.aload_n 0, 1) := by decide +kernel
theorem d_S_shareOut_1 : decode b_S_shareOut 1 = .ok (.getfield 22, 3) := by decide +kernel
theorem d_S_shareOut_4 : decode b_S_shareOut 4 = .ok (.iload_n 1, 1) := by decide +kernel
theorem d_S_shareOut_5 : decode b_S_shareOut 5 = .ok (.bipush 10, 2) := by decide +kernel
theorem d_S_shareOut_7 : decode b_S_shareOut 7 = .ok (.imul, 1) := by decide +kernel
theorem d_S_shareOut_8 : decode b_S_shareOut 8 = .ok (.iload_n 2, 1) := by decide +kernel
theorem d_S_shareOut_9 : decode b_S_shareOut 9 = .ok (.iadd, 1) := by decide +kernel
theorem d_S_shareOut_10 : decode b_S_shareOut 10 = .ok (.iaload, 1) := by decide +kernel
theorem d_S_shareOut_11 : decode b_S_shareOut 11 = .ok (.i2l, 1) := by decide +kernel
theorem d_S_shareOut_12 : decode b_S_shareOut 12 = .ok (.lstore_n 3, 1) := by decide +kernel
theorem d_S_shareOut_13 : decode b_S_shareOut 13 = .ok (.lload_n 3, 1) := by decide +kernel
theorem d_S_shareOut_14 : decode b_S_shareOut 14 = .ok (.aload_n 0, 1) := by decide +kernel
theorem d_S_shareOut_15 : decode b_S_shareOut 15 = .ok (.getfield 26, 3) := by decide +kernel
theorem d_S_shareOut_18 : decode b_S_shareOut 18 = .ok (.iload_n 1, 1) := by decide +kernel
theorem d_S_shareOut_19 : decode b_S_shareOut 19 = .ok (.iaload, 1) := by decide +kernel
theorem d_S_shareOut_20 : decode b_S_shareOut 20 = .ok (.i2l, 1) := by decide +kernel
theorem d_S_shareOut_21 : decode b_S_shareOut 21 = .ok (.ldc2_w 239, 3) := by decide +kernel
theorem d_S_shareOut_24 : decode b_S_shareOut 24 = .ok (.invokestatic 241, 3) := by decide +kernel
theorem d_S_shareOut_27 : decode b_S_shareOut 27 = .ok (.lstore 5, 2) := by decide +kernel
theorem d_S_shareOut_29 : decode b_S_shareOut 29 = .ok (.aload_n 0, 1) := by decide +kernel
theorem d_S_shareOut_30 : decode b_S_shareOut 30 = .ok (.invokevirtual 245, 3) := by decide +kernel
theorem d_S_shareOut_33 : decode b_S_shareOut 33 = .ok (.aload_n 0, 1) := by decide +kernel
theorem d_S_shareOut_34 : decode b_S_shareOut 34 = .ok (.lload 5, 2) := by decide +kernel
theorem d_S_shareOut_36 : decode b_S_shareOut 36 = .ok (.invokevirtual 248, 3) := by decide +kernel
theorem d_S_shareOut_39 : decode b_S_shareOut 39 = .ok (.iconst 0, 1) := by decide +kernel
theorem d_S_shareOut_40 : decode b_S_shareOut 40 = .ok (.istore 7, 2) := by decide +kernel
theorem d_S_shareOut_42 : decode b_S_shareOut 42 = .ok (.iload 7, 2) := by decide +kernel
theorem d_S_shareOut_44 : decode b_S_shareOut 44 = .ok (.aload_n 0, 1) := by decide +kernel
theorem d_S_shareOut_45 : decode b_S_shareOut 45 = .ok (.getfield 12, 3) := by decide +kernel
theorem d_S_shareOut_48 : decode b_S_shareOut 48 = .ok (.invokevirtual 42, 3) := by decide +kernel
theorem d_S_shareOut_51 : decode b_S_shareOut 51 = .ok (.if_icmp .ge 39, 3) := by decide +kernel
theorem d_S_shareOut_54 : decode b_S_shareOut 54 = .ok (.aload_n 0, 1) := by decide +kernel
theorem d_S_shareOut_55 : decode b_S_shareOut 55 = .ok (.getfield 12, 3) := by decide +kernel
theorem d_S_shareOut_58 : decode b_S_shareOut 58 = .ok (.iload 7, 2) := by decide +kernel
theorem d_S_shareOut_60 : decode b_S_shareOut 60 = .ok (.invokevirtual 204, 3) := by decide +kernel
theorem d_S_shareOut_63 : decode b_S_shareOut 63 = .ok (.checkcast 53, 3) := by decide +kernel
theorem d_S_shareOut_66 : decode b_S_shareOut 66 = .ok (.astore 8, 2) := by decide +kernel
theorem d_S_shareOut_68 : decode b_S_shareOut 68 = .ok (.aload 8, 2) := by decide +kernel
theorem d_S_shareOut_70 : decode b_S_shareOut 70 = .ok (.iload_n 2, 1) := by decide +kernel
theorem d_S_shareOut_71 : decode b_S_shareOut 71 = .ok (.invokevirtual 235, 3) := by decide +kernel
theorem d_S_shareOut_74 : decode b_S_shareOut 74 = .ok (.getfield 171, 3) := by decide +kernel
theorem d_S_shareOut_77 : decode b_S_shareOut 77 = .ok (.iload_n 1, 1) := by decide +kernel
theorem d_S_shareOut_78 : decode b_S_shareOut 78 = .ok (.aload 8, 2) := by decide +kernel
theorem d_S_shareOut_80 : decode b_S_shareOut 80 = .ok (.getfield 252, 3) := by decide +kernel
theorem d_S_shareOut_83 : decode b_S_shareOut 83 = .ok (.lastore, 1) := by decide +kernel
theorem d_S_shareOut_84 : decode b_S_shareOut 84 = .ok (.iinc 7 1, 3) := by decide +kernel
theorem d_S_shareOut_87 : decode b_S_shareOut 87 = .ok (.goto (-45), 3) := by decide +kernel
theorem d_S_shareOut_90 : decode b_S_shareOut 90 = .ok (.aload_n 0, 1) := by decide +kernel
theorem d_S_shareOut_91 : decode b_S_shareOut 91 = .ok (.iload_n 1, 1) := by decide +kernel
theorem d_S_shareOut_92 : decode b_S_shareOut 92 = .ok (.iload_n 2, 1) := by decide +kernel
theorem d_S_shareOut_93 : decode b_S_shareOut 93 = .ok (.invokevirtual 255, 3) := by decide +kernel
theorem d_S_shareOut_96 : decode b_S_shareOut 96 = .ok (.aload_n 0, 1) := by decide +kernel
theorem d_S_shareOut_97 : decode b_S_shareOut 97 = .ok (.lload_n 3, 1) := by decide +kernel
theorem d_S_shareOut_98 : decode b_S_shareOut 98 = .ok (.lload 5, 2) := by decide +kernel
theorem d_S_shareOut_100 : decode b_S_shareOut 100 = .ok (.lsub, 1) := by decide +kernel
theorem d_S_shareOut_101 : decode b_S_shareOut 101 = .ok (.invokevirtual 248, 3) := by decide +kernel
theorem d_S_shareOut_104 : decode b_S_shareOut 104 = .ok (.iconst 0, 1) := by decide +kernel
theorem d_S_shareOut_105 : decode b_S_shareOut 105 = .ok (.istore 7, 2) := by decide +kernel
theorem d_S_shareOut_107 : decode b_S_shareOut 107 = .ok (.iload 7, 2) := by decide +kernel
theorem d_S_shareOut_109 : decode b_S_shareOut 109 = .ok (.aload_n 0, 1) := by decide +kernel
theorem d_S_shareOut_110 : decode b_S_shareOut 110 = .ok (.getfield 12, 3) := by decide +kernel
theorem d_S_shareOut_113 : decode b_S_shareOut 113 = .ok (.invokevirtual 42, 3) := by decide +kernel
theorem d_S_shareOut_116 : decode b_S_shareOut 116 = .ok (.if_icmp .ge 39, 3) := by decide +kernel
theorem d_S_shareOut_119 : decode b_S_shareOut 119 = .ok (.aload_n 0, 1) := by decide +kernel
theorem d_S_shareOut_120 : decode b_S_shareOut 120 = .ok (.getfield 12, 3) := by decide +kernel
theorem d_S_shareOut_123 : decode b_S_shareOut 123 = .ok (.iload 7, 2) := by decide +kernel
theorem d_S_shareOut_125 : decode b_S_shareOut 125 = .ok (.invokevirtual 204, 3) := by decide +kernel
theorem d_S_shareOut_128 : decode b_S_shareOut 128 = .ok (.checkcast 53, 3) := by decide +kernel
theorem d_S_shareOut_131 : decode b_S_shareOut 131 = .ok (.astore 8, 2) := by decide +kernel
theorem d_S_shareOut_133 : decode b_S_shareOut 133 = .ok (.aload 8, 2) := by decide +kernel
theorem d_S_shareOut_135 : decode b_S_shareOut 135 = .ok (.iload_n 2, 1) := by decide +kernel
theorem d_S_shareOut_136 : decode b_S_shareOut 136 = .ok (.invokevirtual 235, 3) := by decide +kernel
theorem d_S_shareOut_139 : decode b_S_shareOut 139 = .ok (.getfield 176, 3) := by decide +kernel
theorem d_S_shareOut_142 : decode b_S_shareOut 142 = .ok (.iload_n 1, 1) := by decide +kernel
theorem d_S_shareOut_143 : decode b_S_shareOut 143 = .ok (.aload 8, 2) := by decide +kernel
theorem d_S_shareOut_145 : decode b_S_shareOut 145 = .ok (.getfield 252, 3) := by decide +kernel
theorem d_S_shareOut_148 : decode b_S_shareOut 148 = .ok (.lastore, 1) := by decide +kernel
theorem d_S_shareOut_149 : decode b_S_shareOut 149 = .ok (.iinc 7 1, 3) := by decide +kernel
theorem d_S_shareOut_152 : decode b_S_shareOut 152 = .ok (.goto (-45), 3) := by decide +kernel
theorem d_S_shareOut_155 : decode b_S_shareOut 155 = .ok (.return_, 1) := by decide +kernel
theorem cal_S_shareOut : am_cal y_S_shareOut b_S_shareOut 9 ((Option.none : Option FieldType)) 2 := ⟨Or.inl wx_515, wx_1, by decide, by decide +kernel⟩
abbrev y_S_portion : MethodName := ⟨"BillShares", "portion", "(JJJ)J"⟩
abbrev b_S_portion : ByteArray := prog_1_method_27_code
theorem d_S_portion_0 : decode b_S_portion 0 = .ok (.lload 4, 2) := by decide +kernel
theorem d_S_portion_2 : decode b_S_portion 2 = .ok (.lconst 0, 1) := by decide +kernel
theorem d_S_portion_3 : decode b_S_portion 3 = .ok (.lcmp, 1) := by decide +kernel
theorem d_S_portion_4 : decode b_S_portion 4 = .ok (.ifCond .gt 5, 3) := by decide +kernel
theorem d_S_portion_7 : decode b_S_portion 7 = .ok (.lconst 0, 1) := by decide +kernel
theorem d_S_portion_8 : decode b_S_portion 8 = .ok (.lreturn, 1) := by decide +kernel
theorem d_S_portion_9 : decode b_S_portion 9 = .ok (.lload_n 2, 1) := by decide +kernel
theorem d_S_portion_10 : decode b_S_portion 10 = .ok (.ldc2_w 196, 3) := by decide +kernel
theorem d_S_portion_13 : decode b_S_portion 13 = .ok (.lcmp, 1) := by decide +kernel
theorem d_S_portion_14 : decode b_S_portion 14 = .ok (.ifCond .gt 10, 3) := by decide +kernel
theorem d_S_portion_17 : decode b_S_portion 17 = .ok (.lload_n 0, 1) := by decide +kernel
theorem d_S_portion_18 : decode b_S_portion 18 = .ok (.lload_n 2, 1) := by decide +kernel
theorem d_S_portion_19 : decode b_S_portion 19 = .ok (.lmul, 1) := by decide +kernel
theorem d_S_portion_20 : decode b_S_portion 20 = .ok (.lload 4, 2) := by decide +kernel
theorem d_S_portion_22 : decode b_S_portion 22 = .ok (.ldiv, 1) := by decide +kernel
theorem d_S_portion_23 : decode b_S_portion 23 = .ok (.lreturn, 1) := by decide +kernel
theorem d_S_portion_24 : decode b_S_portion 24 = .ok (.lconst 0, 1) := by decide +kernel
theorem d_S_portion_25 : decode b_S_portion 25 = .ok (.lstore 6, 2) := by decide +kernel
theorem d_S_portion_27 : decode b_S_portion 27 = .ok (.lconst 0, 1) := by decide +kernel
theorem d_S_portion_28 : decode b_S_portion 28 = .ok (.lstore 8, 2) := by decide +kernel
theorem d_S_portion_30 : decode b_S_portion 30 = .ok (.bipush 27, 2) := by decide +kernel
theorem d_S_portion_32 : decode b_S_portion 32 = .ok (.istore 10, 2) := by decide +kernel
theorem d_S_portion_34 : decode b_S_portion 34 = .ok (.iload 10, 2) := by decide +kernel
theorem d_S_portion_36 : decode b_S_portion 36 = .ok (.ifCond .lt 49, 3) := by decide +kernel
theorem d_S_portion_39 : decode b_S_portion 39 = .ok (.lload 8, 2) := by decide +kernel
theorem d_S_portion_41 : decode b_S_portion 41 = .ok (.ldc2_w 198, 3) := by decide +kernel
theorem d_S_portion_44 : decode b_S_portion 44 = .ok (.lmul, 1) := by decide +kernel
theorem d_S_portion_45 : decode b_S_portion 45 = .ok (.lload_n 2, 1) := by decide +kernel
theorem d_S_portion_46 : decode b_S_portion 46 = .ok (.lload_n 0, 1) := by decide +kernel
theorem d_S_portion_47 : decode b_S_portion 47 = .ok (.iload 10, 2) := by decide +kernel
theorem d_S_portion_49 : decode b_S_portion 49 = .ok (.lshr, 1) := by decide +kernel
theorem d_S_portion_50 : decode b_S_portion 50 = .ok (.ldc2_w 200, 3) := by decide +kernel
theorem d_S_portion_53 : decode b_S_portion 53 = .ok (.land, 1) := by decide +kernel
theorem d_S_portion_54 : decode b_S_portion 54 = .ok (.lmul, 1) := by decide +kernel
theorem d_S_portion_55 : decode b_S_portion 55 = .ok (.ladd, 1) := by decide +kernel
theorem d_S_portion_56 : decode b_S_portion 56 = .ok (.lstore 11, 2) := by decide +kernel
theorem d_S_portion_58 : decode b_S_portion 58 = .ok (.lload 6, 2) := by decide +kernel
theorem d_S_portion_60 : decode b_S_portion 60 = .ok (.ldc2_w 198, 3) := by decide +kernel
theorem d_S_portion_63 : decode b_S_portion 63 = .ok (.lmul, 1) := by decide +kernel
theorem d_S_portion_64 : decode b_S_portion 64 = .ok (.lload 11, 2) := by decide +kernel
theorem d_S_portion_66 : decode b_S_portion 66 = .ok (.lload 4, 2) := by decide +kernel
theorem d_S_portion_68 : decode b_S_portion 68 = .ok (.ldiv, 1) := by decide +kernel
theorem d_S_portion_69 : decode b_S_portion 69 = .ok (.ladd, 1) := by decide +kernel
theorem d_S_portion_70 : decode b_S_portion 70 = .ok (.lstore 6, 2) := by decide +kernel
theorem d_S_portion_72 : decode b_S_portion 72 = .ok (.lload 11, 2) := by decide +kernel
theorem d_S_portion_74 : decode b_S_portion 74 = .ok (.lload 4, 2) := by decide +kernel
theorem d_S_portion_76 : decode b_S_portion 76 = .ok (.lrem, 1) := by decide +kernel
theorem d_S_portion_77 : decode b_S_portion 77 = .ok (.lstore 8, 2) := by decide +kernel
theorem d_S_portion_79 : decode b_S_portion 79 = .ok (.iinc 10 (-3), 3) := by decide +kernel
theorem d_S_portion_82 : decode b_S_portion 82 = .ok (.goto (-48), 3) := by decide +kernel
theorem d_S_portion_85 : decode b_S_portion 85 = .ok (.lload 6, 2) := by decide +kernel
theorem d_S_portion_87 : decode b_S_portion 87 = .ok (.lreturn, 1) := by decide +kernel
theorem cal_S_portion : am_cal y_S_portion b_S_portion 13 ((Option.some FieldType.long)) 3 := ⟨Or.inl wx_519, wx_1, by decide, by decide +kernel⟩
abbrev y_S_weighByArea : MethodName := ⟨"BillShares", "weighByArea", "()V"⟩
abbrev b_S_weighByArea : ByteArray := prog_1_method_35_code
theorem d_S_weighByArea_0 : decode b_S_weighByArea 0 = .ok (.iconst 0, 1) := by decide +kernel
theorem d_S_weighByArea_1 : decode b_S_weighByArea 1 = .ok (.istore_n 1, 1) := by decide +kernel
theorem d_S_weighByArea_2 : decode b_S_weighByArea 2 = .ok (.iload_n 1, 1) := by decide +kernel
theorem d_S_weighByArea_3 : decode b_S_weighByArea 3 = .ok (.aload_n 0, 1) := by decide +kernel
theorem d_S_weighByArea_4 : decode b_S_weighByArea 4 = .ok (.getfield 12, 3) := by decide +kernel
theorem d_S_weighByArea_7 : decode b_S_weighByArea 7 = .ok (.invokevirtual 42, 3) := by decide +kernel
theorem d_S_weighByArea_10 : decode b_S_weighByArea 10 = .ok (.if_icmp .ge 30, 3) := by decide +kernel
theorem d_S_weighByArea_13 : decode b_S_weighByArea 13 = .ok (.aload_n 0, 1) := by decide +kernel
theorem d_S_weighByArea_14 : decode b_S_weighByArea 14 = .ok (.getfield 12, 3) := by decide +kernel
theorem d_S_weighByArea_17 : decode b_S_weighByArea 17 = .ok (.iload_n 1, 1) := by decide +kernel
theorem d_S_weighByArea_18 : decode b_S_weighByArea 18 = .ok (.invokevirtual 204, 3) := by decide +kernel
theorem d_S_weighByArea_21 : decode b_S_weighByArea 21 = .ok (.checkcast 53, 3) := by decide +kernel
theorem d_S_weighByArea_24 : decode b_S_weighByArea 24 = .ok (.astore_n 2, 1) := by decide +kernel
theorem d_S_weighByArea_25 : decode b_S_weighByArea 25 = .ok (.aload_n 2, 1) := by decide +kernel
theorem d_S_weighByArea_26 : decode b_S_weighByArea 26 = .ok (.aload_n 2, 1) := by decide +kernel
theorem d_S_weighByArea_27 : decode b_S_weighByArea 27 = .ok (.getfield 258, 3) := by decide +kernel
theorem d_S_weighByArea_30 : decode b_S_weighByArea 30 = .ok (.i2l, 1) := by decide +kernel
theorem d_S_weighByArea_31 : decode b_S_weighByArea 31 = .ok (.putfield 261, 3) := by decide +kernel
theorem d_S_weighByArea_34 : decode b_S_weighByArea 34 = .ok (.iinc 1 1, 3) := by decide +kernel
theorem d_S_weighByArea_37 : decode b_S_weighByArea 37 = .ok (.goto (-35), 3) := by decide +kernel
theorem d_S_weighByArea_40 : decode b_S_weighByArea 40 = .ok (.return_, 1) := by decide +kernel
theorem cal_S_weighByArea : am_cal y_S_weighByArea b_S_weighByArea 3 ((Option.none : Option FieldType)) 0 := ⟨Or.inl wx_526, wx_1, by decide, by decide +kernel⟩
abbrev y_S_dealOut : MethodName := ⟨"BillShares", "dealOut", "(J)V"⟩
abbrev b_S_dealOut : ByteArray := prog_1_method_38_code
theorem d_S_dealOut_0 : decode b_S_dealOut 0 = .ok (.aload_n 0, 1) := by decide +kernel
theorem d_S_dealOut_1 : decode b_S_dealOut 1 = .ok (.invokevirtual 271, 3) := by decide +kernel
theorem d_S_dealOut_4 : decode b_S_dealOut 4 = .ok (.lstore_n 3, 1) := by decide +kernel
theorem d_S_dealOut_5 : decode b_S_dealOut 5 = .ok (.lload_n 1, 1) := by decide +kernel
theorem d_S_dealOut_6 : decode b_S_dealOut 6 = .ok (.lstore 5, 2) := by decide +kernel
theorem d_S_dealOut_8 : decode b_S_dealOut 8 = .ok (.iconst 0, 1) := by decide +kernel
theorem d_S_dealOut_9 : decode b_S_dealOut 9 = .ok (.istore 7, 2) := by decide +kernel
theorem d_S_dealOut_11 : decode b_S_dealOut 11 = .ok (.iload 7, 2) := by decide +kernel
theorem d_S_dealOut_13 : decode b_S_dealOut 13 = .ok (.aload_n 0, 1) := by decide +kernel
theorem d_S_dealOut_14 : decode b_S_dealOut 14 = .ok (.getfield 12, 3) := by decide +kernel
theorem d_S_dealOut_17 : decode b_S_dealOut 17 = .ok (.invokevirtual 42, 3) := by decide +kernel
theorem d_S_dealOut_20 : decode b_S_dealOut 20 = .ok (.if_icmp .ge 48, 3) := by decide +kernel
theorem d_S_dealOut_23 : decode b_S_dealOut 23 = .ok (.aload_n 0, 1) := by decide +kernel
theorem d_S_dealOut_24 : decode b_S_dealOut 24 = .ok (.getfield 12, 3) := by decide +kernel
theorem d_S_dealOut_27 : decode b_S_dealOut 27 = .ok (.iload 7, 2) := by decide +kernel
theorem d_S_dealOut_29 : decode b_S_dealOut 29 = .ok (.invokevirtual 204, 3) := by decide +kernel
theorem d_S_dealOut_32 : decode b_S_dealOut 32 = .ok (.checkcast 53, 3) := by decide +kernel
theorem d_S_dealOut_35 : decode b_S_dealOut 35 = .ok (.astore 8, 2) := by decide +kernel
theorem d_S_dealOut_37 : decode b_S_dealOut 37 = .ok (.aload 8, 2) := by decide +kernel
theorem d_S_dealOut_39 : decode b_S_dealOut 39 = .ok (.lload_n 1, 1) := by decide +kernel
theorem d_S_dealOut_40 : decode b_S_dealOut 40 = .ok (.aload 8, 2) := by decide +kernel
theorem d_S_dealOut_42 : decode b_S_dealOut 42 = .ok (.getfield 261, 3) := by decide +kernel
theorem d_S_dealOut_45 : decode b_S_dealOut 45 = .ok (.lload_n 3, 1) := by decide +kernel
theorem d_S_dealOut_46 : decode b_S_dealOut 46 = .ok (.invokestatic 241, 3) := by decide +kernel
theorem d_S_dealOut_49 : decode b_S_dealOut 49 = .ok (.putfield 252, 3) := by decide +kernel
theorem d_S_dealOut_52 : decode b_S_dealOut 52 = .ok (.lload 5, 2) := by decide +kernel
theorem d_S_dealOut_54 : decode b_S_dealOut 54 = .ok (.aload 8, 2) := by decide +kernel
theorem d_S_dealOut_56 : decode b_S_dealOut 56 = .ok (.getfield 252, 3) := by decide +kernel
theorem d_S_dealOut_59 : decode b_S_dealOut 59 = .ok (.lsub, 1) := by decide +kernel
theorem d_S_dealOut_60 : decode b_S_dealOut 60 = .ok (.lstore 5, 2) := by decide +kernel
theorem d_S_dealOut_62 : decode b_S_dealOut 62 = .ok (.iinc 7 1, 3) := by decide +kernel
theorem d_S_dealOut_65 : decode b_S_dealOut 65 = .ok (.goto (-54), 3) := by decide +kernel
theorem d_S_dealOut_68 : decode b_S_dealOut 68 = .ok (.iconst 0, 1) := by decide +kernel
theorem d_S_dealOut_69 : decode b_S_dealOut 69 = .ok (.istore 7, 2) := by decide +kernel
theorem d_S_dealOut_71 : decode b_S_dealOut 71 = .ok (.iload 7, 2) := by decide +kernel
theorem d_S_dealOut_73 : decode b_S_dealOut 73 = .ok (.aload_n 0, 1) := by decide +kernel
theorem d_S_dealOut_74 : decode b_S_dealOut 74 = .ok (.getfield 16, 3) := by decide +kernel
theorem d_S_dealOut_77 : decode b_S_dealOut 77 = .ok (.invokevirtual 42, 3) := by decide +kernel
theorem d_S_dealOut_80 : decode b_S_dealOut 80 = .ok (.if_icmp .ge 43, 3) := by decide +kernel
theorem d_S_dealOut_83 : decode b_S_dealOut 83 = .ok (.lload 5, 2) := by decide +kernel
theorem d_S_dealOut_85 : decode b_S_dealOut 85 = .ok (.lconst 0, 1) := by decide +kernel
theorem d_S_dealOut_86 : decode b_S_dealOut 86 = .ok (.lcmp, 1) := by decide +kernel
theorem d_S_dealOut_87 : decode b_S_dealOut 87 = .ok (.ifCond .le 36, 3) := by decide +kernel
theorem d_S_dealOut_90 : decode b_S_dealOut 90 = .ok (.aload_n 0, 1) := by decide +kernel
theorem d_S_dealOut_91 : decode b_S_dealOut 91 = .ok (.getfield 16, 3) := by decide +kernel
theorem d_S_dealOut_94 : decode b_S_dealOut 94 = .ok (.iload 7, 2) := by decide +kernel
theorem d_S_dealOut_96 : decode b_S_dealOut 96 = .ok (.invokevirtual 204, 3) := by decide +kernel
theorem d_S_dealOut_99 : decode b_S_dealOut 99 = .ok (.checkcast 53, 3) := by decide +kernel
theorem d_S_dealOut_102 : decode b_S_dealOut 102 = .ok (.dup, 1) := by decide +kernel
theorem d_S_dealOut_103 : decode b_S_dealOut 103 = .ok (.getfield 252, 3) := by decide +kernel
theorem d_S_dealOut_106 : decode b_S_dealOut 106 = .ok (.lconst 1, 1) := by decide +kernel
theorem d_S_dealOut_107 : decode b_S_dealOut 107 = .ok (.ladd, 1) := by decide +kernel
theorem d_S_dealOut_108 : decode b_S_dealOut 108 = .ok (.putfield 252, 3) := by decide +kernel
theorem d_S_dealOut_111 : decode b_S_dealOut 111 = .ok (.lload 5, 2) := by decide +kernel
theorem d_S_dealOut_113 : decode b_S_dealOut 113 = .ok (.lconst 1, 1) := by decide +kernel
theorem d_S_dealOut_114 : decode b_S_dealOut 114 = .ok (.lsub, 1) := by decide +kernel
theorem d_S_dealOut_115 : decode b_S_dealOut 115 = .ok (.lstore 5, 2) := by decide +kernel
theorem d_S_dealOut_117 : decode b_S_dealOut 117 = .ok (.iinc 7 1, 3) := by decide +kernel
theorem d_S_dealOut_120 : decode b_S_dealOut 120 = .ok (.goto (-49), 3) := by decide +kernel
theorem d_S_dealOut_123 : decode b_S_dealOut 123 = .ok (.return_, 1) := by decide +kernel
theorem cal_S_dealOut : am_cal y_S_dealOut b_S_dealOut 9 ((Option.none : Option FieldType)) 1 := ⟨Or.inl wx_530, wx_1, by decide, by decide +kernel⟩
abbrev y_S_sumOfWeights : MethodName := ⟨"BillShares", "sumOfWeights", "()J"⟩
abbrev b_S_sumOfWeights : ByteArray := prog_1_method_37_code
theorem d_S_sumOfWeights_0 : decode b_S_sumOfWeights 0 = .ok (.lconst 0, 1) := by decide +kernel
theorem d_S_sumOfWeights_1 : decode b_S_sumOfWeights 1 = .ok (.lstore_n 1, 1) := by decide +kernel
theorem d_S_sumOfWeights_2 : decode b_S_sumOfWeights 2 = .ok (.iconst 0, 1) := by decide +kernel
theorem d_S_sumOfWeights_3 : decode b_S_sumOfWeights 3 = .ok (.istore_n 3, 1) := by decide +kernel
theorem d_S_sumOfWeights_4 : decode b_S_sumOfWeights 4 = .ok (.iload_n 3, 1) := by decide +kernel
theorem d_S_sumOfWeights_5 : decode b_S_sumOfWeights 5 = .ok (.aload_n 0, 1) := by decide +kernel
theorem d_S_sumOfWeights_6 : decode b_S_sumOfWeights 6 = .ok (.getfield 12, 3) := by decide +kernel
theorem d_S_sumOfWeights_9 : decode b_S_sumOfWeights 9 = .ok (.invokevirtual 42, 3) := by decide +kernel
theorem d_S_sumOfWeights_12 : decode b_S_sumOfWeights 12 = .ok (.if_icmp .ge 26, 3) := by decide +kernel
theorem d_S_sumOfWeights_15 : decode b_S_sumOfWeights 15 = .ok (.lload_n 1, 1) := by decide +kernel
theorem d_S_sumOfWeights_16 : decode b_S_sumOfWeights 16 = .ok (.aload_n 0, 1) := by decide +kernel
theorem d_S_sumOfWeights_17 : decode b_S_sumOfWeights 17 = .ok (.getfield 12, 3) := by decide +kernel
theorem d_S_sumOfWeights_20 : decode b_S_sumOfWeights 20 = .ok (.iload_n 3, 1) := by decide +kernel
theorem d_S_sumOfWeights_21 : decode b_S_sumOfWeights 21 = .ok (.invokevirtual 204, 3) := by decide +kernel
theorem d_S_sumOfWeights_24 : decode b_S_sumOfWeights 24 = .ok (.checkcast 53, 3) := by decide +kernel
theorem d_S_sumOfWeights_27 : decode b_S_sumOfWeights 27 = .ok (.getfield 261, 3) := by decide +kernel
theorem d_S_sumOfWeights_30 : decode b_S_sumOfWeights 30 = .ok (.ladd, 1) := by decide +kernel
theorem d_S_sumOfWeights_31 : decode b_S_sumOfWeights 31 = .ok (.lstore_n 1, 1) := by decide +kernel
theorem d_S_sumOfWeights_32 : decode b_S_sumOfWeights 32 = .ok (.iinc 3 1, 3) := by decide +kernel
theorem d_S_sumOfWeights_35 : decode b_S_sumOfWeights 35 = .ok (.goto (-31), 3) := by decide +kernel
theorem d_S_sumOfWeights_38 : decode b_S_sumOfWeights 38 = .ok (.lload_n 1, 1) := by decide +kernel
theorem d_S_sumOfWeights_39 : decode b_S_sumOfWeights 39 = .ok (.lreturn, 1) := by decide +kernel
theorem cal_S_sumOfWeights : am_cal y_S_sumOfWeights b_S_sumOfWeights 4 ((Option.some FieldType.long)) 0 := ⟨Or.inl wx_534, wx_1, by decide, by decide +kernel⟩
abbrev y_S_weighByUse : MethodName := ⟨"BillShares", "weighByUse", "(II)V"⟩
abbrev b_S_weighByUse : ByteArray := prog_1_method_36_code
theorem d_S_weighByUse_0 : decode b_S_weighByUse 0 = .ok (.lconst 0, 1) := by decide +kernel
theorem d_S_weighByUse_1 : decode b_S_weighByUse 1 = .ok (.lstore_n 3, 1) := by decide +kernel
theorem d_S_weighByUse_2 : decode b_S_weighByUse 2 = .ok (.lconst 0, 1) := by decide +kernel
theorem d_S_weighByUse_3 : decode b_S_weighByUse 3 = .ok (.lstore 5, 2) := by decide +kernel
theorem d_S_weighByUse_5 : decode b_S_weighByUse 5 = .ok (.iconst 0, 1) := by decide +kernel
theorem d_S_weighByUse_6 : decode b_S_weighByUse 6 = .ok (.istore 7, 2) := by decide +kernel
theorem d_S_weighByUse_8 : decode b_S_weighByUse 8 = .ok (.iload 7, 2) := by decide +kernel
theorem d_S_weighByUse_10 : decode b_S_weighByUse 10 = .ok (.aload_n 0, 1) := by decide +kernel
theorem d_S_weighByUse_11 : decode b_S_weighByUse 11 = .ok (.getfield 12, 3) := by decide +kernel
theorem d_S_weighByUse_14 : decode b_S_weighByUse 14 = .ok (.invokevirtual 42, 3) := by decide +kernel
theorem d_S_weighByUse_17 : decode b_S_weighByUse 17 = .ok (.if_icmp .ge 89, 3) := by decide +kernel
theorem d_S_weighByUse_20 : decode b_S_weighByUse 20 = .ok (.aload_n 0, 1) := by decide +kernel
theorem d_S_weighByUse_21 : decode b_S_weighByUse 21 = .ok (.getfield 12, 3) := by decide +kernel
theorem d_S_weighByUse_24 : decode b_S_weighByUse 24 = .ok (.iload 7, 2) := by decide +kernel
theorem d_S_weighByUse_26 : decode b_S_weighByUse 26 = .ok (.invokevirtual 204, 3) := by decide +kernel
theorem d_S_weighByUse_29 : decode b_S_weighByUse 29 = .ok (.checkcast 53, 3) := by decide +kernel
theorem d_S_weighByUse_32 : decode b_S_weighByUse 32 = .ok (.astore 8, 2) := by decide +kernel
theorem d_S_weighByUse_34 : decode b_S_weighByUse 34 = .ok (.aload 8, 2) := by decide +kernel
theorem d_S_weighByUse_36 : decode b_S_weighByUse 36 = .ok (.aload 8, 2) := by decide +kernel
theorem d_S_weighByUse_38 : decode b_S_weighByUse 38 = .ok (.iload_n 1, 1) := by decide +kernel
theorem d_S_weighByUse_39 : decode b_S_weighByUse 39 = .ok (.iload_n 2, 1) := by decide +kernel
theorem d_S_weighByUse_40 : decode b_S_weighByUse 40 = .ok (.invokevirtual 165, 3) := by decide +kernel
theorem d_S_weighByUse_43 : decode b_S_weighByUse 43 = .ok (.ifCond .ne 7, 3) := by decide +kernel
theorem d_S_weighByUse_46 : decode b_S_weighByUse 46 = .ok (.iconst 1, 1) := by decide +kernel
theorem d_S_weighByUse_47 : decode b_S_weighByUse 47 = .ok (.goto 4, 3) := by decide +kernel
theorem d_S_weighByUse_50 : decode b_S_weighByUse 50 = .ok (.iconst 0, 1) := by decide +kernel
theorem d_S_weighByUse_51 : decode b_S_weighByUse 51 = .ok (.putfield 264, 3) := by decide +kernel
theorem d_S_weighByUse_54 : decode b_S_weighByUse 54 = .ok (.aload 8, 2) := by decide +kernel
theorem d_S_weighByUse_56 : decode b_S_weighByUse 56 = .ok (.getfield 264, 3) := by decide +kernel
theorem d_S_weighByUse_59 : decode b_S_weighByUse 59 = .ok (.ifCond .eq 41, 3) := by decide +kernel
theorem d_S_weighByUse_62 : decode b_S_weighByUse 62 = .ok (.aload 8, 2) := by decide +kernel
theorem d_S_weighByUse_64 : decode b_S_weighByUse 64 = .ok (.aload 8, 2) := by decide +kernel
theorem d_S_weighByUse_66 : decode b_S_weighByUse 66 = .ok (.iload_n 1, 1) := by decide +kernel
theorem d_S_weighByUse_67 : decode b_S_weighByUse 67 = .ok (.iload_n 2, 1) := by decide +kernel
theorem d_S_weighByUse_68 : decode b_S_weighByUse 68 = .ok (.invokestatic 153, 3) := by decide +kernel
theorem d_S_weighByUse_71 : decode b_S_weighByUse 71 = .ok (.iload_n 2, 1) := by decide +kernel
theorem d_S_weighByUse_72 : decode b_S_weighByUse 72 = .ok (.invokestatic 156, 3) := by decide +kernel
theorem d_S_weighByUse_75 : decode b_S_weighByUse 75 = .ok (.invokevirtual 268, 3) := by decide +kernel
theorem d_S_weighByUse_78 : decode b_S_weighByUse 78 = .ok (.putfield 261, 3) := by decide +kernel
theorem d_S_weighByUse_81 : decode b_S_weighByUse 81 = .ok (.lload_n 3, 1) := by decide +kernel
theorem d_S_weighByUse_82 : decode b_S_weighByUse 82 = .ok (.aload 8, 2) := by decide +kernel
theorem d_S_weighByUse_84 : decode b_S_weighByUse 84 = .ok (.getfield 261, 3) := by decide +kernel
theorem d_S_weighByUse_87 : decode b_S_weighByUse 87 = .ok (.ladd, 1) := by decide +kernel
theorem d_S_weighByUse_88 : decode b_S_weighByUse 88 = .ok (.lstore_n 3, 1) := by decide +kernel
theorem d_S_weighByUse_89 : decode b_S_weighByUse 89 = .ok (.lload 5, 2) := by decide +kernel
theorem d_S_weighByUse_91 : decode b_S_weighByUse 91 = .ok (.aload 8, 2) := by decide +kernel
theorem d_S_weighByUse_93 : decode b_S_weighByUse 93 = .ok (.getfield 258, 3) := by decide +kernel
theorem d_S_weighByUse_96 : decode b_S_weighByUse 96 = .ok (.i2l, 1) := by decide +kernel
theorem d_S_weighByUse_97 : decode b_S_weighByUse 97 = .ok (.ladd, 1) := by decide +kernel
theorem d_S_weighByUse_98 : decode b_S_weighByUse 98 = .ok (.lstore 5, 2) := by decide +kernel
theorem d_S_weighByUse_100 : decode b_S_weighByUse 100 = .ok (.iinc 7 1, 3) := by decide +kernel
theorem d_S_weighByUse_103 : decode b_S_weighByUse 103 = .ok (.goto (-95), 3) := by decide +kernel
theorem d_S_weighByUse_106 : decode b_S_weighByUse 106 = .ok (.iconst 0, 1) := by decide +kernel
theorem d_S_weighByUse_107 : decode b_S_weighByUse 107 = .ok (.istore 7, 2) := by decide +kernel
theorem d_S_weighByUse_109 : decode b_S_weighByUse 109 = .ok (.iload 7, 2) := by decide +kernel
theorem d_S_weighByUse_111 : decode b_S_weighByUse 111 = .ok (.aload_n 0, 1) := by decide +kernel
theorem d_S_weighByUse_112 : decode b_S_weighByUse 112 = .ok (.getfield 12, 3) := by decide +kernel
theorem d_S_weighByUse_115 : decode b_S_weighByUse 115 = .ok (.invokevirtual 42, 3) := by decide +kernel
theorem d_S_weighByUse_118 : decode b_S_weighByUse 118 = .ok (.if_icmp .ge 48, 3) := by decide +kernel
theorem d_S_weighByUse_121 : decode b_S_weighByUse 121 = .ok (.aload_n 0, 1) := by decide +kernel
theorem d_S_weighByUse_122 : decode b_S_weighByUse 122 = .ok (.getfield 12, 3) := by decide +kernel
theorem d_S_weighByUse_125 : decode b_S_weighByUse 125 = .ok (.iload 7, 2) := by decide +kernel
theorem d_S_weighByUse_127 : decode b_S_weighByUse 127 = .ok (.invokevirtual 204, 3) := by decide +kernel
theorem d_S_weighByUse_130 : decode b_S_weighByUse 130 = .ok (.checkcast 53, 3) := by decide +kernel
theorem d_S_weighByUse_133 : decode b_S_weighByUse 133 = .ok (.astore 8, 2) := by decide +kernel
theorem d_S_weighByUse_135 : decode b_S_weighByUse 135 = .ok (.aload 8, 2) := by decide +kernel
theorem d_S_weighByUse_137 : decode b_S_weighByUse 137 = .ok (.getfield 264, 3) := by decide +kernel
theorem d_S_weighByUse_140 : decode b_S_weighByUse 140 = .ok (.ifCond .ne 20, 3) := by decide +kernel
theorem d_S_weighByUse_143 : decode b_S_weighByUse 143 = .ok (.aload 8, 2) := by decide +kernel
theorem d_S_weighByUse_145 : decode b_S_weighByUse 145 = .ok (.aload 8, 2) := by decide +kernel
theorem d_S_weighByUse_147 : decode b_S_weighByUse 147 = .ok (.getfield 258, 3) := by decide +kernel
theorem d_S_weighByUse_150 : decode b_S_weighByUse 150 = .ok (.i2l, 1) := by decide +kernel
theorem d_S_weighByUse_151 : decode b_S_weighByUse 151 = .ok (.lload_n 3, 1) := by decide +kernel
theorem d_S_weighByUse_152 : decode b_S_weighByUse 152 = .ok (.lload 5, 2) := by decide +kernel
theorem d_S_weighByUse_154 : decode b_S_weighByUse 154 = .ok (.invokestatic 241, 3) := by decide +kernel
theorem d_S_weighByUse_157 : decode b_S_weighByUse 157 = .ok (.putfield 261, 3) := by decide +kernel
theorem d_S_weighByUse_160 : decode b_S_weighByUse 160 = .ok (.iinc 7 1, 3) := by decide +kernel
theorem d_S_weighByUse_163 : decode b_S_weighByUse 163 = .ok (.goto (-54), 3) := by decide +kernel
theorem d_S_weighByUse_166 : decode b_S_weighByUse 166 = .ok (.aload_n 0, 1) := by decide +kernel
theorem d_S_weighByUse_167 : decode b_S_weighByUse 167 = .ok (.invokevirtual 271, 3) := by decide +kernel
theorem d_S_weighByUse_170 : decode b_S_weighByUse 170 = .ok (.lconst 0, 1) := by decide +kernel
theorem d_S_weighByUse_171 : decode b_S_weighByUse 171 = .ok (.lcmp, 1) := by decide +kernel
theorem d_S_weighByUse_172 : decode b_S_weighByUse 172 = .ok (.ifCond .ne 7, 3) := by decide +kernel
theorem d_S_weighByUse_175 : decode b_S_weighByUse 175 = .ok (.aload_n 0, 1) := by decide +kernel
theorem d_S_weighByUse_176 : decode b_S_weighByUse 176 = .ok (.invokevirtual 245, 3) := by decide +kernel
theorem d_S_weighByUse_179 : decode b_S_weighByUse 179 = .ok (.return_, 1) := by decide +kernel
theorem cal_S_weighByUse : am_cal y_S_weighByUse b_S_weighByUse 9 ((Option.none : Option FieldType)) 2 := ⟨Or.inl wx_538, wx_1, by decide, by decide +kernel⟩
abbrev y_F_whyBarred : MethodName := ⟨"BillShares$Flat", "whyBarred", "(II)I"⟩
abbrev b_F_whyBarred : ByteArray := prog_3_method_8_code
theorem d_F_whyBarred_0 : decode b_F_whyBarred 0 = .ok (.iconst 0, 1) := by decide +kernel
theorem d_F_whyBarred_1 : decode b_F_whyBarred 1 = .ok (.istore_n 3, 1) := by decide +kernel
theorem d_F_whyBarred_2 : decode b_F_whyBarred 2 = .ok (.iconst 0, 1) := by decide +kernel
theorem d_F_whyBarred_3 : decode b_F_whyBarred 3 = .ok (.istore 4, 2) := by decide +kernel
theorem d_F_whyBarred_5 : decode b_F_whyBarred 5 = .ok (.iload 4, 2) := by decide +kernel
theorem d_F_whyBarred_7 : decode b_F_whyBarred 7 = .ok (.aload_n 0, 1) := by decide +kernel
theorem d_F_whyBarred_8 : decode b_F_whyBarred 8 = .ok (.getfield 12, 3) := by decide +kernel
theorem d_F_whyBarred_11 : decode b_F_whyBarred 11 = .ok (.invokevirtual 50, 3) := by decide +kernel
theorem d_F_whyBarred_14 : decode b_F_whyBarred 14 = .ok (.if_icmp .ge 50, 3) := by decide +kernel
theorem d_F_whyBarred_17 : decode b_F_whyBarred 17 = .ok (.aload_n 0, 1) := by decide +kernel
theorem d_F_whyBarred_18 : decode b_F_whyBarred 18 = .ok (.getfield 12, 3) := by decide +kernel
theorem d_F_whyBarred_21 : decode b_F_whyBarred 21 = .ok (.iload 4, 2) := by decide +kernel
theorem d_F_whyBarred_23 : decode b_F_whyBarred 23 = .ok (.invokevirtual 54, 3) := by decide +kernel
theorem d_F_whyBarred_26 : decode b_F_whyBarred 26 = .ok (.checkcast 58, 3) := by decide +kernel
theorem d_F_whyBarred_29 : decode b_F_whyBarred 29 = .ok (.astore 5, 2) := by decide +kernel
theorem d_F_whyBarred_31 : decode b_F_whyBarred 31 = .ok (.aload 5, 2) := by decide +kernel
theorem d_F_whyBarred_33 : decode b_F_whyBarred 33 = .ok (.getfield 60, 3) := by decide +kernel
theorem d_F_whyBarred_36 : decode b_F_whyBarred 36 = .ok (.iload_n 1, 1) := by decide +kernel
theorem d_F_whyBarred_37 : decode b_F_whyBarred 37 = .ok (.if_icmp .ne 21, 3) := by decide +kernel
theorem d_F_whyBarred_40 : decode b_F_whyBarred 40 = .ok (.iconst 1, 1) := by decide +kernel
theorem d_F_whyBarred_41 : decode b_F_whyBarred 41 = .ok (.istore_n 3, 1) := by decide +kernel
theorem d_F_whyBarred_42 : decode b_F_whyBarred 42 = .ok (.aload 5, 2) := by decide +kernel
theorem d_F_whyBarred_44 : decode b_F_whyBarred 44 = .ok (.iload_n 2, 1) := by decide +kernel
theorem d_F_whyBarred_45 : decode b_F_whyBarred 45 = .ok (.invokevirtual 63, 3) := by decide +kernel
theorem d_F_whyBarred_48 : decode b_F_whyBarred 48 = .ok (.istore 6, 2) := by decide +kernel
theorem d_F_whyBarred_50 : decode b_F_whyBarred 50 = .ok (.iload 6, 2) := by decide +kernel
theorem d_F_whyBarred_52 : decode b_F_whyBarred 52 = .ok (.ifCond .eq 6, 3) := by decide +kernel
theorem d_F_whyBarred_55 : decode b_F_whyBarred 55 = .ok (.iload 6, 2) := by decide +kernel
theorem d_F_whyBarred_57 : decode b_F_whyBarred 57 = .ok (.ireturn, 1) := by decide +kernel
theorem d_F_whyBarred_58 : decode b_F_whyBarred 58 = .ok (.iinc 4 1, 3) := by decide +kernel
theorem d_F_whyBarred_61 : decode b_F_whyBarred 61 = .ok (.goto (-56), 3) := by decide +kernel
theorem d_F_whyBarred_64 : decode b_F_whyBarred 64 = .ok (.iload_n 3, 1) := by decide +kernel
theorem d_F_whyBarred_65 : decode b_F_whyBarred 65 = .ok (.ifCond .eq 7, 3) := by decide +kernel
theorem d_F_whyBarred_68 : decode b_F_whyBarred 68 = .ok (.iconst 0, 1) := by decide +kernel
theorem d_F_whyBarred_69 : decode b_F_whyBarred 69 = .ok (.goto 4, 3) := by decide +kernel
theorem d_F_whyBarred_72 : decode b_F_whyBarred 72 = .ok (.iconst 1, 1) := by decide +kernel
theorem d_F_whyBarred_73 : decode b_F_whyBarred 73 = .ok (.ireturn, 1) := by decide +kernel
theorem cal_F_whyBarred : am_cal y_F_whyBarred b_F_whyBarred 7 ((Option.some FieldType.int)) 2 := ⟨Or.inl wx_542, wx_12, by decide, by decide +kernel⟩
abbrev y_T_whyBarred : MethodName := ⟨"BillShares$Meter", "whyBarred", "(I)I"⟩
abbrev b_T_whyBarred : ByteArray := prog_4_method_8_code
theorem d_T_whyBarred_0 : decode b_T_whyBarred 0 = .ok (.aload_n 0, 1) := by decide +kernel
theorem d_T_whyBarred_1 : decode b_T_whyBarred 1 = .ok (.getfield 9, 3) := by decide +kernel
theorem d_T_whyBarred_4 : decode b_T_whyBarred 4 = .ok (.ifCond .eq 34, 3) := by decide +kernel
theorem d_T_whyBarred_7 : decode b_T_whyBarred 7 = .ok (.aload_n 0, 1) := by decide +kernel
theorem d_T_whyBarred_8 : decode b_T_whyBarred 8 = .ok (.getfield 15, 3) := by decide +kernel
theorem d_T_whyBarred_11 : decode b_T_whyBarred 11 = .ok (.iconst 0, 1) := by decide +kernel
theorem d_T_whyBarred_12 : decode b_T_whyBarred 12 = .ok (.iaload, 1) := by decide +kernel
theorem d_T_whyBarred_13 : decode b_T_whyBarred 13 = .ok (.iload_n 1, 1) := by decide +kernel
theorem d_T_whyBarred_14 : decode b_T_whyBarred 14 = .ok (.invokestatic 41, 3) := by decide +kernel
theorem d_T_whyBarred_17 : decode b_T_whyBarred 17 = .ok (.if_icmp .gt 21, 3) := by decide +kernel
theorem d_T_whyBarred_20 : decode b_T_whyBarred 20 = .ok (.aload_n 0, 1) := by decide +kernel
theorem d_T_whyBarred_21 : decode b_T_whyBarred 21 = .ok (.getfield 15, 3) := by decide +kernel
theorem d_T_whyBarred_24 : decode b_T_whyBarred 24 = .ok (.aload_n 0, 1) := by decide +kernel
theorem d_T_whyBarred_25 : decode b_T_whyBarred 25 = .ok (.getfield 9, 3) := by decide +kernel
theorem d_T_whyBarred_28 : decode b_T_whyBarred 28 = .ok (.iconst 1, 1) := by decide +kernel
theorem d_T_whyBarred_29 : decode b_T_whyBarred 29 = .ok (.isub, 1) := by decide +kernel
theorem d_T_whyBarred_30 : decode b_T_whyBarred 30 = .ok (.iaload, 1) := by decide +kernel
theorem d_T_whyBarred_31 : decode b_T_whyBarred 31 = .ok (.iload_n 1, 1) := by decide +kernel
theorem d_T_whyBarred_32 : decode b_T_whyBarred 32 = .ok (.invokestatic 44, 3) := by decide +kernel
theorem d_T_whyBarred_35 : decode b_T_whyBarred 35 = .ok (.if_icmp .ge 5, 3) := by decide +kernel
theorem d_T_whyBarred_38 : decode b_T_whyBarred 38 = .ok (.iconst 2, 1) := by decide +kernel
theorem d_T_whyBarred_39 : decode b_T_whyBarred 39 = .ok (.ireturn, 1) := by decide +kernel
theorem d_T_whyBarred_40 : decode b_T_whyBarred 40 = .ok (.aload_n 0, 1) := by decide +kernel
theorem d_T_whyBarred_41 : decode b_T_whyBarred 41 = .ok (.getfield 34, 3) := by decide +kernel
theorem d_T_whyBarred_44 : decode b_T_whyBarred 44 = .ok (.iload_n 1, 1) := by decide +kernel
theorem d_T_whyBarred_45 : decode b_T_whyBarred 45 = .ok (.invokestatic 44, 3) := by decide +kernel
theorem d_T_whyBarred_48 : decode b_T_whyBarred 48 = .ok (.if_icmp .ge 7, 3) := by decide +kernel
theorem d_T_whyBarred_51 : decode b_T_whyBarred 51 = .ok (.iconst 3, 1) := by decide +kernel
theorem d_T_whyBarred_52 : decode b_T_whyBarred 52 = .ok (.goto 4, 3) := by decide +kernel
theorem d_T_whyBarred_55 : decode b_T_whyBarred 55 = .ok (.iconst 0, 1) := by decide +kernel
theorem d_T_whyBarred_56 : decode b_T_whyBarred 56 = .ok (.ireturn, 1) := by decide +kernel
theorem cal_T_whyBarred : am_cal y_T_whyBarred b_T_whyBarred 2 ((Option.some FieldType.int)) 1 := ⟨Or.inl wx_549, wx_18, by decide, by decide +kernel⟩
abbrev y_S_startOf : MethodName := ⟨"BillShares", "startOf", "(I)I"⟩
abbrev b_S_startOf : ByteArray := prog_1_method_25_code
theorem d_S_startOf_0 : decode b_S_startOf 0 = .ok (.sipush 365, 3) := by decide +kernel
theorem d_S_startOf_3 : decode b_S_startOf 3 = .ok (.iload_n 0, 1) := by decide +kernel
theorem d_S_startOf_4 : decode b_S_startOf 4 = .ok (.imul, 1) := by decide +kernel
theorem d_S_startOf_5 : decode b_S_startOf 5 = .ok (.ireturn, 1) := by decide +kernel
theorem cal_S_startOf : am_cal y_S_startOf b_S_startOf 1 ((Option.some FieldType.int)) 1 := ⟨Or.inl wx_552, wx_1, by decide, by decide +kernel⟩
abbrev y_S_endOf : MethodName := ⟨"BillShares", "endOf", "(I)I"⟩
abbrev b_S_endOf : ByteArray := prog_1_method_26_code
theorem d_S_endOf_0 : decode b_S_endOf 0 = .ok (.sipush 365, 3) := by decide +kernel
theorem d_S_endOf_3 : decode b_S_endOf 3 = .ok (.iload_n 0, 1) := by decide +kernel
theorem d_S_endOf_4 : decode b_S_endOf 4 = .ok (.iconst 1, 1) := by decide +kernel
theorem d_S_endOf_5 : decode b_S_endOf 5 = .ok (.iadd, 1) := by decide +kernel
theorem d_S_endOf_6 : decode b_S_endOf 6 = .ok (.imul, 1) := by decide +kernel
theorem d_S_endOf_7 : decode b_S_endOf 7 = .ok (.ireturn, 1) := by decide +kernel
theorem cal_S_endOf : am_cal y_S_endOf b_S_endOf 1 ((Option.some FieldType.int)) 1 := ⟨Or.inl wx_555, wx_1, by decide, by decide +kernel⟩
abbrev y_F_useBetween : MethodName := ⟨"BillShares$Flat", "useBetween", "(III)J"⟩
abbrev b_F_useBetween : ByteArray := prog_3_method_9_code
theorem d_F_useBetween_0 : decode b_F_useBetween 0 = .ok (.lconst 0, 1) := by decide +kernel
theorem d_F_useBetween_1 : decode b_F_useBetween 1 = .ok (.lstore 4, 2) := by decide +kernel
theorem d_F_useBetween_3 : decode b_F_useBetween 3 = .ok (.iconst 0, 1) := by decide +kernel
theorem d_F_useBetween_4 : decode b_F_useBetween 4 = .ok (.istore 6, 2) := by decide +kernel
theorem d_F_useBetween_6 : decode b_F_useBetween 6 = .ok (.iload 6, 2) := by decide +kernel
theorem d_F_useBetween_8 : decode b_F_useBetween 8 = .ok (.aload_n 0, 1) := by decide +kernel
theorem d_F_useBetween_9 : decode b_F_useBetween 9 = .ok (.getfield 12, 3) := by decide +kernel
theorem d_F_useBetween_12 : decode b_F_useBetween 12 = .ok (.invokevirtual 50, 3) := by decide +kernel
theorem d_F_useBetween_15 : decode b_F_useBetween 15 = .ok (.if_icmp .ge 44, 3) := by decide +kernel
theorem d_F_useBetween_18 : decode b_F_useBetween 18 = .ok (.aload_n 0, 1) := by decide +kernel
theorem d_F_useBetween_19 : decode b_F_useBetween 19 = .ok (.getfield 12, 3) := by decide +kernel
theorem d_F_useBetween_22 : decode b_F_useBetween 22 = .ok (.iload 6, 2) := by decide +kernel
theorem d_F_useBetween_24 : decode b_F_useBetween 24 = .ok (.invokevirtual 54, 3) := by decide +kernel
theorem d_F_useBetween_27 : decode b_F_useBetween 27 = .ok (.checkcast 58, 3) := by decide +kernel
theorem d_F_useBetween_30 : decode b_F_useBetween 30 = .ok (.astore 7, 2) := by decide +kernel
theorem d_F_useBetween_32 : decode b_F_useBetween 32 = .ok (.aload 7, 2) := by decide +kernel
theorem d_F_useBetween_34 : decode b_F_useBetween 34 = .ok (.getfield 60, 3) := by decide +kernel
theorem d_F_useBetween_37 : decode b_F_useBetween 37 = .ok (.iload_n 1, 1) := by decide +kernel
theorem d_F_useBetween_38 : decode b_F_useBetween 38 = .ok (.if_icmp .ne 15, 3) := by decide +kernel
theorem d_F_useBetween_41 : decode b_F_useBetween 41 = .ok (.lload 4, 2) := by decide +kernel
theorem d_F_useBetween_43 : decode b_F_useBetween 43 = .ok (.aload 7, 2) := by decide +kernel
theorem d_F_useBetween_45 : decode b_F_useBetween 45 = .ok (.iload_n 2, 1) := by decide +kernel
theorem d_F_useBetween_46 : decode b_F_useBetween 46 = .ok (.iload_n 3, 1) := by decide +kernel
theorem d_F_useBetween_47 : decode b_F_useBetween 47 = .ok (.invokevirtual 66, 3) := by decide +kernel
theorem d_F_useBetween_50 : decode b_F_useBetween 50 = .ok (.ladd, 1) := by decide +kernel
theorem d_F_useBetween_51 : decode b_F_useBetween 51 = .ok (.lstore 4, 2) := by decide +kernel
theorem d_F_useBetween_53 : decode b_F_useBetween 53 = .ok (.iinc 6 1, 3) := by decide +kernel
theorem d_F_useBetween_56 : decode b_F_useBetween 56 = .ok (.goto (-50), 3) := by decide +kernel
theorem d_F_useBetween_59 : decode b_F_useBetween 59 = .ok (.lload 4, 2) := by decide +kernel
theorem d_F_useBetween_61 : decode b_F_useBetween 61 = .ok (.lreturn, 1) := by decide +kernel
theorem cal_F_useBetween : am_cal y_F_useBetween b_F_useBetween 8 ((Option.some FieldType.long)) 3 := ⟨Or.inl wx_561, wx_12, by decide, by decide +kernel⟩
abbrev y_T_useBetween : MethodName := ⟨"BillShares$Meter", "useBetween", "(II)J"⟩
abbrev b_T_useBetween : ByteArray := prog_4_method_9_code
theorem d_T_useBetween_0 : decode b_T_useBetween 0 = .ok (.lconst 0, 1) := by decide +kernel
theorem d_T_useBetween_1 : decode b_T_useBetween 1 = .ok (.lstore_n 3, 1) := by decide +kernel
theorem d_T_useBetween_2 : decode b_T_useBetween 2 = .ok (.iconst 0, 1) := by decide +kernel
theorem d_T_useBetween_3 : decode b_T_useBetween 3 = .ok (.istore 5, 2) := by decide +kernel
theorem d_T_useBetween_5 : decode b_T_useBetween 5 = .ok (.iload 5, 2) := by decide +kernel
theorem d_T_useBetween_7 : decode b_T_useBetween 7 = .ok (.iconst 1, 1) := by decide +kernel
theorem d_T_useBetween_8 : decode b_T_useBetween 8 = .ok (.iadd, 1) := by decide +kernel
theorem d_T_useBetween_9 : decode b_T_useBetween 9 = .ok (.aload_n 0, 1) := by decide +kernel
theorem d_T_useBetween_10 : decode b_T_useBetween 10 = .ok (.getfield 9, 3) := by decide +kernel
theorem d_T_useBetween_13 : decode b_T_useBetween 13 = .ok (.if_icmp .ge 27, 3) := by decide +kernel
theorem d_T_useBetween_16 : decode b_T_useBetween 16 = .ok (.lload_n 3, 1) := by decide +kernel
theorem d_T_useBetween_17 : decode b_T_useBetween 17 = .ok (.aload_n 0, 1) := by decide +kernel
theorem d_T_useBetween_18 : decode b_T_useBetween 18 = .ok (.iload 5, 2) := by decide +kernel
theorem d_T_useBetween_20 : decode b_T_useBetween 20 = .ok (.iload_n 2, 1) := by decide +kernel
theorem d_T_useBetween_21 : decode b_T_useBetween 21 = .ok (.invokevirtual 47, 3) := by decide +kernel
theorem d_T_useBetween_24 : decode b_T_useBetween 24 = .ok (.aload_n 0, 1) := by decide +kernel
theorem d_T_useBetween_25 : decode b_T_useBetween 25 = .ok (.iload 5, 2) := by decide +kernel
theorem d_T_useBetween_27 : decode b_T_useBetween 27 = .ok (.iload_n 1, 1) := by decide +kernel
theorem d_T_useBetween_28 : decode b_T_useBetween 28 = .ok (.invokevirtual 47, 3) := by decide +kernel
theorem d_T_useBetween_31 : decode b_T_useBetween 31 = .ok (.lsub, 1) := by decide +kernel
theorem d_T_useBetween_32 : decode b_T_useBetween 32 = .ok (.ladd, 1) := by decide +kernel
theorem d_T_useBetween_33 : decode b_T_useBetween 33 = .ok (.lstore_n 3, 1) := by decide +kernel
theorem d_T_useBetween_34 : decode b_T_useBetween 34 = .ok (.iinc 5 1, 3) := by decide +kernel
theorem d_T_useBetween_37 : decode b_T_useBetween 37 = .ok (.goto (-32), 3) := by decide +kernel
theorem d_T_useBetween_40 : decode b_T_useBetween 40 = .ok (.lload_n 3, 1) := by decide +kernel
theorem d_T_useBetween_41 : decode b_T_useBetween 41 = .ok (.aload_n 0, 1) := by decide +kernel
theorem d_T_useBetween_42 : decode b_T_useBetween 42 = .ok (.getfield 28, 3) := by decide +kernel
theorem d_T_useBetween_45 : decode b_T_useBetween 45 = .ok (.i2l, 1) := by decide +kernel
theorem d_T_useBetween_46 : decode b_T_useBetween 46 = .ok (.aload_n 0, 1) := by decide +kernel
theorem d_T_useBetween_47 : decode b_T_useBetween 47 = .ok (.getfield 31, 3) := by decide +kernel
theorem d_T_useBetween_50 : decode b_T_useBetween 50 = .ok (.i2l, 1) := by decide +kernel
theorem d_T_useBetween_51 : decode b_T_useBetween 51 = .ok (.invokestatic 51, 3) := by decide +kernel
theorem d_T_useBetween_54 : decode b_T_useBetween 54 = .ok (.lreturn, 1) := by decide +kernel
theorem cal_T_useBetween : am_cal y_T_useBetween b_T_useBetween 6 ((Option.some FieldType.long)) 2 := ⟨Or.inl wx_565, wx_18, by decide, by decide +kernel⟩
abbrev y_T_comesTo : MethodName := ⟨"BillShares$Meter", "comesTo", "(II)J"⟩
abbrev b_T_comesTo : ByteArray := prog_4_method_10_code
theorem d_T_comesTo_0 : decode b_T_comesTo 0 = .ok (.aload_n 0, 1) := by decide +kernel
theorem d_T_comesTo_1 : decode b_T_comesTo 1 = .ok (.getfield 19, 3) := by decide +kernel
theorem d_T_comesTo_4 : decode b_T_comesTo 4 = .ok (.iload_n 1, 1) := by decide +kernel
theorem d_T_comesTo_5 : decode b_T_comesTo 5 = .ok (.iconst 1, 1) := by decide +kernel
theorem d_T_comesTo_6 : decode b_T_comesTo 6 = .ok (.iadd, 1) := by decide +kernel
theorem d_T_comesTo_7 : decode b_T_comesTo 7 = .ok (.iaload, 1) := by decide +kernel
theorem d_T_comesTo_8 : decode b_T_comesTo 8 = .ok (.aload_n 0, 1) := by decide +kernel
theorem d_T_comesTo_9 : decode b_T_comesTo 9 = .ok (.iload_n 1, 1) := by decide +kernel
theorem d_T_comesTo_10 : decode b_T_comesTo 10 = .ok (.invokevirtual 37, 3) := by decide +kernel
theorem d_T_comesTo_13 : decode b_T_comesTo 13 = .ok (.isub, 1) := by decide +kernel
theorem d_T_comesTo_14 : decode b_T_comesTo 14 = .ok (.i2l, 1) := by decide +kernel
theorem d_T_comesTo_15 : decode b_T_comesTo 15 = .ok (.lstore_n 3, 1) := by decide +kernel
theorem d_T_comesTo_16 : decode b_T_comesTo 16 = .ok (.iload_n 2, 1) := by decide +kernel
theorem d_T_comesTo_17 : decode b_T_comesTo 17 = .ok (.aload_n 0, 1) := by decide +kernel
theorem d_T_comesTo_18 : decode b_T_comesTo 18 = .ok (.getfield 15, 3) := by decide +kernel
theorem d_T_comesTo_21 : decode b_T_comesTo 21 = .ok (.iload_n 1, 1) := by decide +kernel
theorem d_T_comesTo_22 : decode b_T_comesTo 22 = .ok (.iaload, 1) := by decide +kernel
theorem d_T_comesTo_23 : decode b_T_comesTo 23 = .ok (.if_icmp .gt 5, 3) := by decide +kernel
theorem d_T_comesTo_26 : decode b_T_comesTo 26 = .ok (.lconst 0, 1) := by decide +kernel
theorem d_T_comesTo_27 : decode b_T_comesTo 27 = .ok (.lreturn, 1) := by decide +kernel
theorem d_T_comesTo_28 : decode b_T_comesTo 28 = .ok (.iload_n 2, 1) := by decide +kernel
theorem d_T_comesTo_29 : decode b_T_comesTo 29 = .ok (.aload_n 0, 1) := by decide +kernel
theorem d_T_comesTo_30 : decode b_T_comesTo 30 = .ok (.getfield 15, 3) := by decide +kernel
theorem d_T_comesTo_33 : decode b_T_comesTo 33 = .ok (.iload_n 1, 1) := by decide +kernel
theorem d_T_comesTo_34 : decode b_T_comesTo 34 = .ok (.iconst 1, 1) := by decide +kernel
theorem d_T_comesTo_35 : decode b_T_comesTo 35 = .ok (.iadd, 1) := by decide +kernel
theorem d_T_comesTo_36 : decode b_T_comesTo 36 = .ok (.iaload, 1) := by decide +kernel
theorem d_T_comesTo_37 : decode b_T_comesTo 37 = .ok (.if_icmp .lt 5, 3) := by decide +kernel
theorem d_T_comesTo_40 : decode b_T_comesTo 40 = .ok (.lload_n 3, 1) := by decide +kernel
theorem d_T_comesTo_41 : decode b_T_comesTo 41 = .ok (.lreturn, 1) := by decide +kernel
theorem d_T_comesTo_42 : decode b_T_comesTo 42 = .ok (.lload_n 3, 1) := by decide +kernel
theorem d_T_comesTo_43 : decode b_T_comesTo 43 = .ok (.iload_n 2, 1) := by decide +kernel
theorem d_T_comesTo_44 : decode b_T_comesTo 44 = .ok (.aload_n 0, 1) := by decide +kernel
theorem d_T_comesTo_45 : decode b_T_comesTo 45 = .ok (.getfield 15, 3) := by decide +kernel
theorem d_T_comesTo_48 : decode b_T_comesTo 48 = .ok (.iload_n 1, 1) := by decide +kernel
theorem d_T_comesTo_49 : decode b_T_comesTo 49 = .ok (.iaload, 1) := by decide +kernel
theorem d_T_comesTo_50 : decode b_T_comesTo 50 = .ok (.isub, 1) := by decide +kernel
theorem d_T_comesTo_51 : decode b_T_comesTo 51 = .ok (.i2l, 1) := by decide +kernel
theorem d_T_comesTo_52 : decode b_T_comesTo 52 = .ok (.lmul, 1) := by decide +kernel
theorem d_T_comesTo_53 : decode b_T_comesTo 53 = .ok (.aload_n 0, 1) := by decide +kernel
theorem d_T_comesTo_54 : decode b_T_comesTo 54 = .ok (.getfield 15, 3) := by decide +kernel
theorem d_T_comesTo_57 : decode b_T_comesTo 57 = .ok (.iload_n 1, 1) := by decide +kernel
theorem d_T_comesTo_58 : decode b_T_comesTo 58 = .ok (.iconst 1, 1) := by decide +kernel
theorem d_T_comesTo_59 : decode b_T_comesTo 59 = .ok (.iadd, 1) := by decide +kernel
theorem d_T_comesTo_60 : decode b_T_comesTo 60 = .ok (.iaload, 1) := by decide +kernel
theorem d_T_comesTo_61 : decode b_T_comesTo 61 = .ok (.aload_n 0, 1) := by decide +kernel
theorem d_T_comesTo_62 : decode b_T_comesTo 62 = .ok (.getfield 15, 3) := by decide +kernel
theorem d_T_comesTo_65 : decode b_T_comesTo 65 = .ok (.iload_n 1, 1) := by decide +kernel
theorem d_T_comesTo_66 : decode b_T_comesTo 66 = .ok (.iaload, 1) := by decide +kernel
theorem d_T_comesTo_67 : decode b_T_comesTo 67 = .ok (.isub, 1) := by decide +kernel
theorem d_T_comesTo_68 : decode b_T_comesTo 68 = .ok (.i2l, 1) := by decide +kernel
theorem d_T_comesTo_69 : decode b_T_comesTo 69 = .ok (.ldiv, 1) := by decide +kernel
theorem d_T_comesTo_70 : decode b_T_comesTo 70 = .ok (.lreturn, 1) := by decide +kernel
theorem cal_T_comesTo : am_cal y_T_comesTo b_T_comesTo 5 ((Option.some FieldType.long)) 2 := ⟨Or.inl wx_569, wx_18, by decide, by decide +kernel⟩
abbrev y_S_use : MethodName := ⟨"BillShares", "use", "(II)J"⟩
abbrev b_S_use : ByteArray := prog_1_method_13_code
theorem d_S_use_0 : decode b_S_use 0 = .ok (.aload_n 0, 1) := by decide +kernel
theorem d_S_use_1 : decode b_S_use 1 = .ok (.iload_n 1, 1) := by decide +kernel
theorem d_S_use_2 : decode b_S_use 2 = .ok (.invokevirtual 93, 3) := by decide +kernel
theorem d_S_use_5 : decode b_S_use 5 = .ok (.astore_n 3, 1) := by decide +kernel
theorem d_S_use_6 : decode b_S_use 6 = .ok (.iload_n 2, 1) := by decide +kernel
theorem d_S_use_7 : decode b_S_use 7 = .ok (.invokestatic 117, 3) := by decide +kernel
theorem d_S_use_10 : decode b_S_use 10 = .ok (.aload_n 3, 1) := by decide +kernel
theorem d_S_use_11 : decode b_S_use 11 = .ok (.iload_n 2, 1) := by decide +kernel
theorem d_S_use_12 : decode b_S_use 12 = .ok (.invokevirtual 150, 3) := by decide +kernel
theorem d_S_use_15 : decode b_S_use 15 = .ok (.ifCond .ne 18, 3) := by decide +kernel
theorem d_S_use_18 : decode b_S_use 18 = .ok (.aload_n 3, 1) := by decide +kernel
theorem d_S_use_19 : decode b_S_use 19 = .ok (.iload_n 2, 1) := by decide +kernel
theorem d_S_use_20 : decode b_S_use 20 = .ok (.invokestatic 153, 3) := by decide +kernel
theorem d_S_use_23 : decode b_S_use 23 = .ok (.iload_n 2, 1) := by decide +kernel
theorem d_S_use_24 : decode b_S_use 24 = .ok (.invokestatic 156, 3) := by decide +kernel
theorem d_S_use_27 : decode b_S_use 27 = .ok (.invokevirtual 159, 3) := by decide +kernel
theorem d_S_use_30 : decode b_S_use 30 = .ok (.goto 6, 3) := by decide +kernel
theorem d_S_use_33 : decode b_S_use 33 = .ok (.ldc2_w 163, 3) := by decide +kernel
theorem d_S_use_36 : decode b_S_use 36 = .ok (.lreturn, 1) := by decide +kernel
theorem cal_S_use : am_cal y_S_use b_S_use 4 ((Option.some FieldType.long)) 2 := ⟨Or.inl wx_577, wx_1, by decide, by decide +kernel⟩
abbrev y_S_barred : MethodName := ⟨"BillShares", "barred", "(III)I"⟩
abbrev b_S_barred : ByteArray := prog_1_method_14_code
theorem d_S_barred_0 : decode b_S_barred 0 = .ok (.aload_n 0, 1) := by decide +kernel
theorem d_S_barred_1 : decode b_S_barred 1 = .ok (.iload_n 1, 1) := by decide +kernel
theorem d_S_barred_2 : decode b_S_barred 2 = .ok (.invokevirtual 69, 3) := by decide +kernel
theorem d_S_barred_5 : decode b_S_barred 5 = .ok (.astore 4, 2) := by decide +kernel
theorem d_S_barred_7 : decode b_S_barred 7 = .ok (.iload_n 2, 1) := by decide +kernel
theorem d_S_barred_8 : decode b_S_barred 8 = .ok (.invokestatic 73, 3) := by decide +kernel
theorem d_S_barred_11 : decode b_S_barred 11 = .ok (.iload_n 3, 1) := by decide +kernel
theorem d_S_barred_12 : decode b_S_barred 12 = .ok (.invokestatic 117, 3) := by decide +kernel
theorem d_S_barred_15 : decode b_S_barred 15 = .ok (.aload 4, 2) := by decide +kernel
theorem d_S_barred_17 : decode b_S_barred 17 = .ok (.iload_n 2, 1) := by decide +kernel
theorem d_S_barred_18 : decode b_S_barred 18 = .ok (.iload_n 3, 1) := by decide +kernel
theorem d_S_barred_19 : decode b_S_barred 19 = .ok (.invokevirtual 165, 3) := by decide +kernel
theorem d_S_barred_22 : decode b_S_barred 22 = .ok (.ireturn, 1) := by decide +kernel
theorem cal_S_barred : am_cal y_S_barred b_S_barred 5 ((Option.some FieldType.int)) 3 := ⟨Or.inl wx_587, wx_1, by decide, by decide +kernel⟩
abbrev y_S_line : MethodName := ⟨"BillShares", "line", "(IIII)J"⟩
abbrev b_S_line : ByteArray := prog_1_method_15_code
theorem d_S_line_0 : decode b_S_line 0 = .ok (.aload_n 0, 1) := by decide +kernel
theorem d_S_line_1 : decode b_S_line 1 = .ok (.iload_n 1, 1) := by decide +kernel
theorem d_S_line_2 : decode b_S_line 2 = .ok (.invokevirtual 69, 3) := by decide +kernel
theorem d_S_line_5 : decode b_S_line 5 = .ok (.astore 5, 2) := by decide +kernel
theorem d_S_line_7 : decode b_S_line 7 = .ok (.iload_n 2, 1) := by decide +kernel
theorem d_S_line_8 : decode b_S_line 8 = .ok (.invokestatic 73, 3) := by decide +kernel
theorem d_S_line_11 : decode b_S_line 11 = .ok (.iload 4, 2) := by decide +kernel
theorem d_S_line_13 : decode b_S_line 13 = .ok (.iconst 0, 1) := by decide +kernel
theorem d_S_line_14 : decode b_S_line 14 = .ok (.iconst 1, 1) := by decide +kernel
theorem d_S_line_15 : decode b_S_line 15 = .ok (.invokestatic 38, 3) := by decide +kernel
theorem d_S_line_18 : decode b_S_line 18 = .ok (.aload_n 0, 1) := by decide +kernel
theorem d_S_line_19 : decode b_S_line 19 = .ok (.aload 5, 2) := by decide +kernel
theorem d_S_line_21 : decode b_S_line 21 = .ok (.iload_n 3, 1) := by decide +kernel
theorem d_S_line_22 : decode b_S_line 22 = .ok (.invokevirtual 167, 3) := by decide +kernel
theorem d_S_line_25 : decode b_S_line 25 = .ok (.astore 6, 2) := by decide +kernel
theorem d_S_line_27 : decode b_S_line 27 = .ok (.iload 4, 2) := by decide +kernel
theorem d_S_line_29 : decode b_S_line 29 = .ok (.iconst 1, 1) := by decide +kernel
theorem d_S_line_30 : decode b_S_line 30 = .ok (.if_icmp .ne 13, 3) := by decide +kernel
theorem d_S_line_33 : decode b_S_line 33 = .ok (.aload 6, 2) := by decide +kernel
theorem d_S_line_35 : decode b_S_line 35 = .ok (.getfield 171, 3) := by decide +kernel
theorem d_S_line_38 : decode b_S_line 38 = .ok (.iload_n 2, 1) := by decide +kernel
theorem d_S_line_39 : decode b_S_line 39 = .ok (.laload, 1) := by decide +kernel
theorem d_S_line_40 : decode b_S_line 40 = .ok (.goto 18, 3) := by decide +kernel
theorem d_S_line_43 : decode b_S_line 43 = .ok (.aload 6, 2) := by decide +kernel
theorem d_S_line_45 : decode b_S_line 45 = .ok (.getfield 171, 3) := by decide +kernel
theorem d_S_line_48 : decode b_S_line 48 = .ok (.iload_n 2, 1) := by decide +kernel
theorem d_S_line_49 : decode b_S_line 49 = .ok (.laload, 1) := by decide +kernel
theorem d_S_line_50 : decode b_S_line 50 = .ok (.aload 6, 2) := by decide +kernel
theorem d_S_line_52 : decode b_S_line 52 = .ok (.getfield 176, 3) := by decide +kernel
theorem d_S_line_55 : decode b_S_line 55 = .ok (.iload_n 2, 1) := by decide +kernel
theorem d_S_line_56 : decode b_S_line 56 = .ok (.laload, 1) := by decide +kernel
theorem d_S_line_57 : decode b_S_line 57 = .ok (.ladd, 1) := by decide +kernel
theorem d_S_line_58 : decode b_S_line 58 = .ok (.lreturn, 1) := by decide +kernel
theorem cal_S_line : am_cal y_S_line b_S_line 7 ((Option.some FieldType.long)) 4 := ⟨Or.inl wx_594, wx_1, by decide, by decide +kernel⟩
abbrev y_S_latestBill : MethodName := ⟨"BillShares", "latestBill", "(LBillShares$Flat;I)LBillShares$Bill;"⟩
abbrev b_S_latestBill : ByteArray := prog_1_method_30_code
theorem d_S_latestBill_0 : decode b_S_latestBill 0 = .ok (.iload_n 2, 1) := by decide +kernel
theorem d_S_latestBill_1 : decode b_S_latestBill 1 = .ok (.invokestatic 117, 3) := by decide +kernel
theorem d_S_latestBill_4 : decode b_S_latestBill 4 = .ok (.aload_n 0, 1) := by decide +kernel
theorem d_S_latestBill_5 : decode b_S_latestBill 5 = .ok (.getfield 29, 3) := by decide +kernel
theorem d_S_latestBill_8 : decode b_S_latestBill 8 = .ok (.iload_n 2, 1) := by decide +kernel
theorem d_S_latestBill_9 : decode b_S_latestBill 9 = .ok (.iaload, 1) := by decide +kernel
theorem d_S_latestBill_10 : decode b_S_latestBill 10 = .ok (.ifCond .ne 13, 3) := by decide +kernel
theorem d_S_latestBill_13 : decode b_S_latestBill 13 = .ok (.new 46, 3) := by decide +kernel
theorem d_S_latestBill_16 : decode b_S_latestBill 16 = .ok (.dup, 1) := by decide +kernel
theorem d_S_latestBill_17 : decode b_S_latestBill 17 = .ok (.ldc 210, 2) := by decide +kernel
theorem d_S_latestBill_19 : decode b_S_latestBill 19 = .ok (.invokespecial 50, 3) := by decide +kernel
theorem d_S_latestBill_22 : decode b_S_latestBill 22 = .ok (.athrow, 1) := by decide +kernel
theorem d_S_latestBill_23 : decode b_S_latestBill 23 = .ok (.aload_n 1, 1) := by decide +kernel
theorem d_S_latestBill_24 : decode b_S_latestBill 24 = .ok (.getfield 212, 3) := by decide +kernel
theorem d_S_latestBill_27 : decode b_S_latestBill 27 = .ok (.iload_n 2, 1) := by decide +kernel
theorem d_S_latestBill_28 : decode b_S_latestBill 28 = .ok (.aaload, 1) := by decide +kernel
theorem d_S_latestBill_29 : decode b_S_latestBill 29 = .ok (.astore_n 3, 1) := by decide +kernel
theorem d_S_latestBill_30 : decode b_S_latestBill 30 = .ok (.aload_n 3, 1) := by decide +kernel
theorem d_S_latestBill_31 : decode b_S_latestBill 31 = .ok (.ifnonnull 13, 3) := by decide +kernel
theorem d_S_latestBill_34 : decode b_S_latestBill 34 = .ok (.new 104, 3) := by decide +kernel
theorem d_S_latestBill_37 : decode b_S_latestBill 37 = .ok (.dup, 1) := by decide +kernel
theorem d_S_latestBill_38 : decode b_S_latestBill 38 = .ok (.ldc 216, 2) := by decide +kernel
theorem d_S_latestBill_40 : decode b_S_latestBill 40 = .ok (.invokespecial 108, 3) := by decide +kernel
theorem d_S_latestBill_43 : decode b_S_latestBill 43 = .ok (.athrow, 1) := by decide +kernel
theorem d_S_latestBill_44 : decode b_S_latestBill 44 = .ok (.aload_n 3, 1) := by decide +kernel
theorem d_S_latestBill_45 : decode b_S_latestBill 45 = .ok (.areturn, 1) := by decide +kernel
theorem cal_S_latestBill : am_cal y_S_latestBill b_S_latestBill 4 ((Option.some (FieldType.object "BillShares$Bill"))) 2 := ⟨Or.inl wx_598, wx_1, by decide, by decide +kernel⟩
abbrev y_S_share : MethodName := ⟨"BillShares", "share", "(II)J"⟩
abbrev b_S_share : ByteArray := prog_1_method_16_code
theorem d_S_share_0 : decode b_S_share 0 = .ok (.aload_n 0, 1) := by decide +kernel
theorem d_S_share_1 : decode b_S_share 1 = .ok (.aload_n 0, 1) := by decide +kernel
theorem d_S_share_2 : decode b_S_share 2 = .ok (.iload_n 1, 1) := by decide +kernel
theorem d_S_share_3 : decode b_S_share 3 = .ok (.invokevirtual 69, 3) := by decide +kernel
theorem d_S_share_6 : decode b_S_share 6 = .ok (.iload_n 2, 1) := by decide +kernel
theorem d_S_share_7 : decode b_S_share 7 = .ok (.invokevirtual 167, 3) := by decide +kernel
theorem d_S_share_10 : decode b_S_share 10 = .ok (.invokevirtual 179, 3) := by decide +kernel
theorem d_S_share_13 : decode b_S_share 13 = .ok (.lreturn, 1) := by decide +kernel
theorem cal_S_share : am_cal y_S_share b_S_share 3 ((Option.some FieldType.long)) 2 := ⟨Or.inl wx_607, wx_1, by decide, by decide +kernel⟩
abbrev y_S_part : MethodName := ⟨"BillShares", "part", "(III)J"⟩
abbrev b_S_part : ByteArray := prog_1_method_17_code
theorem d_S_part_0 : decode b_S_part 0 = .ok (.aload_n 0, 1) := by decide +kernel
theorem d_S_part_1 : decode b_S_part 1 = .ok (.iload_n 1, 1) := by decide +kernel
theorem d_S_part_2 : decode b_S_part 2 = .ok (.invokevirtual 69, 3) := by decide +kernel
theorem d_S_part_5 : decode b_S_part 5 = .ok (.astore 4, 2) := by decide +kernel
theorem d_S_part_7 : decode b_S_part 7 = .ok (.iload_n 2, 1) := by decide +kernel
theorem d_S_part_8 : decode b_S_part 8 = .ok (.iconst 0, 1) := by decide +kernel
theorem d_S_part_9 : decode b_S_part 9 = .ok (.aload 4, 2) := by decide +kernel
theorem d_S_part_11 : decode b_S_part 11 = .ok (.getfield 126, 3) := by decide +kernel
theorem d_S_part_14 : decode b_S_part 14 = .ok (.iconst 1, 1) := by decide +kernel
theorem d_S_part_15 : decode b_S_part 15 = .ok (.isub, 1) := by decide +kernel
theorem d_S_part_16 : decode b_S_part 16 = .ok (.invokestatic 38, 3) := by decide +kernel
theorem d_S_part_19 : decode b_S_part 19 = .ok (.aload_n 0, 1) := by decide +kernel
theorem d_S_part_20 : decode b_S_part 20 = .ok (.aload 4, 2) := by decide +kernel
theorem d_S_part_22 : decode b_S_part 22 = .ok (.iload_n 3, 1) := by decide +kernel
theorem d_S_part_23 : decode b_S_part 23 = .ok (.invokevirtual 167, 3) := by decide +kernel
theorem d_S_part_26 : decode b_S_part 26 = .ok (.astore 5, 2) := by decide +kernel
theorem d_S_part_28 : decode b_S_part 28 = .ok (.aload 4, 2) := by decide +kernel
theorem d_S_part_30 : decode b_S_part 30 = .ok (.iload_n 3, 1) := by decide +kernel
theorem d_S_part_31 : decode b_S_part 31 = .ok (.invokevirtual 183, 3) := by decide +kernel
theorem d_S_part_34 : decode b_S_part 34 = .ok (.istore 6, 2) := by decide +kernel
theorem d_S_part_36 : decode b_S_part 36 = .ok (.iload_n 2, 1) := by decide +kernel
theorem d_S_part_37 : decode b_S_part 37 = .ok (.iload 6, 2) := by decide +kernel
theorem d_S_part_39 : decode b_S_part 39 = .ok (.if_icmp .eq 13, 3) := by decide +kernel
theorem d_S_part_42 : decode b_S_part 42 = .ok (.aload 4, 2) := by decide +kernel
theorem d_S_part_44 : decode b_S_part 44 = .ok (.aload 5, 2) := by decide +kernel
theorem d_S_part_46 : decode b_S_part 46 = .ok (.iload_n 2, 1) := by decide +kernel
theorem d_S_part_47 : decode b_S_part 47 = .ok (.iload_n 3, 1) := by decide +kernel
theorem d_S_part_48 : decode b_S_part 48 = .ok (.invokestatic 186, 3) := by decide +kernel
theorem d_S_part_51 : decode b_S_part 51 = .ok (.lreturn, 1) := by decide +kernel
theorem d_S_part_52 : decode b_S_part 52 = .ok (.aload 5, 2) := by decide +kernel
theorem d_S_part_54 : decode b_S_part 54 = .ok (.invokevirtual 179, 3) := by decide +kernel
theorem d_S_part_57 : decode b_S_part 57 = .ok (.lstore 7, 2) := by decide +kernel
theorem d_S_part_59 : decode b_S_part 59 = .ok (.iconst 0, 1) := by decide +kernel
theorem d_S_part_60 : decode b_S_part 60 = .ok (.istore 9, 2) := by decide +kernel
theorem d_S_part_62 : decode b_S_part 62 = .ok (.iload 9, 2) := by decide +kernel
theorem d_S_part_64 : decode b_S_part 64 = .ok (.iload 6, 2) := by decide +kernel
theorem d_S_part_66 : decode b_S_part 66 = .ok (.if_icmp .ge 24, 3) := by decide +kernel
theorem d_S_part_69 : decode b_S_part 69 = .ok (.lload 7, 2) := by decide +kernel
theorem d_S_part_71 : decode b_S_part 71 = .ok (.aload 4, 2) := by decide +kernel
theorem d_S_part_73 : decode b_S_part 73 = .ok (.aload 5, 2) := by decide +kernel
theorem d_S_part_75 : decode b_S_part 75 = .ok (.iload 9, 2) := by decide +kernel
theorem d_S_part_77 : decode b_S_part 77 = .ok (.iload_n 3, 1) := by decide +kernel
theorem d_S_part_78 : decode b_S_part 78 = .ok (.invokestatic 186, 3) := by decide +kernel
theorem d_S_part_81 : decode b_S_part 81 = .ok (.lsub, 1) := by decide +kernel
theorem d_S_part_82 : decode b_S_part 82 = .ok (.lstore 7, 2) := by decide +kernel
theorem d_S_part_84 : decode b_S_part 84 = .ok (.iinc 9 1, 3) := by decide +kernel
theorem d_S_part_87 : decode b_S_part 87 = .ok (.goto (-25), 3) := by decide +kernel
theorem d_S_part_90 : decode b_S_part 90 = .ok (.lload 7, 2) := by decide +kernel
theorem d_S_part_92 : decode b_S_part 92 = .ok (.lreturn, 1) := by decide +kernel
theorem cal_S_part : am_cal y_S_part b_S_part 10 ((Option.some FieldType.long)) 3 := ⟨Or.inl wx_614, wx_1, by decide, by decide +kernel⟩
abbrev y_F_lastDwellerIn : MethodName := ⟨"BillShares$Flat", "lastDwellerIn", "(I)I"⟩
abbrev b_F_lastDwellerIn : ByteArray := prog_3_method_6_code
theorem d_F_lastDwellerIn_0 : decode b_F_lastDwellerIn 0 = .ok (.iconst 0, 1) := by decide +kernel
theorem d_F_lastDwellerIn_1 : decode b_F_lastDwellerIn 1 = .ok (.istore_n 2, 1) := by decide +kernel
theorem d_F_lastDwellerIn_2 : decode b_F_lastDwellerIn 2 = .ok (.iconst 1, 1) := by decide +kernel
theorem d_F_lastDwellerIn_3 : decode b_F_lastDwellerIn 3 = .ok (.istore_n 3, 1) := by decide +kernel
theorem d_F_lastDwellerIn_4 : decode b_F_lastDwellerIn 4 = .ok (.iload_n 3, 1) := by decide +kernel
theorem d_F_lastDwellerIn_5 : decode b_F_lastDwellerIn 5 = .ok (.aload_n 0, 1) := by decide +kernel
theorem d_F_lastDwellerIn_6 : decode b_F_lastDwellerIn 6 = .ok (.getfield 22, 3) := by decide +kernel
theorem d_F_lastDwellerIn_9 : decode b_F_lastDwellerIn 9 = .ok (.if_icmp .ge 24, 3) := by decide +kernel
theorem d_F_lastDwellerIn_12 : decode b_F_lastDwellerIn 12 = .ok (.aload_n 0, 1) := by decide +kernel
theorem d_F_lastDwellerIn_13 : decode b_F_lastDwellerIn 13 = .ok (.getfield 18, 3) := by decide +kernel
theorem d_F_lastDwellerIn_16 : decode b_F_lastDwellerIn 16 = .ok (.iload_n 3, 1) := by decide +kernel
theorem d_F_lastDwellerIn_17 : decode b_F_lastDwellerIn 17 = .ok (.iaload, 1) := by decide +kernel
theorem d_F_lastDwellerIn_18 : decode b_F_lastDwellerIn 18 = .ok (.iload_n 1, 1) := by decide +kernel
theorem d_F_lastDwellerIn_19 : decode b_F_lastDwellerIn 19 = .ok (.invokestatic 46, 3) := by decide +kernel
theorem d_F_lastDwellerIn_22 : decode b_F_lastDwellerIn 22 = .ok (.if_icmp .ge 5, 3) := by decide +kernel
theorem d_F_lastDwellerIn_25 : decode b_F_lastDwellerIn 25 = .ok (.iload_n 3, 1) := by decide +kernel
theorem d_F_lastDwellerIn_26 : decode b_F_lastDwellerIn 26 = .ok (.istore_n 2, 1) := by decide +kernel
theorem d_F_lastDwellerIn_27 : decode b_F_lastDwellerIn 27 = .ok (.iinc 3 1, 3) := by decide +kernel
theorem d_F_lastDwellerIn_30 : decode b_F_lastDwellerIn 30 = .ok (.goto (-26), 3) := by decide +kernel
theorem d_F_lastDwellerIn_33 : decode b_F_lastDwellerIn 33 = .ok (.iload_n 2, 1) := by decide +kernel
theorem d_F_lastDwellerIn_34 : decode b_F_lastDwellerIn 34 = .ok (.ireturn, 1) := by decide +kernel
theorem cal_F_lastDwellerIn : am_cal y_F_lastDwellerIn b_F_lastDwellerIn 4 ((Option.some FieldType.int)) 1 := ⟨Or.inl wx_618, wx_12, by decide, by decide +kernel⟩
abbrev y_S_partByFloors : MethodName := ⟨"BillShares", "partByFloors", "(LBillShares$Flat;LBillShares$Bill;II)J"⟩
abbrev b_S_partByFloors : ByteArray := prog_1_method_39_code
theorem d_S_partByFloors_0 : decode b_S_partByFloors 0 = .ok (.aload_n 0, 1) := by decide +kernel
theorem d_S_partByFloors_1 : decode b_S_partByFloors 1 = .ok (.iload_n 2, 1) := by decide +kernel
theorem d_S_partByFloors_2 : decode b_S_partByFloors 2 = .ok (.invokevirtual 274, 3) := by decide +kernel
theorem d_S_partByFloors_5 : decode b_S_partByFloors 5 = .ok (.iload_n 3, 1) := by decide +kernel
theorem d_S_partByFloors_6 : decode b_S_partByFloors 6 = .ok (.invokestatic 153, 3) := by decide +kernel
theorem d_S_partByFloors_9 : decode b_S_partByFloors 9 = .ok (.invokestatic 277, 3) := by decide +kernel
theorem d_S_partByFloors_12 : decode b_S_partByFloors 12 = .ok (.istore 4, 2) := by decide +kernel
theorem d_S_partByFloors_14 : decode b_S_partByFloors 14 = .ok (.aload_n 0, 1) := by decide +kernel
theorem d_S_partByFloors_15 : decode b_S_partByFloors 15 = .ok (.iload_n 2, 1) := by decide +kernel
theorem d_S_partByFloors_16 : decode b_S_partByFloors 16 = .ok (.invokevirtual 282, 3) := by decide +kernel
theorem d_S_partByFloors_19 : decode b_S_partByFloors 19 = .ok (.iload_n 3, 1) := by decide +kernel
theorem d_S_partByFloors_20 : decode b_S_partByFloors 20 = .ok (.invokestatic 156, 3) := by decide +kernel
theorem d_S_partByFloors_23 : decode b_S_partByFloors 23 = .ok (.invokestatic 285, 3) := by decide +kernel
theorem d_S_partByFloors_26 : decode b_S_partByFloors 26 = .ok (.istore 5, 2) := by decide +kernel
theorem d_S_partByFloors_28 : decode b_S_partByFloors 28 = .ok (.iload 5, 2) := by decide +kernel
theorem d_S_partByFloors_30 : decode b_S_partByFloors 30 = .ok (.iload 4, 2) := by decide +kernel
theorem d_S_partByFloors_32 : decode b_S_partByFloors 32 = .ok (.if_icmp .gt 5, 3) := by decide +kernel
theorem d_S_partByFloors_35 : decode b_S_partByFloors 35 = .ok (.lconst 0, 1) := by decide +kernel
theorem d_S_partByFloors_36 : decode b_S_partByFloors 36 = .ok (.lreturn, 1) := by decide +kernel
theorem d_S_partByFloors_37 : decode b_S_partByFloors 37 = .ok (.lconst 0, 1) := by decide +kernel
theorem d_S_partByFloors_38 : decode b_S_partByFloors 38 = .ok (.lstore 6, 2) := by decide +kernel
theorem d_S_partByFloors_40 : decode b_S_partByFloors 40 = .ok (.iconst 0, 1) := by decide +kernel
theorem d_S_partByFloors_41 : decode b_S_partByFloors 41 = .ok (.istore 8, 2) := by decide +kernel
theorem d_S_partByFloors_43 : decode b_S_partByFloors 43 = .ok (.iload 8, 2) := by decide +kernel
theorem d_S_partByFloors_45 : decode b_S_partByFloors 45 = .ok (.iconst 4, 1) := by decide +kernel
theorem d_S_partByFloors_46 : decode b_S_partByFloors 46 = .ok (.if_icmp .ge 56, 3) := by decide +kernel
theorem d_S_partByFloors_49 : decode b_S_partByFloors 49 = .ok (.lload 6, 2) := by decide +kernel
theorem d_S_partByFloors_51 : decode b_S_partByFloors 51 = .ok (.aload_n 1, 1) := by decide +kernel
theorem d_S_partByFloors_52 : decode b_S_partByFloors 52 = .ok (.getfield 171, 3) := by decide +kernel
theorem d_S_partByFloors_55 : decode b_S_partByFloors 55 = .ok (.iload 8, 2) := by decide +kernel
theorem d_S_partByFloors_57 : decode b_S_partByFloors 57 = .ok (.laload, 1) := by decide +kernel
theorem d_S_partByFloors_58 : decode b_S_partByFloors 58 = .ok (.iload 5, 2) := by decide +kernel
theorem d_S_partByFloors_60 : decode b_S_partByFloors 60 = .ok (.iload 4, 2) := by decide +kernel
theorem d_S_partByFloors_62 : decode b_S_partByFloors 62 = .ok (.isub, 1) := by decide +kernel
theorem d_S_partByFloors_63 : decode b_S_partByFloors 63 = .ok (.i2l, 1) := by decide +kernel
theorem d_S_partByFloors_64 : decode b_S_partByFloors 64 = .ok (.ldc2_w 288, 3) := by decide +kernel
theorem d_S_partByFloors_67 : decode b_S_partByFloors 67 = .ok (.invokestatic 241, 3) := by decide +kernel
theorem d_S_partByFloors_70 : decode b_S_partByFloors 70 = .ok (.ladd, 1) := by decide +kernel
theorem d_S_partByFloors_71 : decode b_S_partByFloors 71 = .ok (.lstore 6, 2) := by decide +kernel
theorem d_S_partByFloors_73 : decode b_S_partByFloors 73 = .ok (.lload 6, 2) := by decide +kernel
theorem d_S_partByFloors_75 : decode b_S_partByFloors 75 = .ok (.aload_n 0, 1) := by decide +kernel
theorem d_S_partByFloors_76 : decode b_S_partByFloors 76 = .ok (.aload_n 1, 1) := by decide +kernel
theorem d_S_partByFloors_77 : decode b_S_partByFloors 77 = .ok (.getfield 176, 3) := by decide +kernel
theorem d_S_partByFloors_80 : decode b_S_partByFloors 80 = .ok (.iload 8, 2) := by decide +kernel
theorem d_S_partByFloors_82 : decode b_S_partByFloors 82 = .ok (.laload, 1) := by decide +kernel
theorem d_S_partByFloors_83 : decode b_S_partByFloors 83 = .ok (.iload 8, 2) := by decide +kernel
theorem d_S_partByFloors_85 : decode b_S_partByFloors 85 = .ok (.iload_n 3, 1) := by decide +kernel
theorem d_S_partByFloors_86 : decode b_S_partByFloors 86 = .ok (.iload 4, 2) := by decide +kernel
theorem d_S_partByFloors_88 : decode b_S_partByFloors 88 = .ok (.iload 5, 2) := by decide +kernel
theorem d_S_partByFloors_90 : decode b_S_partByFloors 90 = .ok (.invokestatic 290, 3) := by decide +kernel
theorem d_S_partByFloors_93 : decode b_S_partByFloors 93 = .ok (.ladd, 1) := by decide +kernel
theorem d_S_partByFloors_94 : decode b_S_partByFloors 94 = .ok (.lstore 6, 2) := by decide +kernel
theorem d_S_partByFloors_96 : decode b_S_partByFloors 96 = .ok (.iinc 8 1, 3) := by decide +kernel
theorem d_S_partByFloors_99 : decode b_S_partByFloors 99 = .ok (.goto (-56), 3) := by decide +kernel
theorem d_S_partByFloors_102 : decode b_S_partByFloors 102 = .ok (.lload 6, 2) := by decide +kernel
theorem d_S_partByFloors_104 : decode b_S_partByFloors 104 = .ok (.lreturn, 1) := by decide +kernel
theorem cal_S_partByFloors : am_cal y_S_partByFloors b_S_partByFloors 9 ((Option.some FieldType.long)) 4 := ⟨Or.inl wx_622, wx_1, by decide, by decide +kernel⟩
abbrev y_F_movedOut : MethodName := ⟨"BillShares$Flat", "movedOut", "(I)I"⟩
abbrev b_F_movedOut : ByteArray := prog_3_method_5_code
theorem d_F_movedOut_0 : decode b_F_movedOut 0 = .ok (.iload_n 1, 1) := by decide +kernel
theorem d_F_movedOut_1 : decode b_F_movedOut 1 = .ok (.iconst 1, 1) := by decide +kernel
theorem d_F_movedOut_2 : decode b_F_movedOut 2 = .ok (.iadd, 1) := by decide +kernel
theorem d_F_movedOut_3 : decode b_F_movedOut 3 = .ok (.aload_n 0, 1) := by decide +kernel
theorem d_F_movedOut_4 : decode b_F_movedOut 4 = .ok (.getfield 22, 3) := by decide +kernel
theorem d_F_movedOut_7 : decode b_F_movedOut 7 = .ok (.if_icmp .ge 13, 3) := by decide +kernel
theorem d_F_movedOut_10 : decode b_F_movedOut 10 = .ok (.aload_n 0, 1) := by decide +kernel
theorem d_F_movedOut_11 : decode b_F_movedOut 11 = .ok (.iload_n 1, 1) := by decide +kernel
theorem d_F_movedOut_12 : decode b_F_movedOut 12 = .ok (.iconst 1, 1) := by decide +kernel
theorem d_F_movedOut_13 : decode b_F_movedOut 13 = .ok (.iadd, 1) := by decide +kernel
theorem d_F_movedOut_14 : decode b_F_movedOut 14 = .ok (.invokevirtual 42, 3) := by decide +kernel
theorem d_F_movedOut_17 : decode b_F_movedOut 17 = .ok (.goto 6, 3) := by decide +kernel
theorem d_F_movedOut_20 : decode b_F_movedOut 20 = .ok (.sipush 3650, 3) := by decide +kernel
theorem d_F_movedOut_23 : decode b_F_movedOut 23 = .ok (.ireturn, 1) := by decide +kernel
theorem cal_F_movedOut : am_cal y_F_movedOut b_F_movedOut 2 ((Option.some FieldType.int)) 1 := ⟨Or.inl wx_628, wx_12, by decide, by decide +kernel⟩
abbrev y_S_usedPartBetween : MethodName := ⟨"BillShares", "usedPartBetween", "(LBillShares$Flat;JIIII)J"⟩
abbrev b_S_usedPartBetween : ByteArray := prog_1_method_40_code
theorem d_S_usedPartBetween_0 : decode b_S_usedPartBetween 0 = .ok (.aload_n 0, 1) := by decide +kernel
theorem d_S_usedPartBetween_1 : decode b_S_usedPartBetween 1 = .ok (.iload_n 3, 1) := by decide +kernel
theorem d_S_usedPartBetween_2 : decode b_S_usedPartBetween 2 = .ok (.iload 4, 2) := by decide +kernel
theorem d_S_usedPartBetween_4 : decode b_S_usedPartBetween 4 = .ok (.invokevirtual 165, 3) := by decide +kernel
theorem d_S_usedPartBetween_7 : decode b_S_usedPartBetween 7 = .ok (.ifCond .ne 43, 3) := by decide +kernel
theorem d_S_usedPartBetween_10 : decode b_S_usedPartBetween 10 = .ok (.aload_n 0, 1) := by decide +kernel
theorem d_S_usedPartBetween_11 : decode b_S_usedPartBetween 11 = .ok (.iload_n 3, 1) := by decide +kernel
theorem d_S_usedPartBetween_12 : decode b_S_usedPartBetween 12 = .ok (.iload 4, 2) := by decide +kernel
theorem d_S_usedPartBetween_14 : decode b_S_usedPartBetween 14 = .ok (.invokestatic 153, 3) := by decide +kernel
theorem d_S_usedPartBetween_17 : decode b_S_usedPartBetween 17 = .ok (.iload 4, 2) := by decide +kernel
theorem d_S_usedPartBetween_19 : decode b_S_usedPartBetween 19 = .ok (.invokestatic 156, 3) := by decide +kernel
theorem d_S_usedPartBetween_22 : decode b_S_usedPartBetween 22 = .ok (.invokevirtual 268, 3) := by decide +kernel
theorem d_S_usedPartBetween_25 : decode b_S_usedPartBetween 25 = .ok (.lstore 7, 2) := by decide +kernel
theorem d_S_usedPartBetween_27 : decode b_S_usedPartBetween 27 = .ok (.lload 7, 2) := by decide +kernel
theorem d_S_usedPartBetween_29 : decode b_S_usedPartBetween 29 = .ok (.lconst 0, 1) := by decide +kernel
theorem d_S_usedPartBetween_30 : decode b_S_usedPartBetween 30 = .ok (.lcmp, 1) := by decide +kernel
theorem d_S_usedPartBetween_31 : decode b_S_usedPartBetween 31 = .ok (.ifCond .le 19, 3) := by decide +kernel
theorem d_S_usedPartBetween_34 : decode b_S_usedPartBetween 34 = .ok (.lload_n 1, 1) := by decide +kernel
theorem d_S_usedPartBetween_35 : decode b_S_usedPartBetween 35 = .ok (.aload_n 0, 1) := by decide +kernel
theorem d_S_usedPartBetween_36 : decode b_S_usedPartBetween 36 = .ok (.iload_n 3, 1) := by decide +kernel
theorem d_S_usedPartBetween_37 : decode b_S_usedPartBetween 37 = .ok (.iload 5, 2) := by decide +kernel
theorem d_S_usedPartBetween_39 : decode b_S_usedPartBetween 39 = .ok (.iload 6, 2) := by decide +kernel
theorem d_S_usedPartBetween_41 : decode b_S_usedPartBetween 41 = .ok (.invokevirtual 268, 3) := by decide +kernel
theorem d_S_usedPartBetween_44 : decode b_S_usedPartBetween 44 = .ok (.lload 7, 2) := by decide +kernel
theorem d_S_usedPartBetween_46 : decode b_S_usedPartBetween 46 = .ok (.invokestatic 241, 3) := by decide +kernel
theorem d_S_usedPartBetween_49 : decode b_S_usedPartBetween 49 = .ok (.lreturn, 1) := by decide +kernel
theorem d_S_usedPartBetween_50 : decode b_S_usedPartBetween 50 = .ok (.lload_n 1, 1) := by decide +kernel
theorem d_S_usedPartBetween_51 : decode b_S_usedPartBetween 51 = .ok (.iload 6, 2) := by decide +kernel
theorem d_S_usedPartBetween_53 : decode b_S_usedPartBetween 53 = .ok (.iload 5, 2) := by decide +kernel
theorem d_S_usedPartBetween_55 : decode b_S_usedPartBetween 55 = .ok (.isub, 1) := by decide +kernel
theorem d_S_usedPartBetween_56 : decode b_S_usedPartBetween 56 = .ok (.i2l, 1) := by decide +kernel
theorem d_S_usedPartBetween_57 : decode b_S_usedPartBetween 57 = .ok (.ldc2_w 288, 3) := by decide +kernel
theorem d_S_usedPartBetween_60 : decode b_S_usedPartBetween 60 = .ok (.invokestatic 241, 3) := by decide +kernel
theorem d_S_usedPartBetween_63 : decode b_S_usedPartBetween 63 = .ok (.lreturn, 1) := by decide +kernel
theorem cal_S_usedPartBetween : am_cal y_S_usedPartBetween b_S_usedPartBetween 9 ((Option.some FieldType.long)) 6 := ⟨Or.inl wx_633, wx_1, by decide, by decide +kernel⟩
abbrev y_S_balance : MethodName := ⟨"BillShares", "balance", "(II)J"⟩
abbrev b_S_balance : ByteArray := prog_1_method_18_code
theorem d_S_balance_0 : decode b_S_balance 0 = .ok (.aload_n 0, 1) := by decide +kernel
theorem d_S_balance_1 : decode b_S_balance 1 = .ok (.iload_n 1, 1) := by decide +kernel
theorem d_S_balance_2 : decode b_S_balance 2 = .ok (.invokevirtual 69, 3) := by decide +kernel
theorem d_S_balance_5 : decode b_S_balance 5 = .ok (.astore_n 3, 1) := by decide +kernel
theorem d_S_balance_6 : decode b_S_balance 6 = .ok (.aload_n 0, 1) := by decide +kernel
theorem d_S_balance_7 : decode b_S_balance 7 = .ok (.aload_n 3, 1) := by decide +kernel
theorem d_S_balance_8 : decode b_S_balance 8 = .ok (.iload_n 2, 1) := by decide +kernel
theorem d_S_balance_9 : decode b_S_balance 9 = .ok (.invokevirtual 167, 3) := by decide +kernel
theorem d_S_balance_12 : decode b_S_balance 12 = .ok (.invokevirtual 179, 3) := by decide +kernel
theorem d_S_balance_15 : decode b_S_balance 15 = .ok (.aload_n 3, 1) := by decide +kernel
theorem d_S_balance_16 : decode b_S_balance 16 = .ok (.getfield 134, 3) := by decide +kernel
theorem d_S_balance_19 : decode b_S_balance 19 = .ok (.iload_n 2, 1) := by decide +kernel
theorem d_S_balance_20 : decode b_S_balance 20 = .ok (.laload, 1) := by decide +kernel
theorem d_S_balance_21 : decode b_S_balance 21 = .ok (.lsub, 1) := by decide +kernel
theorem d_S_balance_22 : decode b_S_balance 22 = .ok (.lreturn, 1) := by decide +kernel
theorem cal_S_balance : am_cal y_S_balance b_S_balance 4 ((Option.some FieldType.long)) 2 := ⟨Or.inl wx_640, wx_1, by decide, by decide +kernel⟩
abbrev y_S_difference : MethodName := ⟨"BillShares", "difference", "(II)J"⟩
abbrev b_S_difference : ByteArray := prog_1_method_19_code
theorem d_S_difference_0 : decode b_S_difference 0 = .ok (.aload_n 0, 1) := by decide +kernel
theorem d_S_difference_1 : decode b_S_difference 1 = .ok (.aload_n 0, 1) := by decide +kernel
theorem d_S_difference_2 : decode b_S_difference 2 = .ok (.iload_n 1, 1) := by decide +kernel
theorem d_S_difference_3 : decode b_S_difference 3 = .ok (.invokevirtual 69, 3) := by decide +kernel
theorem d_S_difference_6 : decode b_S_difference 6 = .ok (.iload_n 2, 1) := by decide +kernel
theorem d_S_difference_7 : decode b_S_difference 7 = .ok (.invokevirtual 167, 3) := by decide +kernel
theorem d_S_difference_10 : decode b_S_difference 10 = .ok (.astore_n 3, 1) := by decide +kernel
theorem d_S_difference_11 : decode b_S_difference 11 = .ok (.aload_n 0, 1) := by decide +kernel
theorem d_S_difference_12 : decode b_S_difference 12 = .ok (.getfield 29, 3) := by decide +kernel
theorem d_S_difference_15 : decode b_S_difference 15 = .ok (.iload_n 2, 1) := by decide +kernel
theorem d_S_difference_16 : decode b_S_difference 16 = .ok (.iaload, 1) := by decide +kernel
theorem d_S_difference_17 : decode b_S_difference 17 = .ok (.iconst 1, 1) := by decide +kernel
theorem d_S_difference_18 : decode b_S_difference 18 = .ok (.if_icmp .ne 7, 3) := by decide +kernel
theorem d_S_difference_21 : decode b_S_difference 21 = .ok (.lconst 0, 1) := by decide +kernel
theorem d_S_difference_22 : decode b_S_difference 22 = .ok (.goto 12, 3) := by decide +kernel
theorem d_S_difference_25 : decode b_S_difference 25 = .ok (.aload_n 3, 1) := by decide +kernel
theorem d_S_difference_26 : decode b_S_difference 26 = .ok (.invokevirtual 179, 3) := by decide +kernel
theorem d_S_difference_29 : decode b_S_difference 29 = .ok (.aload_n 3, 1) := by decide +kernel
theorem d_S_difference_30 : decode b_S_difference 30 = .ok (.getfield 190, 3) := by decide +kernel
theorem d_S_difference_33 : decode b_S_difference 33 = .ok (.lsub, 1) := by decide +kernel
theorem d_S_difference_34 : decode b_S_difference 34 = .ok (.lreturn, 1) := by decide +kernel
theorem cal_S_difference : am_cal y_S_difference b_S_difference 4 ((Option.some FieldType.long)) 2 := ⟨Or.inl wx_647, wx_1, by decide, by decide +kernel⟩
abbrev y_S_edition : MethodName := ⟨"BillShares", "edition", "(I)I"⟩
abbrev b_S_edition : ByteArray := prog_1_method_20_code
theorem d_S_edition_0 : decode b_S_edition 0 = .ok (.iload_n 1, 1) := by decide +kernel
theorem d_S_edition_1 : decode b_S_edition 1 = .ok (.invokestatic 117, 3) := by decide +kernel
theorem d_S_edition_4 : decode b_S_edition 4 = .ok (.aload_n 0, 1) := by decide +kernel
theorem d_S_edition_5 : decode b_S_edition 5 = .ok (.getfield 29, 3) := by decide +kernel
theorem d_S_edition_8 : decode b_S_edition 8 = .ok (.iload_n 1, 1) := by decide +kernel
theorem d_S_edition_9 : decode b_S_edition 9 = .ok (.iaload, 1) := by decide +kernel
theorem d_S_edition_10 : decode b_S_edition 10 = .ok (.ireturn, 1) := by decide +kernel
theorem cal_S_edition : am_cal y_S_edition b_S_edition 2 ((Option.some FieldType.int)) 1 := ⟨Or.inl wx_654, wx_1, by decide, by decide +kernel⟩
