/-! code rows (written by wip/whole/mkcode.py) -/
abbrev y_M_init : MethodName := ⟨"BillSharesModel", "<init>", "()V"⟩
abbrev b_M_init : ByteArray := prog_6_method_1_code
theorem d_M_init_0 : decode b_M_init 0 = .ok (.aload_n 0, 1) := by decide +kernel
theorem d_M_init_1 : decode b_M_init 1 = .ok (.invokespecial 1, 3) := by decide +kernel
theorem d_M_init_4 : decode b_M_init 4 = .ok (.aload_n 0, 1) := by decide +kernel
theorem d_M_init_5 : decode b_M_init 5 = .ok (.bipush 20, 2) := by decide +kernel
theorem d_M_init_7 : decode b_M_init 7 = .ok (.newarray .int, 2) := by decide +kernel
theorem d_M_init_9 : decode b_M_init 9 = .ok (.putfield 7, 3) := by decide +kernel
theorem d_M_init_12 : decode b_M_init 12 = .ok (.aload_n 0, 1) := by decide +kernel
theorem d_M_init_13 : decode b_M_init 13 = .ok (.bipush 20, 2) := by decide +kernel
theorem d_M_init_15 : decode b_M_init 15 = .ok (.newarray .int, 2) := by decide +kernel
theorem d_M_init_17 : decode b_M_init 17 = .ok (.putfield 13, 3) := by decide +kernel
theorem d_M_init_20 : decode b_M_init 20 = .ok (.aload_n 0, 1) := by decide +kernel
theorem d_M_init_21 : decode b_M_init 21 = .ok (.bipush 20, 2) := by decide +kernel
theorem d_M_init_23 : decode b_M_init 23 = .ok (.newarray .int, 2) := by decide +kernel
theorem d_M_init_25 : decode b_M_init 25 = .ok (.putfield 16, 3) := by decide +kernel
theorem d_M_init_28 : decode b_M_init 28 = .ok (.aload_n 0, 1) := by decide +kernel
theorem d_M_init_29 : decode b_M_init 29 = .ok (.sipush 240, 3) := by decide +kernel
theorem d_M_init_32 : decode b_M_init 32 = .ok (.newarray .int, 2) := by decide +kernel
theorem d_M_init_34 : decode b_M_init 34 = .ok (.putfield 19, 3) := by decide +kernel
theorem d_M_init_37 : decode b_M_init 37 = .ok (.aload_n 0, 1) := by decide +kernel
theorem d_M_init_38 : decode b_M_init 38 = .ok (.sipush 200, 3) := by decide +kernel
theorem d_M_init_41 : decode b_M_init 41 = .ok (.newarray .long, 2) := by decide +kernel
theorem d_M_init_43 : decode b_M_init 43 = .ok (.putfield 22, 3) := by decide +kernel
theorem d_M_init_46 : decode b_M_init 46 = .ok (.aload_n 0, 1) := by decide +kernel
theorem d_M_init_47 : decode b_M_init 47 = .ok (.bipush 60, 2) := by decide +kernel
theorem d_M_init_49 : decode b_M_init 49 = .ok (.newarray .int, 2) := by decide +kernel
theorem d_M_init_51 : decode b_M_init 51 = .ok (.putfield 26, 3) := by decide +kernel
theorem d_M_init_54 : decode b_M_init 54 = .ok (.aload_n 0, 1) := by decide +kernel
theorem d_M_init_55 : decode b_M_init 55 = .ok (.bipush 60, 2) := by decide +kernel
theorem d_M_init_57 : decode b_M_init 57 = .ok (.newarray .int, 2) := by decide +kernel
theorem d_M_init_59 : decode b_M_init 59 = .ok (.putfield 29, 3) := by decide +kernel
theorem d_M_init_62 : decode b_M_init 62 = .ok (.aload_n 0, 1) := by decide +kernel
theorem d_M_init_63 : decode b_M_init 63 = .ok (.bipush 60, 2) := by decide +kernel
theorem d_M_init_65 : decode b_M_init 65 = .ok (.newarray .int, 2) := by decide +kernel
theorem d_M_init_67 : decode b_M_init 67 = .ok (.putfield 32, 3) := by decide +kernel
theorem d_M_init_70 : decode b_M_init 70 = .ok (.aload_n 0, 1) := by decide +kernel
theorem d_M_init_71 : decode b_M_init 71 = .ok (.bipush 60, 2) := by decide +kernel
theorem d_M_init_73 : decode b_M_init 73 = .ok (.newarray .int, 2) := by decide +kernel
theorem d_M_init_75 : decode b_M_init 75 = .ok (.putfield 35, 3) := by decide +kernel
theorem d_M_init_78 : decode b_M_init 78 = .ok (.aload_n 0, 1) := by decide +kernel
theorem d_M_init_79 : decode b_M_init 79 = .ok (.bipush 60, 2) := by decide +kernel
theorem d_M_init_81 : decode b_M_init 81 = .ok (.newarray .int, 2) := by decide +kernel
theorem d_M_init_83 : decode b_M_init 83 = .ok (.putfield 38, 3) := by decide +kernel
theorem d_M_init_86 : decode b_M_init 86 = .ok (.aload_n 0, 1) := by decide +kernel
theorem d_M_init_87 : decode b_M_init 87 = .ok (.bipush 60, 2) := by decide +kernel
theorem d_M_init_89 : decode b_M_init 89 = .ok (.newarray .int, 2) := by decide +kernel
theorem d_M_init_91 : decode b_M_init 91 = .ok (.putfield 41, 3) := by decide +kernel
theorem d_M_init_94 : decode b_M_init 94 = .ok (.aload_n 0, 1) := by decide +kernel
theorem d_M_init_95 : decode b_M_init 95 = .ok (.sipush 2400, 3) := by decide +kernel
theorem d_M_init_98 : decode b_M_init 98 = .ok (.newarray .int, 2) := by decide +kernel
theorem d_M_init_100 : decode b_M_init 100 = .ok (.putfield 44, 3) := by decide +kernel
theorem d_M_init_103 : decode b_M_init 103 = .ok (.aload_n 0, 1) := by decide +kernel
theorem d_M_init_104 : decode b_M_init 104 = .ok (.sipush 2400, 3) := by decide +kernel
theorem d_M_init_107 : decode b_M_init 107 = .ok (.newarray .int, 2) := by decide +kernel
theorem d_M_init_109 : decode b_M_init 109 = .ok (.putfield 47, 3) := by decide +kernel
theorem d_M_init_112 : decode b_M_init 112 = .ok (.aload_n 0, 1) := by decide +kernel
theorem d_M_init_113 : decode b_M_init 113 = .ok (.sipush 2400, 3) := by decide +kernel
theorem d_M_init_116 : decode b_M_init 116 = .ok (.newarray .int, 2) := by decide +kernel
theorem d_M_init_118 : decode b_M_init 118 = .ok (.putfield 50, 3) := by decide +kernel
theorem d_M_init_121 : decode b_M_init 121 = .ok (.aload_n 0, 1) := by decide +kernel
theorem d_M_init_122 : decode b_M_init 122 = .ok (.sipush 2400, 3) := by decide +kernel
theorem d_M_init_125 : decode b_M_init 125 = .ok (.newarray .boolean, 2) := by decide +kernel
theorem d_M_init_127 : decode b_M_init 127 = .ok (.putfield 53, 3) := by decide +kernel
theorem d_M_init_130 : decode b_M_init 130 = .ok (.aload_n 0, 1) := by decide +kernel
theorem d_M_init_131 : decode b_M_init 131 = .ok (.bipush 40, 2) := by decide +kernel
theorem d_M_init_133 : decode b_M_init 133 = .ok (.newarray .int, 2) := by decide +kernel
theorem d_M_init_135 : decode b_M_init 135 = .ok (.putfield 57, 3) := by decide +kernel
theorem d_M_init_138 : decode b_M_init 138 = .ok (.aload_n 0, 1) := by decide +kernel
theorem d_M_init_139 : decode b_M_init 139 = .ok (.iconst 4, 1) := by decide +kernel
theorem d_M_init_140 : decode b_M_init 140 = .ok (.newarray .int, 2) := by decide +kernel
theorem d_M_init_142 : decode b_M_init 142 = .ok (.putfield 60, 3) := by decide +kernel
theorem d_M_init_145 : decode b_M_init 145 = .ok (.aload_n 0, 1) := by decide +kernel
theorem d_M_init_146 : decode b_M_init 146 = .ok (.bipush 10, 2) := by decide +kernel
theorem d_M_init_148 : decode b_M_init 148 = .ok (.newarray .int, 2) := by decide +kernel
theorem d_M_init_150 : decode b_M_init 150 = .ok (.putfield 63, 3) := by decide +kernel
theorem d_M_init_153 : decode b_M_init 153 = .ok (.aload_n 0, 1) := by decide +kernel
theorem d_M_init_154 : decode b_M_init 154 = .ok (.bipush 10, 2) := by decide +kernel
theorem d_M_init_156 : decode b_M_init 156 = .ok (.newarray .int, 2) := by decide +kernel
theorem d_M_init_158 : decode b_M_init 158 = .ok (.putfield 66, 3) := by decide +kernel
theorem d_M_init_161 : decode b_M_init 161 = .ok (.aload_n 0, 1) := by decide +kernel
theorem d_M_init_162 : decode b_M_init 162 = .ok (.bipush 10, 2) := by decide +kernel
theorem d_M_init_164 : decode b_M_init 164 = .ok (.newarray .int, 2) := by decide +kernel
theorem d_M_init_166 : decode b_M_init 166 = .ok (.putfield 69, 3) := by decide +kernel
theorem d_M_init_169 : decode b_M_init 169 = .ok (.aload_n 0, 1) := by decide +kernel
theorem d_M_init_170 : decode b_M_init 170 = .ok (.sipush 800, 3) := by decide +kernel
theorem d_M_init_173 : decode b_M_init 173 = .ok (.newarray .long, 2) := by decide +kernel
theorem d_M_init_175 : decode b_M_init 175 = .ok (.putfield 72, 3) := by decide +kernel
theorem d_M_init_178 : decode b_M_init 178 = .ok (.aload_n 0, 1) := by decide +kernel
theorem d_M_init_179 : decode b_M_init 179 = .ok (.sipush 800, 3) := by decide +kernel
theorem d_M_init_182 : decode b_M_init 182 = .ok (.newarray .long, 2) := by decide +kernel
theorem d_M_init_184 : decode b_M_init 184 = .ok (.putfield 75, 3) := by decide +kernel
theorem d_M_init_187 : decode b_M_init 187 = .ok (.aload_n 0, 1) := by decide +kernel
theorem d_M_init_188 : decode b_M_init 188 = .ok (.sipush 200, 3) := by decide +kernel
theorem d_M_init_191 : decode b_M_init 191 = .ok (.newarray .long, 2) := by decide +kernel
theorem d_M_init_193 : decode b_M_init 193 = .ok (.putfield 78, 3) := by decide +kernel
theorem d_M_init_196 : decode b_M_init 196 = .ok (.aload_n 0, 1) := by decide +kernel
theorem d_M_init_197 : decode b_M_init 197 = .ok (.bipush 20, 2) := by decide +kernel
theorem d_M_init_199 : decode b_M_init 199 = .ok (.newarray .long, 2) := by decide +kernel
theorem d_M_init_201 : decode b_M_init 201 = .ok (.putfield 81, 3) := by decide +kernel
theorem d_M_init_204 : decode b_M_init 204 = .ok (.aload_n 0, 1) := by decide +kernel
theorem d_M_init_205 : decode b_M_init 205 = .ok (.bipush 20, 2) := by decide +kernel
theorem d_M_init_207 : decode b_M_init 207 = .ok (.newarray .long, 2) := by decide +kernel
theorem d_M_init_209 : decode b_M_init 209 = .ok (.putfield 84, 3) := by decide +kernel
theorem d_M_init_212 : decode b_M_init 212 = .ok (.iconst 0, 1) := by decide +kernel
theorem d_M_init_213 : decode b_M_init 213 = .ok (.istore_n 1, 1) := by decide +kernel
theorem d_M_init_214 : decode b_M_init 214 = .ok (.iload_n 1, 1) := by decide +kernel
theorem d_M_init_215 : decode b_M_init 215 = .ok (.iconst 4, 1) := by decide +kernel
theorem d_M_init_216 : decode b_M_init 216 = .ok (.if_icmp .ge 17, 3) := by decide +kernel
theorem d_M_init_219 : decode b_M_init 219 = .ok (.aload_n 0, 1) := by decide +kernel
theorem d_M_init_220 : decode b_M_init 220 = .ok (.getfield 60, 3) := by decide +kernel
theorem d_M_init_223 : decode b_M_init 223 = .ok (.iload_n 1, 1) := by decide +kernel
theorem d_M_init_224 : decode b_M_init 224 = .ok (.bipush 30, 2) := by decide +kernel
theorem d_M_init_226 : decode b_M_init 226 = .ok (.iastore, 1) := by decide +kernel
theorem d_M_init_227 : decode b_M_init 227 = .ok (.iinc 1 1, 3) := by decide +kernel
theorem d_M_init_230 : decode b_M_init 230 = .ok (.goto (-16), 3) := by decide +kernel
theorem d_M_init_233 : decode b_M_init 233 = .ok (.return_, 1) := by decide +kernel
theorem cal_M_init : am_cal y_M_init b_M_init 2 ((Option.none : Option FieldType)) 0 := ⟨Or.inl wx_659, wx_6, by decide, by decide +kernel⟩
abbrev y_M_thrown : MethodName := ⟨"BillSharesModel", "thrown", "()I"⟩
abbrev b_M_thrown : ByteArray := prog_6_method_2_code
theorem d_M_thrown_0 : decode b_M_thrown 0 = .ok (.aload_n 0, 1) := by decide +kernel
theorem d_M_thrown_1 : decode b_M_thrown 1 = .ok (.getfield 87, 3) := by decide +kernel
theorem d_M_thrown_4 : decode b_M_thrown 4 = .ok (.ireturn, 1) := by decide +kernel
theorem cal_M_thrown : am_cal y_M_thrown b_M_thrown 1 ((Option.some FieldType.int)) 0 := ⟨Or.inl wx_750, wx_6, by decide, by decide +kernel⟩
abbrev y_M_flat : MethodName := ⟨"BillSharesModel", "flat", "(II)I"⟩
abbrev b_M_flat : ByteArray := prog_6_method_8_code
theorem d_M_flat_0 : decode b_M_flat 0 = .ok (.aload_n 0, 1) := by decide +kernel
theorem d_M_flat_1 : decode b_M_flat 1 = .ok (.iload_n 1, 1) := by decide +kernel
theorem d_M_flat_2 : decode b_M_flat 2 = .ok (.iconst 1, 1) := by decide +kernel
theorem d_M_flat_3 : decode b_M_flat 3 = .ok (.sipush 1000, 3) := by decide +kernel
theorem d_M_flat_6 : decode b_M_flat 6 = .ok (.invokestatic 92, 3) := by decide +kernel
theorem d_M_flat_9 : decode b_M_flat 9 = .ok (.ifCond .eq 17, 3) := by decide +kernel
theorem d_M_flat_12 : decode b_M_flat 12 = .ok (.iload_n 2, 1) := by decide +kernel
theorem d_M_flat_13 : decode b_M_flat 13 = .ok (.iconst 0, 1) := by decide +kernel
theorem d_M_flat_14 : decode b_M_flat 14 = .ok (.bipush 99, 2) := by decide +kernel
theorem d_M_flat_16 : decode b_M_flat 16 = .ok (.invokestatic 92, 3) := by decide +kernel
theorem d_M_flat_19 : decode b_M_flat 19 = .ok (.ifCond .eq 7, 3) := by decide +kernel
theorem d_M_flat_22 : decode b_M_flat 22 = .ok (.iconst 1, 1) := by decide +kernel
theorem d_M_flat_23 : decode b_M_flat 23 = .ok (.goto 4, 3) := by decide +kernel
theorem d_M_flat_26 : decode b_M_flat 26 = .ok (.iconst 0, 1) := by decide +kernel
theorem d_M_flat_27 : decode b_M_flat 27 = .ok (.aload_n 0, 1) := by decide +kernel
theorem d_M_flat_28 : decode b_M_flat 28 = .ok (.getfield 96, 3) := by decide +kernel
theorem d_M_flat_31 : decode b_M_flat 31 = .ok (.bipush 20, 2) := by decide +kernel
theorem d_M_flat_33 : decode b_M_flat 33 = .ok (.if_icmp .ge 7, 3) := by decide +kernel
theorem d_M_flat_36 : decode b_M_flat 36 = .ok (.iconst 1, 1) := by decide +kernel
theorem d_M_flat_37 : decode b_M_flat 37 = .ok (.goto 4, 3) := by decide +kernel
theorem d_M_flat_40 : decode b_M_flat 40 = .ok (.iconst 0, 1) := by decide +kernel
theorem d_M_flat_41 : decode b_M_flat 41 = .ok (.invokevirtual 102, 3) := by decide +kernel
theorem d_M_flat_44 : decode b_M_flat 44 = .ok (.ifCond .ne 5, 3) := by decide +kernel
theorem d_M_flat_47 : decode b_M_flat 47 = .ok (.iconst 0, 1) := by decide +kernel
theorem d_M_flat_48 : decode b_M_flat 48 = .ok (.ireturn, 1) := by decide +kernel
theorem d_M_flat_49 : decode b_M_flat 49 = .ok (.aload_n 0, 1) := by decide +kernel
theorem d_M_flat_50 : decode b_M_flat 50 = .ok (.getfield 7, 3) := by decide +kernel
theorem d_M_flat_53 : decode b_M_flat 53 = .ok (.aload_n 0, 1) := by decide +kernel
theorem d_M_flat_54 : decode b_M_flat 54 = .ok (.getfield 96, 3) := by decide +kernel
theorem d_M_flat_57 : decode b_M_flat 57 = .ok (.iload_n 1, 1) := by decide +kernel
theorem d_M_flat_58 : decode b_M_flat 58 = .ok (.iastore, 1) := by decide +kernel
theorem d_M_flat_59 : decode b_M_flat 59 = .ok (.aload_n 0, 1) := by decide +kernel
theorem d_M_flat_60 : decode b_M_flat 60 = .ok (.getfield 13, 3) := by decide +kernel
theorem d_M_flat_63 : decode b_M_flat 63 = .ok (.aload_n 0, 1) := by decide +kernel
theorem d_M_flat_64 : decode b_M_flat 64 = .ok (.getfield 96, 3) := by decide +kernel
theorem d_M_flat_67 : decode b_M_flat 67 = .ok (.iload_n 2, 1) := by decide +kernel
theorem d_M_flat_68 : decode b_M_flat 68 = .ok (.iastore, 1) := by decide +kernel
theorem d_M_flat_69 : decode b_M_flat 69 = .ok (.aload_n 0, 1) := by decide +kernel
theorem d_M_flat_70 : decode b_M_flat 70 = .ok (.getfield 16, 3) := by decide +kernel
theorem d_M_flat_73 : decode b_M_flat 73 = .ok (.aload_n 0, 1) := by decide +kernel
theorem d_M_flat_74 : decode b_M_flat 74 = .ok (.getfield 96, 3) := by decide +kernel
theorem d_M_flat_77 : decode b_M_flat 77 = .ok (.iconst 1, 1) := by decide +kernel
theorem d_M_flat_78 : decode b_M_flat 78 = .ok (.iastore, 1) := by decide +kernel
theorem d_M_flat_79 : decode b_M_flat 79 = .ok (.aload_n 0, 1) := by decide +kernel
theorem d_M_flat_80 : decode b_M_flat 80 = .ok (.dup, 1) := by decide +kernel
theorem d_M_flat_81 : decode b_M_flat 81 = .ok (.getfield 96, 3) := by decide +kernel
theorem d_M_flat_84 : decode b_M_flat 84 = .ok (.iconst 1, 1) := by decide +kernel
theorem d_M_flat_85 : decode b_M_flat 85 = .ok (.iadd, 1) := by decide +kernel
theorem d_M_flat_86 : decode b_M_flat 86 = .ok (.putfield 96, 3) := by decide +kernel
theorem d_M_flat_89 : decode b_M_flat 89 = .ok (.aload_n 0, 1) := by decide +kernel
theorem d_M_flat_90 : decode b_M_flat 90 = .ok (.getfield 96, 3) := by decide +kernel
theorem d_M_flat_93 : decode b_M_flat 93 = .ok (.iconst 1, 1) := by decide +kernel
theorem d_M_flat_94 : decode b_M_flat 94 = .ok (.isub, 1) := by decide +kernel
theorem d_M_flat_95 : decode b_M_flat 95 = .ok (.ireturn, 1) := by decide +kernel
theorem cal_M_flat : am_cal y_M_flat b_M_flat 3 ((Option.some FieldType.int)) 2 := ⟨Or.inl wx_754, wx_6, by decide, by decide +kernel⟩
abbrev y_M_isIn : MethodName := ⟨"BillSharesModel", "isIn", "(III)Z"⟩
abbrev b_M_isIn : ByteArray := prog_6_method_4_code
theorem d_M_isIn_0 : decode b_M_isIn 0 = .ok (.iload_n 0, 1) := by decide +kernel
theorem d_M_isIn_1 : decode b_M_isIn 1 = .ok (.iload_n 1, 1) := by decide +kernel
theorem d_M_isIn_2 : decode b_M_isIn 2 = .ok (.if_icmp .lt 12, 3) := by decide +kernel
theorem d_M_isIn_5 : decode b_M_isIn 5 = .ok (.iload_n 0, 1) := by decide +kernel
theorem d_M_isIn_6 : decode b_M_isIn 6 = .ok (.iload_n 2, 1) := by decide +kernel
theorem d_M_isIn_7 : decode b_M_isIn 7 = .ok (.if_icmp .gt 7, 3) := by decide +kernel
theorem d_M_isIn_10 : decode b_M_isIn 10 = .ok (.iconst 1, 1) := by decide +kernel
theorem d_M_isIn_11 : decode b_M_isIn 11 = .ok (.goto 4, 3) := by decide +kernel
theorem d_M_isIn_14 : decode b_M_isIn 14 = .ok (.iconst 0, 1) := by decide +kernel
theorem d_M_isIn_15 : decode b_M_isIn 15 = .ok (.ireturn, 1) := by decide +kernel
theorem cal_M_isIn : am_cal y_M_isIn b_M_isIn 3 ((Option.some FieldType.boolean)) 3 := ⟨Or.inl wx_757, wx_6, by decide, by decide +kernel⟩
abbrev y_M_allows : MethodName := ⟨"BillSharesModel", "allows", "(ZZ)Z"⟩
abbrev b_M_allows : ByteArray := prog_6_method_3_code
theorem d_M_allows_0 : decode b_M_allows 0 = .ok (.aload_n 0, 1) := by decide +kernel
theorem d_M_allows_1 : decode b_M_allows 1 = .ok (.iload_n 1, 1) := by decide +kernel
theorem d_M_allows_2 : decode b_M_allows 2 = .ok (.ifCond .ne 7, 3) := by decide +kernel
theorem d_M_allows_5 : decode b_M_allows 5 = .ok (.iconst 1, 1) := by decide +kernel
theorem d_M_allows_6 : decode b_M_allows 6 = .ok (.goto 12, 3) := by decide +kernel
theorem d_M_allows_9 : decode b_M_allows 9 = .ok (.iload_n 2, 1) := by decide +kernel
theorem d_M_allows_10 : decode b_M_allows 10 = .ok (.ifCond .ne 7, 3) := by decide +kernel
theorem d_M_allows_13 : decode b_M_allows 13 = .ok (.iconst 2, 1) := by decide +kernel
theorem d_M_allows_14 : decode b_M_allows 14 = .ok (.goto 4, 3) := by decide +kernel
theorem d_M_allows_17 : decode b_M_allows 17 = .ok (.iconst 0, 1) := by decide +kernel
theorem d_M_allows_18 : decode b_M_allows 18 = .ok (.putfield 87, 3) := by decide +kernel
theorem d_M_allows_21 : decode b_M_allows 21 = .ok (.aload_n 0, 1) := by decide +kernel
theorem d_M_allows_22 : decode b_M_allows 22 = .ok (.getfield 87, 3) := by decide +kernel
theorem d_M_allows_25 : decode b_M_allows 25 = .ok (.ifCond .ne 7, 3) := by decide +kernel
theorem d_M_allows_28 : decode b_M_allows 28 = .ok (.iconst 1, 1) := by decide +kernel
theorem d_M_allows_29 : decode b_M_allows 29 = .ok (.goto 4, 3) := by decide +kernel
theorem d_M_allows_32 : decode b_M_allows 32 = .ok (.iconst 0, 1) := by decide +kernel
theorem d_M_allows_33 : decode b_M_allows 33 = .ok (.ireturn, 1) := by decide +kernel
theorem cal_M_allows : am_cal y_M_allows b_M_allows 3 ((Option.some FieldType.boolean)) 2 := ⟨Or.inl wx_761, wx_6, by decide, by decide +kernel⟩
abbrev y_M_meter : MethodName := ⟨"BillSharesModel", "meter", "(IIIII)I"⟩
abbrev b_M_meter : ByteArray := prog_6_method_9_code
theorem d_M_meter_0 : decode b_M_meter 0 = .ok (.aload_n 0, 1) := by decide +kernel
theorem d_M_meter_1 : decode b_M_meter 1 = .ok (.iload_n 1, 1) := by decide +kernel
theorem d_M_meter_2 : decode b_M_meter 2 = .ok (.invokevirtual 106, 3) := by decide +kernel
theorem d_M_meter_5 : decode b_M_meter 5 = .ok (.ifCond .eq 51, 3) := by decide +kernel
theorem d_M_meter_8 : decode b_M_meter 8 = .ok (.iload_n 2, 1) := by decide +kernel
theorem d_M_meter_9 : decode b_M_meter 9 = .ok (.iconst 0, 1) := by decide +kernel
theorem d_M_meter_10 : decode b_M_meter 10 = .ok (.iconst 3, 1) := by decide +kernel
theorem d_M_meter_11 : decode b_M_meter 11 = .ok (.invokestatic 92, 3) := by decide +kernel
theorem d_M_meter_14 : decode b_M_meter 14 = .ok (.ifCond .eq 42, 3) := by decide +kernel
theorem d_M_meter_17 : decode b_M_meter 17 = .ok (.iload_n 3, 1) := by decide +kernel
theorem d_M_meter_18 : decode b_M_meter 18 = .ok (.iconst 1, 1) := by decide +kernel
theorem d_M_meter_19 : decode b_M_meter 19 = .ok (.sipush 1000, 3) := by decide +kernel
theorem d_M_meter_22 : decode b_M_meter 22 = .ok (.invokestatic 92, 3) := by decide +kernel
theorem d_M_meter_25 : decode b_M_meter 25 = .ok (.ifCond .eq 31, 3) := by decide +kernel
theorem d_M_meter_28 : decode b_M_meter 28 = .ok (.iload 4, 2) := by decide +kernel
theorem d_M_meter_30 : decode b_M_meter 30 = .ok (.iconst 1, 1) := by decide +kernel
theorem d_M_meter_31 : decode b_M_meter 31 = .ok (.sipush 1000, 3) := by decide +kernel
theorem d_M_meter_34 : decode b_M_meter 34 = .ok (.invokestatic 92, 3) := by decide +kernel
theorem d_M_meter_37 : decode b_M_meter 37 = .ok (.ifCond .eq 19, 3) := by decide +kernel
theorem d_M_meter_40 : decode b_M_meter 40 = .ok (.iload 5, 2) := by decide +kernel
theorem d_M_meter_42 : decode b_M_meter 42 = .ok (.iconst 0, 1) := by decide +kernel
theorem d_M_meter_43 : decode b_M_meter 43 = .ok (.sipush 3649, 3) := by decide +kernel
theorem d_M_meter_46 : decode b_M_meter 46 = .ok (.invokestatic 92, 3) := by decide +kernel
theorem d_M_meter_49 : decode b_M_meter 49 = .ok (.ifCond .eq 7, 3) := by decide +kernel
theorem d_M_meter_52 : decode b_M_meter 52 = .ok (.iconst 1, 1) := by decide +kernel
theorem d_M_meter_53 : decode b_M_meter 53 = .ok (.goto 4, 3) := by decide +kernel
theorem d_M_meter_56 : decode b_M_meter 56 = .ok (.iconst 0, 1) := by decide +kernel
theorem d_M_meter_57 : decode b_M_meter 57 = .ok (.istore 6, 2) := by decide +kernel
theorem d_M_meter_59 : decode b_M_meter 59 = .ok (.aload_n 0, 1) := by decide +kernel
theorem d_M_meter_60 : decode b_M_meter 60 = .ok (.iload 6, 2) := by decide +kernel
theorem d_M_meter_62 : decode b_M_meter 62 = .ok (.aload_n 0, 1) := by decide +kernel
theorem d_M_meter_63 : decode b_M_meter 63 = .ok (.getfield 99, 3) := by decide +kernel
theorem d_M_meter_66 : decode b_M_meter 66 = .ok (.bipush 60, 2) := by decide +kernel
theorem d_M_meter_68 : decode b_M_meter 68 = .ok (.if_icmp .ge 7, 3) := by decide +kernel
theorem d_M_meter_71 : decode b_M_meter 71 = .ok (.iconst 1, 1) := by decide +kernel
theorem d_M_meter_72 : decode b_M_meter 72 = .ok (.goto 4, 3) := by decide +kernel
theorem d_M_meter_75 : decode b_M_meter 75 = .ok (.iconst 0, 1) := by decide +kernel
theorem d_M_meter_76 : decode b_M_meter 76 = .ok (.invokevirtual 102, 3) := by decide +kernel
theorem d_M_meter_79 : decode b_M_meter 79 = .ok (.ifCond .ne 5, 3) := by decide +kernel
theorem d_M_meter_82 : decode b_M_meter 82 = .ok (.iconst 0, 1) := by decide +kernel
theorem d_M_meter_83 : decode b_M_meter 83 = .ok (.ireturn, 1) := by decide +kernel
theorem d_M_meter_84 : decode b_M_meter 84 = .ok (.aload_n 0, 1) := by decide +kernel
theorem d_M_meter_85 : decode b_M_meter 85 = .ok (.getfield 26, 3) := by decide +kernel
theorem d_M_meter_88 : decode b_M_meter 88 = .ok (.aload_n 0, 1) := by decide +kernel
theorem d_M_meter_89 : decode b_M_meter 89 = .ok (.getfield 99, 3) := by decide +kernel
theorem d_M_meter_92 : decode b_M_meter 92 = .ok (.iload_n 1, 1) := by decide +kernel
theorem d_M_meter_93 : decode b_M_meter 93 = .ok (.iastore, 1) := by decide +kernel
theorem d_M_meter_94 : decode b_M_meter 94 = .ok (.aload_n 0, 1) := by decide +kernel
theorem d_M_meter_95 : decode b_M_meter 95 = .ok (.getfield 29, 3) := by decide +kernel
theorem d_M_meter_98 : decode b_M_meter 98 = .ok (.aload_n 0, 1) := by decide +kernel
theorem d_M_meter_99 : decode b_M_meter 99 = .ok (.getfield 99, 3) := by decide +kernel
theorem d_M_meter_102 : decode b_M_meter 102 = .ok (.iload_n 2, 1) := by decide +kernel
theorem d_M_meter_103 : decode b_M_meter 103 = .ok (.iastore, 1) := by decide +kernel
theorem d_M_meter_104 : decode b_M_meter 104 = .ok (.aload_n 0, 1) := by decide +kernel
theorem d_M_meter_105 : decode b_M_meter 105 = .ok (.getfield 32, 3) := by decide +kernel
theorem d_M_meter_108 : decode b_M_meter 108 = .ok (.aload_n 0, 1) := by decide +kernel
theorem d_M_meter_109 : decode b_M_meter 109 = .ok (.getfield 99, 3) := by decide +kernel
theorem d_M_meter_112 : decode b_M_meter 112 = .ok (.iload_n 3, 1) := by decide +kernel
theorem d_M_meter_113 : decode b_M_meter 113 = .ok (.iastore, 1) := by decide +kernel
theorem d_M_meter_114 : decode b_M_meter 114 = .ok (.aload_n 0, 1) := by decide +kernel
theorem d_M_meter_115 : decode b_M_meter 115 = .ok (.getfield 35, 3) := by decide +kernel
theorem d_M_meter_118 : decode b_M_meter 118 = .ok (.aload_n 0, 1) := by decide +kernel
theorem d_M_meter_119 : decode b_M_meter 119 = .ok (.getfield 99, 3) := by decide +kernel
theorem d_M_meter_122 : decode b_M_meter 122 = .ok (.iload 4, 2) := by decide +kernel
theorem d_M_meter_124 : decode b_M_meter 124 = .ok (.iastore, 1) := by decide +kernel
theorem d_M_meter_125 : decode b_M_meter 125 = .ok (.aload_n 0, 1) := by decide +kernel
theorem d_M_meter_126 : decode b_M_meter 126 = .ok (.getfield 38, 3) := by decide +kernel
theorem d_M_meter_129 : decode b_M_meter 129 = .ok (.aload_n 0, 1) := by decide +kernel
theorem d_M_meter_130 : decode b_M_meter 130 = .ok (.getfield 99, 3) := by decide +kernel
theorem d_M_meter_133 : decode b_M_meter 133 = .ok (.iload 5, 2) := by decide +kernel
theorem d_M_meter_135 : decode b_M_meter 135 = .ok (.iastore, 1) := by decide +kernel
theorem d_M_meter_136 : decode b_M_meter 136 = .ok (.aload_n 0, 1) := by decide +kernel
theorem d_M_meter_137 : decode b_M_meter 137 = .ok (.dup, 1) := by decide +kernel
theorem d_M_meter_138 : decode b_M_meter 138 = .ok (.getfield 99, 3) := by decide +kernel
theorem d_M_meter_141 : decode b_M_meter 141 = .ok (.iconst 1, 1) := by decide +kernel
theorem d_M_meter_142 : decode b_M_meter 142 = .ok (.iadd, 1) := by decide +kernel
theorem d_M_meter_143 : decode b_M_meter 143 = .ok (.putfield 99, 3) := by decide +kernel
theorem d_M_meter_146 : decode b_M_meter 146 = .ok (.aload_n 0, 1) := by decide +kernel
theorem d_M_meter_147 : decode b_M_meter 147 = .ok (.getfield 99, 3) := by decide +kernel
theorem d_M_meter_150 : decode b_M_meter 150 = .ok (.iconst 1, 1) := by decide +kernel
theorem d_M_meter_151 : decode b_M_meter 151 = .ok (.isub, 1) := by decide +kernel
theorem d_M_meter_152 : decode b_M_meter 152 = .ok (.ireturn, 1) := by decide +kernel
theorem cal_M_meter : am_cal y_M_meter b_M_meter 7 ((Option.some FieldType.int)) 5 := ⟨Or.inl wx_765, wx_6, by decide, by decide +kernel⟩
abbrev y_M_isFlat : MethodName := ⟨"BillSharesModel", "isFlat", "(I)Z"⟩
abbrev b_M_isFlat : ByteArray := prog_6_method_6_code
theorem d_M_isFlat_0 : decode b_M_isFlat 0 = .ok (.iload_n 1, 1) := by decide +kernel
theorem d_M_isFlat_1 : decode b_M_isFlat 1 = .ok (.ifCond .lt 15, 3) := by decide +kernel
theorem d_M_isFlat_4 : decode b_M_isFlat 4 = .ok (.iload_n 1, 1) := by decide +kernel
theorem d_M_isFlat_5 : decode b_M_isFlat 5 = .ok (.aload_n 0, 1) := by decide +kernel
theorem d_M_isFlat_6 : decode b_M_isFlat 6 = .ok (.getfield 96, 3) := by decide +kernel
theorem d_M_isFlat_9 : decode b_M_isFlat 9 = .ok (.if_icmp .ge 7, 3) := by decide +kernel
theorem d_M_isFlat_12 : decode b_M_isFlat 12 = .ok (.iconst 1, 1) := by decide +kernel
theorem d_M_isFlat_13 : decode b_M_isFlat 13 = .ok (.goto 4, 3) := by decide +kernel
theorem d_M_isFlat_16 : decode b_M_isFlat 16 = .ok (.iconst 0, 1) := by decide +kernel
theorem d_M_isFlat_17 : decode b_M_isFlat 17 = .ok (.ireturn, 1) := by decide +kernel
theorem cal_M_isFlat : am_cal y_M_isFlat b_M_isFlat 2 ((Option.some FieldType.boolean)) 1 := ⟨Or.inl wx_769, wx_6, by decide, by decide +kernel⟩
abbrev y_M_reading : MethodName := ⟨"BillSharesModel", "reading", "(III)I"⟩
abbrev b_M_reading : ByteArray := prog_6_method_11_code
theorem d_M_reading_0 : decode b_M_reading 0 = .ok (.aload_n 0, 1) := by decide +kernel
theorem d_M_reading_1 : decode b_M_reading 1 = .ok (.iload_n 1, 1) := by decide +kernel
theorem d_M_reading_2 : decode b_M_reading 2 = .ok (.iload_n 2, 1) := by decide +kernel
theorem d_M_reading_3 : decode b_M_reading 3 = .ok (.iload_n 3, 1) := by decide +kernel
theorem d_M_reading_4 : decode b_M_reading 4 = .ok (.iload_n 3, 1) := by decide +kernel
theorem d_M_reading_5 : decode b_M_reading 5 = .ok (.iconst 0, 1) := by decide +kernel
theorem d_M_reading_6 : decode b_M_reading 6 = .ok (.invokevirtual 116, 3) := by decide +kernel
theorem d_M_reading_9 : decode b_M_reading 9 = .ok (.ireturn, 1) := by decide +kernel
theorem cal_M_reading : am_cal y_M_reading b_M_reading 4 ((Option.some FieldType.int)) 3 := ⟨Or.inl wx_773, wx_6, by decide, by decide +kernel⟩
abbrev y_M_put : MethodName := ⟨"BillSharesModel", "put", "(IIIIZ)I"⟩
abbrev b_M_put : ByteArray := prog_6_method_10_code
theorem d_M_put_0 : decode b_M_put 0 = .ok (.aload_n 0, 1) := by decide +kernel
theorem d_M_put_1 : decode b_M_put 1 = .ok (.iload_n 1, 1) := by decide +kernel
theorem d_M_put_2 : decode b_M_put 2 = .ok (.invokevirtual 110, 3) := by decide +kernel
theorem d_M_put_5 : decode b_M_put 5 = .ok (.ifCond .eq 19, 3) := by decide +kernel
theorem d_M_put_8 : decode b_M_put 8 = .ok (.bipush 40, 2) := by decide +kernel
theorem d_M_put_10 : decode b_M_put 10 = .ok (.iload_n 1, 1) := by decide +kernel
theorem d_M_put_11 : decode b_M_put 11 = .ok (.imul, 1) := by decide +kernel
theorem d_M_put_12 : decode b_M_put 12 = .ok (.aload_n 0, 1) := by decide +kernel
theorem d_M_put_13 : decode b_M_put 13 = .ok (.getfield 41, 3) := by decide +kernel
theorem d_M_put_16 : decode b_M_put 16 = .ok (.iload_n 1, 1) := by decide +kernel
theorem d_M_put_17 : decode b_M_put 17 = .ok (.iaload, 1) := by decide +kernel
theorem d_M_put_18 : decode b_M_put 18 = .ok (.iadd, 1) := by decide +kernel
theorem d_M_put_19 : decode b_M_put 19 = .ok (.iconst 1, 1) := by decide +kernel
theorem d_M_put_20 : decode b_M_put 20 = .ok (.isub, 1) := by decide +kernel
theorem d_M_put_21 : decode b_M_put 21 = .ok (.goto 4, 3) := by decide +kernel
theorem d_M_put_24 : decode b_M_put 24 = .ok (.iconst 0, 1) := by decide +kernel
theorem d_M_put_25 : decode b_M_put 25 = .ok (.istore 6, 2) := by decide +kernel
theorem d_M_put_27 : decode b_M_put 27 = .ok (.aload_n 0, 1) := by decide +kernel
theorem d_M_put_28 : decode b_M_put 28 = .ok (.iload_n 1, 1) := by decide +kernel
theorem d_M_put_29 : decode b_M_put 29 = .ok (.invokevirtual 110, 3) := by decide +kernel
theorem d_M_put_32 : decode b_M_put 32 = .ok (.ifCond .eq 33, 3) := by decide +kernel
theorem d_M_put_35 : decode b_M_put 35 = .ok (.iload_n 2, 1) := by decide +kernel
theorem d_M_put_36 : decode b_M_put 36 = .ok (.iconst 0, 1) := by decide +kernel
theorem d_M_put_37 : decode b_M_put 37 = .ok (.sipush 3649, 3) := by decide +kernel
theorem d_M_put_40 : decode b_M_put 40 = .ok (.invokestatic 92, 3) := by decide +kernel
theorem d_M_put_43 : decode b_M_put 43 = .ok (.ifCond .eq 22, 3) := by decide +kernel
theorem d_M_put_46 : decode b_M_put 46 = .ok (.iload_n 3, 1) := by decide +kernel
theorem d_M_put_47 : decode b_M_put 47 = .ok (.invokestatic 113, 3) := by decide +kernel
theorem d_M_put_50 : decode b_M_put 50 = .ok (.ifCond .eq 15, 3) := by decide +kernel
theorem d_M_put_53 : decode b_M_put 53 = .ok (.iload 4, 2) := by decide +kernel
theorem d_M_put_55 : decode b_M_put 55 = .ok (.invokestatic 113, 3) := by decide +kernel
theorem d_M_put_58 : decode b_M_put 58 = .ok (.ifCond .eq 7, 3) := by decide +kernel
theorem d_M_put_61 : decode b_M_put 61 = .ok (.iconst 1, 1) := by decide +kernel
theorem d_M_put_62 : decode b_M_put 62 = .ok (.goto 4, 3) := by decide +kernel
theorem d_M_put_65 : decode b_M_put 65 = .ok (.iconst 0, 1) := by decide +kernel
theorem d_M_put_66 : decode b_M_put 66 = .ok (.istore 7, 2) := by decide +kernel
theorem d_M_put_68 : decode b_M_put 68 = .ok (.iload 7, 2) := by decide +kernel
theorem d_M_put_70 : decode b_M_put 70 = .ok (.ifCond .eq 38, 3) := by decide +kernel
theorem d_M_put_73 : decode b_M_put 73 = .ok (.aload_n 0, 1) := by decide +kernel
theorem d_M_put_74 : decode b_M_put 74 = .ok (.getfield 41, 3) := by decide +kernel
theorem d_M_put_77 : decode b_M_put 77 = .ok (.iload_n 1, 1) := by decide +kernel
theorem d_M_put_78 : decode b_M_put 78 = .ok (.iaload, 1) := by decide +kernel
theorem d_M_put_79 : decode b_M_put 79 = .ok (.ifCond .eq 25, 3) := by decide +kernel
theorem d_M_put_82 : decode b_M_put 82 = .ok (.aload_n 0, 1) := by decide +kernel
theorem d_M_put_83 : decode b_M_put 83 = .ok (.getfield 44, 3) := by decide +kernel
theorem d_M_put_86 : decode b_M_put 86 = .ok (.iload 6, 2) := by decide +kernel
theorem d_M_put_88 : decode b_M_put 88 = .ok (.iaload, 1) := by decide +kernel
theorem d_M_put_89 : decode b_M_put 89 = .ok (.iload_n 2, 1) := by decide +kernel
theorem d_M_put_90 : decode b_M_put 90 = .ok (.if_icmp .ge 18, 3) := by decide +kernel
theorem d_M_put_93 : decode b_M_put 93 = .ok (.aload_n 0, 1) := by decide +kernel
theorem d_M_put_94 : decode b_M_put 94 = .ok (.getfield 50, 3) := by decide +kernel
theorem d_M_put_97 : decode b_M_put 97 = .ok (.iload 6, 2) := by decide +kernel
theorem d_M_put_99 : decode b_M_put 99 = .ok (.iaload, 1) := by decide +kernel
theorem d_M_put_100 : decode b_M_put 100 = .ok (.iload_n 3, 1) := by decide +kernel
theorem d_M_put_101 : decode b_M_put 101 = .ok (.if_icmp .gt 7, 3) := by decide +kernel
theorem d_M_put_104 : decode b_M_put 104 = .ok (.iconst 1, 1) := by decide +kernel
theorem d_M_put_105 : decode b_M_put 105 = .ok (.goto 4, 3) := by decide +kernel
theorem d_M_put_108 : decode b_M_put 108 = .ok (.iconst 0, 1) := by decide +kernel
theorem d_M_put_109 : decode b_M_put 109 = .ok (.istore 7, 2) := by decide +kernel
theorem d_M_put_111 : decode b_M_put 111 = .ok (.aload_n 0, 1) := by decide +kernel
theorem d_M_put_112 : decode b_M_put 112 = .ok (.iload 7, 2) := by decide +kernel
theorem d_M_put_114 : decode b_M_put 114 = .ok (.iload 7, 2) := by decide +kernel
theorem d_M_put_116 : decode b_M_put 116 = .ok (.ifCond .eq 18, 3) := by decide +kernel
theorem d_M_put_119 : decode b_M_put 119 = .ok (.aload_n 0, 1) := by decide +kernel
theorem d_M_put_120 : decode b_M_put 120 = .ok (.getfield 41, 3) := by decide +kernel
theorem d_M_put_123 : decode b_M_put 123 = .ok (.iload_n 1, 1) := by decide +kernel
theorem d_M_put_124 : decode b_M_put 124 = .ok (.iaload, 1) := by decide +kernel
theorem d_M_put_125 : decode b_M_put 125 = .ok (.bipush 40, 2) := by decide +kernel
theorem d_M_put_127 : decode b_M_put 127 = .ok (.if_icmp .ge 7, 3) := by decide +kernel
theorem d_M_put_130 : decode b_M_put 130 = .ok (.iconst 1, 1) := by decide +kernel
theorem d_M_put_131 : decode b_M_put 131 = .ok (.goto 4, 3) := by decide +kernel
theorem d_M_put_134 : decode b_M_put 134 = .ok (.iconst 0, 1) := by decide +kernel
theorem d_M_put_135 : decode b_M_put 135 = .ok (.invokevirtual 102, 3) := by decide +kernel
theorem d_M_put_138 : decode b_M_put 138 = .ok (.ifCond .ne 5, 3) := by decide +kernel
theorem d_M_put_141 : decode b_M_put 141 = .ok (.iconst 0, 1) := by decide +kernel
theorem d_M_put_142 : decode b_M_put 142 = .ok (.ireturn, 1) := by decide +kernel
theorem d_M_put_143 : decode b_M_put 143 = .ok (.aload_n 0, 1) := by decide +kernel
theorem d_M_put_144 : decode b_M_put 144 = .ok (.getfield 44, 3) := by decide +kernel
theorem d_M_put_147 : decode b_M_put 147 = .ok (.iload 6, 2) := by decide +kernel
theorem d_M_put_149 : decode b_M_put 149 = .ok (.iconst 1, 1) := by decide +kernel
theorem d_M_put_150 : decode b_M_put 150 = .ok (.iadd, 1) := by decide +kernel
theorem d_M_put_151 : decode b_M_put 151 = .ok (.iload_n 2, 1) := by decide +kernel
theorem d_M_put_152 : decode b_M_put 152 = .ok (.iastore, 1) := by decide +kernel
theorem d_M_put_153 : decode b_M_put 153 = .ok (.aload_n 0, 1) := by decide +kernel
theorem d_M_put_154 : decode b_M_put 154 = .ok (.getfield 47, 3) := by decide +kernel
theorem d_M_put_157 : decode b_M_put 157 = .ok (.iload 6, 2) := by decide +kernel
theorem d_M_put_159 : decode b_M_put 159 = .ok (.iconst 1, 1) := by decide +kernel
theorem d_M_put_160 : decode b_M_put 160 = .ok (.iadd, 1) := by decide +kernel
theorem d_M_put_161 : decode b_M_put 161 = .ok (.iload_n 3, 1) := by decide +kernel
theorem d_M_put_162 : decode b_M_put 162 = .ok (.iastore, 1) := by decide +kernel
theorem d_M_put_163 : decode b_M_put 163 = .ok (.aload_n 0, 1) := by decide +kernel
theorem d_M_put_164 : decode b_M_put 164 = .ok (.getfield 50, 3) := by decide +kernel
theorem d_M_put_167 : decode b_M_put 167 = .ok (.iload 6, 2) := by decide +kernel
theorem d_M_put_169 : decode b_M_put 169 = .ok (.iconst 1, 1) := by decide +kernel
theorem d_M_put_170 : decode b_M_put 170 = .ok (.iadd, 1) := by decide +kernel
theorem d_M_put_171 : decode b_M_put 171 = .ok (.iload 4, 2) := by decide +kernel
theorem d_M_put_173 : decode b_M_put 173 = .ok (.iastore, 1) := by decide +kernel
theorem d_M_put_174 : decode b_M_put 174 = .ok (.aload_n 0, 1) := by decide +kernel
theorem d_M_put_175 : decode b_M_put 175 = .ok (.getfield 53, 3) := by decide +kernel
theorem d_M_put_178 : decode b_M_put 178 = .ok (.iload 6, 2) := by decide +kernel
theorem d_M_put_180 : decode b_M_put 180 = .ok (.iconst 1, 1) := by decide +kernel
theorem d_M_put_181 : decode b_M_put 181 = .ok (.iadd, 1) := by decide +kernel
theorem d_M_put_182 : decode b_M_put 182 = .ok (.iload 5, 2) := by decide +kernel
theorem d_M_put_184 : decode b_M_put 184 = .ok (.bastore, 1) := by decide +kernel
theorem d_M_put_185 : decode b_M_put 185 = .ok (.aload_n 0, 1) := by decide +kernel
theorem d_M_put_186 : decode b_M_put 186 = .ok (.getfield 41, 3) := by decide +kernel
theorem d_M_put_189 : decode b_M_put 189 = .ok (.iload_n 1, 1) := by decide +kernel
theorem d_M_put_190 : decode b_M_put 190 = .ok (.dup2, 1) := by decide +kernel
theorem d_M_put_191 : decode b_M_put 191 = .ok (.iaload, 1) := by decide +kernel
theorem d_M_put_192 : decode b_M_put 192 = .ok (.iconst 1, 1) := by decide +kernel
theorem d_M_put_193 : decode b_M_put 193 = .ok (.iadd, 1) := by decide +kernel
theorem d_M_put_194 : decode b_M_put 194 = .ok (.iastore, 1) := by decide +kernel
theorem d_M_put_195 : decode b_M_put 195 = .ok (.aload_n 0, 1) := by decide +kernel
theorem d_M_put_196 : decode b_M_put 196 = .ok (.getfield 41, 3) := by decide +kernel
theorem d_M_put_199 : decode b_M_put 199 = .ok (.iload_n 1, 1) := by decide +kernel
theorem d_M_put_200 : decode b_M_put 200 = .ok (.iaload, 1) := by decide +kernel
theorem d_M_put_201 : decode b_M_put 201 = .ok (.ireturn, 1) := by decide +kernel
theorem cal_M_put : am_cal y_M_put b_M_put 8 ((Option.some FieldType.int)) 5 := ⟨Or.inl wx_777, wx_6, by decide, by decide +kernel⟩
abbrev y_M_isMeter : MethodName := ⟨"BillSharesModel", "isMeter", "(I)Z"⟩
abbrev b_M_isMeter : ByteArray := prog_6_method_7_code
theorem d_M_isMeter_0 : decode b_M_isMeter 0 = .ok (.iload_n 1, 1) := by decide +kernel
theorem d_M_isMeter_1 : decode b_M_isMeter 1 = .ok (.ifCond .lt 15, 3) := by decide +kernel
theorem d_M_isMeter_4 : decode b_M_isMeter 4 = .ok (.iload_n 1, 1) := by decide +kernel
theorem d_M_isMeter_5 : decode b_M_isMeter 5 = .ok (.aload_n 0, 1) := by decide +kernel
theorem d_M_isMeter_6 : decode b_M_isMeter 6 = .ok (.getfield 99, 3) := by decide +kernel
theorem d_M_isMeter_9 : decode b_M_isMeter 9 = .ok (.if_icmp .ge 7, 3) := by decide +kernel
theorem d_M_isMeter_12 : decode b_M_isMeter 12 = .ok (.iconst 1, 1) := by decide +kernel
theorem d_M_isMeter_13 : decode b_M_isMeter 13 = .ok (.goto 4, 3) := by decide +kernel
theorem d_M_isMeter_16 : decode b_M_isMeter 16 = .ok (.iconst 0, 1) := by decide +kernel
theorem d_M_isMeter_17 : decode b_M_isMeter 17 = .ok (.ireturn, 1) := by decide +kernel
theorem cal_M_isMeter : am_cal y_M_isMeter b_M_isMeter 2 ((Option.some FieldType.boolean)) 1 := ⟨Or.inl wx_781, wx_6, by decide, by decide +kernel⟩
abbrev y_M_isValue : MethodName := ⟨"BillSharesModel", "isValue", "(I)Z"⟩
abbrev b_M_isValue : ByteArray := prog_6_method_5_code
theorem d_M_isValue_0 : decode b_M_isValue 0 = .ok (.iload_n 0, 1) := by decide +kernel
theorem d_M_isValue_1 : decode b_M_isValue 1 = .ok (.iconst 0, 1) := by decide +kernel
theorem d_M_isValue_2 : decode b_M_isValue 2 = .ok (.ldc 91, 2) := by decide +kernel
theorem d_M_isValue_4 : decode b_M_isValue 4 = .ok (.invokestatic 92, 3) := by decide +kernel
theorem d_M_isValue_7 : decode b_M_isValue 7 = .ok (.ireturn, 1) := by decide +kernel
theorem cal_M_isValue : am_cal y_M_isValue b_M_isValue 1 ((Option.some FieldType.boolean)) 1 := ⟨Or.inl wx_784, wx_6, by decide, by decide +kernel⟩
abbrev y_M_changed : MethodName := ⟨"BillSharesModel", "changed", "(IIII)I"⟩
abbrev b_M_changed : ByteArray := prog_6_method_12_code
theorem d_M_changed_0 : decode b_M_changed 0 = .ok (.aload_n 0, 1) := by decide +kernel
theorem d_M_changed_1 : decode b_M_changed 1 = .ok (.iload_n 1, 1) := by decide +kernel
theorem d_M_changed_2 : decode b_M_changed 2 = .ok (.iload_n 2, 1) := by decide +kernel
theorem d_M_changed_3 : decode b_M_changed 3 = .ok (.iload_n 3, 1) := by decide +kernel
theorem d_M_changed_4 : decode b_M_changed 4 = .ok (.iload 4, 2) := by decide +kernel
theorem d_M_changed_6 : decode b_M_changed 6 = .ok (.iconst 1, 1) := by decide +kernel
theorem d_M_changed_7 : decode b_M_changed 7 = .ok (.invokevirtual 116, 3) := by decide +kernel
theorem d_M_changed_10 : decode b_M_changed 10 = .ok (.ireturn, 1) := by decide +kernel
theorem cal_M_changed : am_cal y_M_changed b_M_changed 5 ((Option.some FieldType.int)) 4 := ⟨Or.inl wx_789, wx_6, by decide, by decide +kernel⟩
abbrev y_M_correct : MethodName := ⟨"BillSharesModel", "correct", "(III)I"⟩
abbrev b_M_correct : ByteArray := prog_6_method_13_code
theorem d_M_correct_0 : decode b_M_correct 0 = .ok (.iconst (-1), 1) := by decide +kernel
theorem d_M_correct_1 : decode b_M_correct 1 = .ok (.istore 4, 2) := by decide +kernel
theorem d_M_correct_3 : decode b_M_correct 3 = .ok (.iconst 0, 1) := by decide +kernel
theorem d_M_correct_4 : decode b_M_correct 4 = .ok (.istore 5, 2) := by decide +kernel
theorem d_M_correct_6 : decode b_M_correct 6 = .ok (.aload_n 0, 1) := by decide +kernel
theorem d_M_correct_7 : decode b_M_correct 7 = .ok (.iload_n 1, 1) := by decide +kernel
theorem d_M_correct_8 : decode b_M_correct 8 = .ok (.invokevirtual 110, 3) := by decide +kernel
theorem d_M_correct_11 : decode b_M_correct 11 = .ok (.ifCond .eq 50, 3) := by decide +kernel
theorem d_M_correct_14 : decode b_M_correct 14 = .ok (.iload 5, 2) := by decide +kernel
theorem d_M_correct_16 : decode b_M_correct 16 = .ok (.aload_n 0, 1) := by decide +kernel
theorem d_M_correct_17 : decode b_M_correct 17 = .ok (.getfield 41, 3) := by decide +kernel
theorem d_M_correct_20 : decode b_M_correct 20 = .ok (.iload_n 1, 1) := by decide +kernel
theorem d_M_correct_21 : decode b_M_correct 21 = .ok (.iaload, 1) := by decide +kernel
theorem d_M_correct_22 : decode b_M_correct 22 = .ok (.if_icmp .ge 39, 3) := by decide +kernel
theorem d_M_correct_25 : decode b_M_correct 25 = .ok (.aload_n 0, 1) := by decide +kernel
theorem d_M_correct_26 : decode b_M_correct 26 = .ok (.getfield 44, 3) := by decide +kernel
theorem d_M_correct_29 : decode b_M_correct 29 = .ok (.bipush 40, 2) := by decide +kernel
theorem d_M_correct_31 : decode b_M_correct 31 = .ok (.iload_n 1, 1) := by decide +kernel
theorem d_M_correct_32 : decode b_M_correct 32 = .ok (.imul, 1) := by decide +kernel
theorem d_M_correct_33 : decode b_M_correct 33 = .ok (.iload 5, 2) := by decide +kernel
theorem d_M_correct_35 : decode b_M_correct 35 = .ok (.iadd, 1) := by decide +kernel
theorem d_M_correct_36 : decode b_M_correct 36 = .ok (.iaload, 1) := by decide +kernel
theorem d_M_correct_37 : decode b_M_correct 37 = .ok (.iload_n 2, 1) := by decide +kernel
theorem d_M_correct_38 : decode b_M_correct 38 = .ok (.if_icmp .ne 13, 3) := by decide +kernel
theorem d_M_correct_41 : decode b_M_correct 41 = .ok (.bipush 40, 2) := by decide +kernel
theorem d_M_correct_43 : decode b_M_correct 43 = .ok (.iload_n 1, 1) := by decide +kernel
theorem d_M_correct_44 : decode b_M_correct 44 = .ok (.imul, 1) := by decide +kernel
theorem d_M_correct_45 : decode b_M_correct 45 = .ok (.iload 5, 2) := by decide +kernel
theorem d_M_correct_47 : decode b_M_correct 47 = .ok (.iadd, 1) := by decide +kernel
theorem d_M_correct_48 : decode b_M_correct 48 = .ok (.goto 5, 3) := by decide +kernel
theorem d_M_correct_51 : decode b_M_correct 51 = .ok (.iload 4, 2) := by decide +kernel
theorem d_M_correct_53 : decode b_M_correct 53 = .ok (.istore 4, 2) := by decide +kernel
theorem d_M_correct_55 : decode b_M_correct 55 = .ok (.iinc 5 1, 3) := by decide +kernel
theorem d_M_correct_58 : decode b_M_correct 58 = .ok (.goto (-52), 3) := by decide +kernel
theorem d_M_correct_61 : decode b_M_correct 61 = .ok (.iload 4, 2) := by decide +kernel
theorem d_M_correct_63 : decode b_M_correct 63 = .ok (.ifCond .lt 14, 3) := by decide +kernel
theorem d_M_correct_66 : decode b_M_correct 66 = .ok (.iload_n 3, 1) := by decide +kernel
theorem d_M_correct_67 : decode b_M_correct 67 = .ok (.invokestatic 113, 3) := by decide +kernel
theorem d_M_correct_70 : decode b_M_correct 70 = .ok (.ifCond .eq 7, 3) := by decide +kernel
theorem d_M_correct_73 : decode b_M_correct 73 = .ok (.iconst 1, 1) := by decide +kernel
theorem d_M_correct_74 : decode b_M_correct 74 = .ok (.goto 4, 3) := by decide +kernel
theorem d_M_correct_77 : decode b_M_correct 77 = .ok (.iconst 0, 1) := by decide +kernel
theorem d_M_correct_78 : decode b_M_correct 78 = .ok (.istore 5, 2) := by decide +kernel
theorem d_M_correct_80 : decode b_M_correct 80 = .ok (.iload 5, 2) := by decide +kernel
theorem d_M_correct_82 : decode b_M_correct 82 = .ok (.ifCond .eq 29, 3) := by decide +kernel
theorem d_M_correct_85 : decode b_M_correct 85 = .ok (.iload 4, 2) := by decide +kernel
theorem d_M_correct_87 : decode b_M_correct 87 = .ok (.bipush 40, 2) := by decide +kernel
theorem d_M_correct_89 : decode b_M_correct 89 = .ok (.iload_n 1, 1) := by decide +kernel
theorem d_M_correct_90 : decode b_M_correct 90 = .ok (.imul, 1) := by decide +kernel
theorem d_M_correct_91 : decode b_M_correct 91 = .ok (.if_icmp .eq 16, 3) := by decide +kernel
theorem d_M_correct_94 : decode b_M_correct 94 = .ok (.aload_n 0, 1) := by decide +kernel
theorem d_M_correct_95 : decode b_M_correct 95 = .ok (.getfield 50, 3) := by decide +kernel
theorem d_M_correct_98 : decode b_M_correct 98 = .ok (.iload 4, 2) := by decide +kernel
theorem d_M_correct_100 : decode b_M_correct 100 = .ok (.iconst 1, 1) := by decide +kernel
theorem d_M_correct_101 : decode b_M_correct 101 = .ok (.isub, 1) := by decide +kernel
theorem d_M_correct_102 : decode b_M_correct 102 = .ok (.iaload, 1) := by decide +kernel
theorem d_M_correct_103 : decode b_M_correct 103 = .ok (.iload_n 3, 1) := by decide +kernel
theorem d_M_correct_104 : decode b_M_correct 104 = .ok (.if_icmp .gt 7, 3) := by decide +kernel
theorem d_M_correct_107 : decode b_M_correct 107 = .ok (.iconst 1, 1) := by decide +kernel
theorem d_M_correct_108 : decode b_M_correct 108 = .ok (.goto 4, 3) := by decide +kernel
theorem d_M_correct_111 : decode b_M_correct 111 = .ok (.iconst 0, 1) := by decide +kernel
theorem d_M_correct_112 : decode b_M_correct 112 = .ok (.istore 5, 2) := by decide +kernel
theorem d_M_correct_114 : decode b_M_correct 114 = .ok (.iload 5, 2) := by decide +kernel
theorem d_M_correct_116 : decode b_M_correct 116 = .ok (.ifCond .eq 48, 3) := by decide +kernel
theorem d_M_correct_119 : decode b_M_correct 119 = .ok (.aload_n 0, 1) := by decide +kernel
theorem d_M_correct_120 : decode b_M_correct 120 = .ok (.getfield 53, 3) := by decide +kernel
theorem d_M_correct_123 : decode b_M_correct 123 = .ok (.iload 4, 2) := by decide +kernel
theorem d_M_correct_125 : decode b_M_correct 125 = .ok (.baload, 1) := by decide +kernel
theorem d_M_correct_126 : decode b_M_correct 126 = .ok (.ifCond .ne 34, 3) := by decide +kernel
theorem d_M_correct_129 : decode b_M_correct 129 = .ok (.iload 4, 2) := by decide +kernel
theorem d_M_correct_131 : decode b_M_correct 131 = .ok (.bipush 40, 2) := by decide +kernel
theorem d_M_correct_133 : decode b_M_correct 133 = .ok (.iload_n 1, 1) := by decide +kernel
theorem d_M_correct_134 : decode b_M_correct 134 = .ok (.imul, 1) := by decide +kernel
theorem d_M_correct_135 : decode b_M_correct 135 = .ok (.aload_n 0, 1) := by decide +kernel
theorem d_M_correct_136 : decode b_M_correct 136 = .ok (.getfield 41, 3) := by decide +kernel
theorem d_M_correct_139 : decode b_M_correct 139 = .ok (.iload_n 1, 1) := by decide +kernel
theorem d_M_correct_140 : decode b_M_correct 140 = .ok (.iaload, 1) := by decide +kernel
theorem d_M_correct_141 : decode b_M_correct 141 = .ok (.iadd, 1) := by decide +kernel
theorem d_M_correct_142 : decode b_M_correct 142 = .ok (.iconst 1, 1) := by decide +kernel
theorem d_M_correct_143 : decode b_M_correct 143 = .ok (.isub, 1) := by decide +kernel
theorem d_M_correct_144 : decode b_M_correct 144 = .ok (.if_icmp .eq 16, 3) := by decide +kernel
theorem d_M_correct_147 : decode b_M_correct 147 = .ok (.iload_n 3, 1) := by decide +kernel
theorem d_M_correct_148 : decode b_M_correct 148 = .ok (.aload_n 0, 1) := by decide +kernel
theorem d_M_correct_149 : decode b_M_correct 149 = .ok (.getfield 47, 3) := by decide +kernel
theorem d_M_correct_152 : decode b_M_correct 152 = .ok (.iload 4, 2) := by decide +kernel
theorem d_M_correct_154 : decode b_M_correct 154 = .ok (.iconst 1, 1) := by decide +kernel
theorem d_M_correct_155 : decode b_M_correct 155 = .ok (.iadd, 1) := by decide +kernel
theorem d_M_correct_156 : decode b_M_correct 156 = .ok (.iaload, 1) := by decide +kernel
theorem d_M_correct_157 : decode b_M_correct 157 = .ok (.if_icmp .gt 7, 3) := by decide +kernel
theorem d_M_correct_160 : decode b_M_correct 160 = .ok (.iconst 1, 1) := by decide +kernel
theorem d_M_correct_161 : decode b_M_correct 161 = .ok (.goto 4, 3) := by decide +kernel
theorem d_M_correct_164 : decode b_M_correct 164 = .ok (.iconst 0, 1) := by decide +kernel
theorem d_M_correct_165 : decode b_M_correct 165 = .ok (.istore 5, 2) := by decide +kernel
theorem d_M_correct_167 : decode b_M_correct 167 = .ok (.aload_n 0, 1) := by decide +kernel
theorem d_M_correct_168 : decode b_M_correct 168 = .ok (.iload 5, 2) := by decide +kernel
theorem d_M_correct_170 : decode b_M_correct 170 = .ok (.iconst 1, 1) := by decide +kernel
theorem d_M_correct_171 : decode b_M_correct 171 = .ok (.invokevirtual 102, 3) := by decide +kernel
theorem d_M_correct_174 : decode b_M_correct 174 = .ok (.ifCond .ne 5, 3) := by decide +kernel
theorem d_M_correct_177 : decode b_M_correct 177 = .ok (.iconst 0, 1) := by decide +kernel
theorem d_M_correct_178 : decode b_M_correct 178 = .ok (.ireturn, 1) := by decide +kernel
theorem d_M_correct_179 : decode b_M_correct 179 = .ok (.aload_n 0, 1) := by decide +kernel
theorem d_M_correct_180 : decode b_M_correct 180 = .ok (.getfield 47, 3) := by decide +kernel
theorem d_M_correct_183 : decode b_M_correct 183 = .ok (.iload 4, 2) := by decide +kernel
theorem d_M_correct_185 : decode b_M_correct 185 = .ok (.iaload, 1) := by decide +kernel
theorem d_M_correct_186 : decode b_M_correct 186 = .ok (.istore 6, 2) := by decide +kernel
theorem d_M_correct_188 : decode b_M_correct 188 = .ok (.aload_n 0, 1) := by decide +kernel
theorem d_M_correct_189 : decode b_M_correct 189 = .ok (.getfield 47, 3) := by decide +kernel
theorem d_M_correct_192 : decode b_M_correct 192 = .ok (.iload 4, 2) := by decide +kernel
theorem d_M_correct_194 : decode b_M_correct 194 = .ok (.iload_n 3, 1) := by decide +kernel
theorem d_M_correct_195 : decode b_M_correct 195 = .ok (.iastore, 1) := by decide +kernel
theorem d_M_correct_196 : decode b_M_correct 196 = .ok (.aload_n 0, 1) := by decide +kernel
theorem d_M_correct_197 : decode b_M_correct 197 = .ok (.getfield 50, 3) := by decide +kernel
theorem d_M_correct_200 : decode b_M_correct 200 = .ok (.iload 4, 2) := by decide +kernel
theorem d_M_correct_202 : decode b_M_correct 202 = .ok (.aload_n 0, 1) := by decide +kernel
theorem d_M_correct_203 : decode b_M_correct 203 = .ok (.getfield 53, 3) := by decide +kernel
theorem d_M_correct_206 : decode b_M_correct 206 = .ok (.iload 4, 2) := by decide +kernel
theorem d_M_correct_208 : decode b_M_correct 208 = .ok (.baload, 1) := by decide +kernel
theorem d_M_correct_209 : decode b_M_correct 209 = .ok (.ifCond .eq 13, 3) := by decide +kernel
theorem d_M_correct_212 : decode b_M_correct 212 = .ok (.aload_n 0, 1) := by decide +kernel
theorem d_M_correct_213 : decode b_M_correct 213 = .ok (.getfield 50, 3) := by decide +kernel
theorem d_M_correct_216 : decode b_M_correct 216 = .ok (.iload 4, 2) := by decide +kernel
theorem d_M_correct_218 : decode b_M_correct 218 = .ok (.iaload, 1) := by decide +kernel
theorem d_M_correct_219 : decode b_M_correct 219 = .ok (.goto 4, 3) := by decide +kernel
theorem d_M_correct_222 : decode b_M_correct 222 = .ok (.iload_n 3, 1) := by decide +kernel
theorem d_M_correct_223 : decode b_M_correct 223 = .ok (.iastore, 1) := by decide +kernel
theorem d_M_correct_224 : decode b_M_correct 224 = .ok (.iload 6, 2) := by decide +kernel
theorem d_M_correct_226 : decode b_M_correct 226 = .ok (.ireturn, 1) := by decide +kernel
theorem cal_M_correct : am_cal y_M_correct b_M_correct 7 ((Option.some FieldType.int)) 3 := ⟨Or.inl wx_793, wx_6, by decide, by decide +kernel⟩
abbrev y_M_tested : MethodName := ⟨"BillSharesModel", "tested", "(II)I"⟩
abbrev b_M_tested : ByteArray := prog_6_method_14_code
theorem d_M_tested_0 : decode b_M_tested 0 = .ok (.aload_n 0, 1) := by decide +kernel
theorem d_M_tested_1 : decode b_M_tested 1 = .ok (.aload_n 0, 1) := by decide +kernel
theorem d_M_tested_2 : decode b_M_tested 2 = .ok (.iload_n 1, 1) := by decide +kernel
theorem d_M_tested_3 : decode b_M_tested 3 = .ok (.invokevirtual 110, 3) := by decide +kernel
theorem d_M_tested_6 : decode b_M_tested 6 = .ok (.ifCond .eq 18, 3) := by decide +kernel
theorem d_M_tested_9 : decode b_M_tested 9 = .ok (.iload_n 2, 1) := by decide +kernel
theorem d_M_tested_10 : decode b_M_tested 10 = .ok (.iconst 0, 1) := by decide +kernel
theorem d_M_tested_11 : decode b_M_tested 11 = .ok (.sipush 3649, 3) := by decide +kernel
theorem d_M_tested_14 : decode b_M_tested 14 = .ok (.invokestatic 92, 3) := by decide +kernel
theorem d_M_tested_17 : decode b_M_tested 17 = .ok (.ifCond .eq 7, 3) := by decide +kernel
theorem d_M_tested_20 : decode b_M_tested 20 = .ok (.iconst 1, 1) := by decide +kernel
theorem d_M_tested_21 : decode b_M_tested 21 = .ok (.goto 4, 3) := by decide +kernel
theorem d_M_tested_24 : decode b_M_tested 24 = .ok (.iconst 0, 1) := by decide +kernel
theorem d_M_tested_25 : decode b_M_tested 25 = .ok (.iconst 1, 1) := by decide +kernel
theorem d_M_tested_26 : decode b_M_tested 26 = .ok (.invokevirtual 102, 3) := by decide +kernel
theorem d_M_tested_29 : decode b_M_tested 29 = .ok (.ifCond .ne 5, 3) := by decide +kernel
theorem d_M_tested_32 : decode b_M_tested 32 = .ok (.iconst 0, 1) := by decide +kernel
theorem d_M_tested_33 : decode b_M_tested 33 = .ok (.ireturn, 1) := by decide +kernel
theorem d_M_tested_34 : decode b_M_tested 34 = .ok (.aload_n 0, 1) := by decide +kernel
theorem d_M_tested_35 : decode b_M_tested 35 = .ok (.getfield 38, 3) := by decide +kernel
theorem d_M_tested_38 : decode b_M_tested 38 = .ok (.iload_n 1, 1) := by decide +kernel
theorem d_M_tested_39 : decode b_M_tested 39 = .ok (.iaload, 1) := by decide +kernel
theorem d_M_tested_40 : decode b_M_tested 40 = .ok (.istore_n 3, 1) := by decide +kernel
theorem d_M_tested_41 : decode b_M_tested 41 = .ok (.aload_n 0, 1) := by decide +kernel
theorem d_M_tested_42 : decode b_M_tested 42 = .ok (.getfield 38, 3) := by decide +kernel
theorem d_M_tested_45 : decode b_M_tested 45 = .ok (.iload_n 1, 1) := by decide +kernel
theorem d_M_tested_46 : decode b_M_tested 46 = .ok (.iload_n 2, 1) := by decide +kernel
theorem d_M_tested_47 : decode b_M_tested 47 = .ok (.iastore, 1) := by decide +kernel
theorem d_M_tested_48 : decode b_M_tested 48 = .ok (.iload_n 3, 1) := by decide +kernel
theorem d_M_tested_49 : decode b_M_tested 49 = .ok (.ireturn, 1) := by decide +kernel
theorem cal_M_tested : am_cal y_M_tested b_M_tested 4 ((Option.some FieldType.int)) 2 := ⟨Or.inl wx_797, wx_6, by decide, by decide +kernel⟩
abbrev y_M_cost : MethodName := ⟨"BillSharesModel", "cost", "(III)I"⟩
abbrev b_M_cost : ByteArray := prog_6_method_15_code
theorem d_M_cost_0 : decode b_M_cost 0 = .ok (.aload_n 0, 1) := by decide +kernel
theorem d_M_cost_1 : decode b_M_cost 1 = .ok (.iload_n 1, 1) := by decide +kernel
theorem d_M_cost_2 : decode b_M_cost 2 = .ok (.iconst 0, 1) := by decide +kernel
theorem d_M_cost_3 : decode b_M_cost 3 = .ok (.iconst 3, 1) := by decide +kernel
theorem d_M_cost_4 : decode b_M_cost 4 = .ok (.invokestatic 92, 3) := by decide +kernel
theorem d_M_cost_7 : decode b_M_cost 7 = .ok (.ifCond .eq 27, 3) := by decide +kernel
theorem d_M_cost_10 : decode b_M_cost 10 = .ok (.iload_n 2, 1) := by decide +kernel
theorem d_M_cost_11 : decode b_M_cost 11 = .ok (.iconst 0, 1) := by decide +kernel
theorem d_M_cost_12 : decode b_M_cost 12 = .ok (.bipush 9, 2) := by decide +kernel
theorem d_M_cost_14 : decode b_M_cost 14 = .ok (.invokestatic 92, 3) := by decide +kernel
theorem d_M_cost_17 : decode b_M_cost 17 = .ok (.ifCond .eq 17, 3) := by decide +kernel
theorem d_M_cost_20 : decode b_M_cost 20 = .ok (.iload_n 3, 1) := by decide +kernel
theorem d_M_cost_21 : decode b_M_cost 21 = .ok (.iconst 0, 1) := by decide +kernel
theorem d_M_cost_22 : decode b_M_cost 22 = .ok (.ldc 120, 2) := by decide +kernel
theorem d_M_cost_24 : decode b_M_cost 24 = .ok (.invokestatic 92, 3) := by decide +kernel
theorem d_M_cost_27 : decode b_M_cost 27 = .ok (.ifCond .eq 7, 3) := by decide +kernel
theorem d_M_cost_30 : decode b_M_cost 30 = .ok (.iconst 1, 1) := by decide +kernel
theorem d_M_cost_31 : decode b_M_cost 31 = .ok (.goto 4, 3) := by decide +kernel
theorem d_M_cost_34 : decode b_M_cost 34 = .ok (.iconst 0, 1) := by decide +kernel
theorem d_M_cost_35 : decode b_M_cost 35 = .ok (.iconst 1, 1) := by decide +kernel
theorem d_M_cost_36 : decode b_M_cost 36 = .ok (.invokevirtual 102, 3) := by decide +kernel
theorem d_M_cost_39 : decode b_M_cost 39 = .ok (.ifCond .ne 5, 3) := by decide +kernel
theorem d_M_cost_42 : decode b_M_cost 42 = .ok (.iconst 0, 1) := by decide +kernel
theorem d_M_cost_43 : decode b_M_cost 43 = .ok (.ireturn, 1) := by decide +kernel
theorem d_M_cost_44 : decode b_M_cost 44 = .ok (.aload_n 0, 1) := by decide +kernel
theorem d_M_cost_45 : decode b_M_cost 45 = .ok (.getfield 57, 3) := by decide +kernel
theorem d_M_cost_48 : decode b_M_cost 48 = .ok (.iconst 4, 1) := by decide +kernel
theorem d_M_cost_49 : decode b_M_cost 49 = .ok (.iload_n 2, 1) := by decide +kernel
theorem d_M_cost_50 : decode b_M_cost 50 = .ok (.imul, 1) := by decide +kernel
theorem d_M_cost_51 : decode b_M_cost 51 = .ok (.iload_n 1, 1) := by decide +kernel
theorem d_M_cost_52 : decode b_M_cost 52 = .ok (.iadd, 1) := by decide +kernel
theorem d_M_cost_53 : decode b_M_cost 53 = .ok (.iaload, 1) := by decide +kernel
theorem d_M_cost_54 : decode b_M_cost 54 = .ok (.istore 4, 2) := by decide +kernel
theorem d_M_cost_56 : decode b_M_cost 56 = .ok (.aload_n 0, 1) := by decide +kernel
theorem d_M_cost_57 : decode b_M_cost 57 = .ok (.getfield 57, 3) := by decide +kernel
theorem d_M_cost_60 : decode b_M_cost 60 = .ok (.iconst 4, 1) := by decide +kernel
theorem d_M_cost_61 : decode b_M_cost 61 = .ok (.iload_n 2, 1) := by decide +kernel
theorem d_M_cost_62 : decode b_M_cost 62 = .ok (.imul, 1) := by decide +kernel
theorem d_M_cost_63 : decode b_M_cost 63 = .ok (.iload_n 1, 1) := by decide +kernel
theorem d_M_cost_64 : decode b_M_cost 64 = .ok (.iadd, 1) := by decide +kernel
theorem d_M_cost_65 : decode b_M_cost 65 = .ok (.iload_n 3, 1) := by decide +kernel
theorem d_M_cost_66 : decode b_M_cost 66 = .ok (.iastore, 1) := by decide +kernel
theorem d_M_cost_67 : decode b_M_cost 67 = .ok (.iload 4, 2) := by decide +kernel
theorem d_M_cost_69 : decode b_M_cost 69 = .ok (.ireturn, 1) := by decide +kernel
theorem cal_M_cost : am_cal y_M_cost b_M_cost 5 ((Option.some FieldType.int)) 3 := ⟨Or.inl wx_801, wx_6, by decide, by decide +kernel⟩
abbrev y_M_base : MethodName := ⟨"BillSharesModel", "base", "(II)I"⟩
abbrev b_M_base : ByteArray := prog_6_method_16_code
theorem d_M_base_0 : decode b_M_base 0 = .ok (.aload_n 0, 1) := by decide +kernel
theorem d_M_base_1 : decode b_M_base 1 = .ok (.iload_n 1, 1) := by decide +kernel
theorem d_M_base_2 : decode b_M_base 2 = .ok (.iconst 0, 1) := by decide +kernel
theorem d_M_base_3 : decode b_M_base 3 = .ok (.iconst 3, 1) := by decide +kernel
theorem d_M_base_4 : decode b_M_base 4 = .ok (.invokestatic 92, 3) := by decide +kernel
theorem d_M_base_7 : decode b_M_base 7 = .ok (.ifCond .eq 17, 3) := by decide +kernel
theorem d_M_base_10 : decode b_M_base 10 = .ok (.iload_n 2, 1) := by decide +kernel
theorem d_M_base_11 : decode b_M_base 11 = .ok (.iconst 0, 1) := by decide +kernel
theorem d_M_base_12 : decode b_M_base 12 = .ok (.bipush 100, 2) := by decide +kernel
theorem d_M_base_14 : decode b_M_base 14 = .ok (.invokestatic 92, 3) := by decide +kernel
theorem d_M_base_17 : decode b_M_base 17 = .ok (.ifCond .eq 7, 3) := by decide +kernel
theorem d_M_base_20 : decode b_M_base 20 = .ok (.iconst 1, 1) := by decide +kernel
theorem d_M_base_21 : decode b_M_base 21 = .ok (.goto 4, 3) := by decide +kernel
theorem d_M_base_24 : decode b_M_base 24 = .ok (.iconst 0, 1) := by decide +kernel
theorem d_M_base_25 : decode b_M_base 25 = .ok (.iconst 1, 1) := by decide +kernel
theorem d_M_base_26 : decode b_M_base 26 = .ok (.invokevirtual 102, 3) := by decide +kernel
theorem d_M_base_29 : decode b_M_base 29 = .ok (.ifCond .ne 5, 3) := by decide +kernel
theorem d_M_base_32 : decode b_M_base 32 = .ok (.iconst 0, 1) := by decide +kernel
theorem d_M_base_33 : decode b_M_base 33 = .ok (.ireturn, 1) := by decide +kernel
theorem d_M_base_34 : decode b_M_base 34 = .ok (.aload_n 0, 1) := by decide +kernel
theorem d_M_base_35 : decode b_M_base 35 = .ok (.getfield 60, 3) := by decide +kernel
theorem d_M_base_38 : decode b_M_base 38 = .ok (.iload_n 1, 1) := by decide +kernel
theorem d_M_base_39 : decode b_M_base 39 = .ok (.iaload, 1) := by decide +kernel
theorem d_M_base_40 : decode b_M_base 40 = .ok (.istore_n 3, 1) := by decide +kernel
theorem d_M_base_41 : decode b_M_base 41 = .ok (.aload_n 0, 1) := by decide +kernel
theorem d_M_base_42 : decode b_M_base 42 = .ok (.getfield 60, 3) := by decide +kernel
theorem d_M_base_45 : decode b_M_base 45 = .ok (.iload_n 1, 1) := by decide +kernel
theorem d_M_base_46 : decode b_M_base 46 = .ok (.iload_n 2, 1) := by decide +kernel
theorem d_M_base_47 : decode b_M_base 47 = .ok (.iastore, 1) := by decide +kernel
theorem d_M_base_48 : decode b_M_base 48 = .ok (.iload_n 3, 1) := by decide +kernel
theorem d_M_base_49 : decode b_M_base 49 = .ok (.ireturn, 1) := by decide +kernel
theorem cal_M_base : am_cal y_M_base b_M_base 4 ((Option.some FieldType.int)) 2 := ⟨Or.inl wx_806, wx_6, by decide, by decide +kernel⟩
abbrev y_M_moves : MethodName := ⟨"BillSharesModel", "moves", "(II)I"⟩
abbrev b_M_moves : ByteArray := prog_6_method_17_code
theorem d_M_moves_0 : decode b_M_moves 0 = .ok (.aload_n 0, 1) := by decide +kernel
theorem d_M_moves_1 : decode b_M_moves 1 = .ok (.iload_n 1, 1) := by decide +kernel
theorem d_M_moves_2 : decode b_M_moves 2 = .ok (.invokevirtual 106, 3) := by decide +kernel
theorem d_M_moves_5 : decode b_M_moves 5 = .ok (.ifCond .eq 40, 3) := by decide +kernel
theorem d_M_moves_8 : decode b_M_moves 8 = .ok (.iload_n 2, 1) := by decide +kernel
theorem d_M_moves_9 : decode b_M_moves 9 = .ok (.iconst 0, 1) := by decide +kernel
theorem d_M_moves_10 : decode b_M_moves 10 = .ok (.sipush 3649, 3) := by decide +kernel
theorem d_M_moves_13 : decode b_M_moves 13 = .ok (.invokestatic 92, 3) := by decide +kernel
theorem d_M_moves_16 : decode b_M_moves 16 = .ok (.ifCond .eq 29, 3) := by decide +kernel
theorem d_M_moves_19 : decode b_M_moves 19 = .ok (.iload_n 2, 1) := by decide +kernel
theorem d_M_moves_20 : decode b_M_moves 20 = .ok (.aload_n 0, 1) := by decide +kernel
theorem d_M_moves_21 : decode b_M_moves 21 = .ok (.getfield 19, 3) := by decide +kernel
theorem d_M_moves_24 : decode b_M_moves 24 = .ok (.bipush 12, 2) := by decide +kernel
theorem d_M_moves_26 : decode b_M_moves 26 = .ok (.iload_n 1, 1) := by decide +kernel
theorem d_M_moves_27 : decode b_M_moves 27 = .ok (.imul, 1) := by decide +kernel
theorem d_M_moves_28 : decode b_M_moves 28 = .ok (.aload_n 0, 1) := by decide +kernel
theorem d_M_moves_29 : decode b_M_moves 29 = .ok (.getfield 16, 3) := by decide +kernel
theorem d_M_moves_32 : decode b_M_moves 32 = .ok (.iload_n 1, 1) := by decide +kernel
theorem d_M_moves_33 : decode b_M_moves 33 = .ok (.iaload, 1) := by decide +kernel
theorem d_M_moves_34 : decode b_M_moves 34 = .ok (.iadd, 1) := by decide +kernel
theorem d_M_moves_35 : decode b_M_moves 35 = .ok (.iconst 1, 1) := by decide +kernel
theorem d_M_moves_36 : decode b_M_moves 36 = .ok (.isub, 1) := by decide +kernel
theorem d_M_moves_37 : decode b_M_moves 37 = .ok (.iaload, 1) := by decide +kernel
theorem d_M_moves_38 : decode b_M_moves 38 = .ok (.if_icmp .le 7, 3) := by decide +kernel
theorem d_M_moves_41 : decode b_M_moves 41 = .ok (.iconst 1, 1) := by decide +kernel
theorem d_M_moves_42 : decode b_M_moves 42 = .ok (.goto 4, 3) := by decide +kernel
theorem d_M_moves_45 : decode b_M_moves 45 = .ok (.iconst 0, 1) := by decide +kernel
theorem d_M_moves_46 : decode b_M_moves 46 = .ok (.istore_n 3, 1) := by decide +kernel
theorem d_M_moves_47 : decode b_M_moves 47 = .ok (.aload_n 0, 1) := by decide +kernel
theorem d_M_moves_48 : decode b_M_moves 48 = .ok (.iload_n 3, 1) := by decide +kernel
theorem d_M_moves_49 : decode b_M_moves 49 = .ok (.iload_n 3, 1) := by decide +kernel
theorem d_M_moves_50 : decode b_M_moves 50 = .ok (.ifCond .eq 18, 3) := by decide +kernel
theorem d_M_moves_53 : decode b_M_moves 53 = .ok (.aload_n 0, 1) := by decide +kernel
theorem d_M_moves_54 : decode b_M_moves 54 = .ok (.getfield 16, 3) := by decide +kernel
theorem d_M_moves_57 : decode b_M_moves 57 = .ok (.iload_n 1, 1) := by decide +kernel
theorem d_M_moves_58 : decode b_M_moves 58 = .ok (.iaload, 1) := by decide +kernel
theorem d_M_moves_59 : decode b_M_moves 59 = .ok (.bipush 12, 2) := by decide +kernel
theorem d_M_moves_61 : decode b_M_moves 61 = .ok (.if_icmp .ge 7, 3) := by decide +kernel
theorem d_M_moves_64 : decode b_M_moves 64 = .ok (.iconst 1, 1) := by decide +kernel
theorem d_M_moves_65 : decode b_M_moves 65 = .ok (.goto 4, 3) := by decide +kernel
theorem d_M_moves_68 : decode b_M_moves 68 = .ok (.iconst 0, 1) := by decide +kernel
theorem d_M_moves_69 : decode b_M_moves 69 = .ok (.invokevirtual 102, 3) := by decide +kernel
theorem d_M_moves_72 : decode b_M_moves 72 = .ok (.ifCond .ne 5, 3) := by decide +kernel
theorem d_M_moves_75 : decode b_M_moves 75 = .ok (.iconst 0, 1) := by decide +kernel
theorem d_M_moves_76 : decode b_M_moves 76 = .ok (.ireturn, 1) := by decide +kernel
theorem d_M_moves_77 : decode b_M_moves 77 = .ok (.aload_n 0, 1) := by decide +kernel
theorem d_M_moves_78 : decode b_M_moves 78 = .ok (.getfield 19, 3) := by decide +kernel
theorem d_M_moves_81 : decode b_M_moves 81 = .ok (.bipush 12, 2) := by decide +kernel
theorem d_M_moves_83 : decode b_M_moves 83 = .ok (.iload_n 1, 1) := by decide +kernel
theorem d_M_moves_84 : decode b_M_moves 84 = .ok (.imul, 1) := by decide +kernel
theorem d_M_moves_85 : decode b_M_moves 85 = .ok (.aload_n 0, 1) := by decide +kernel
theorem d_M_moves_86 : decode b_M_moves 86 = .ok (.getfield 16, 3) := by decide +kernel
theorem d_M_moves_89 : decode b_M_moves 89 = .ok (.iload_n 1, 1) := by decide +kernel
theorem d_M_moves_90 : decode b_M_moves 90 = .ok (.iaload, 1) := by decide +kernel
theorem d_M_moves_91 : decode b_M_moves 91 = .ok (.iadd, 1) := by decide +kernel
theorem d_M_moves_92 : decode b_M_moves 92 = .ok (.iload_n 2, 1) := by decide +kernel
theorem d_M_moves_93 : decode b_M_moves 93 = .ok (.iastore, 1) := by decide +kernel
theorem d_M_moves_94 : decode b_M_moves 94 = .ok (.aload_n 0, 1) := by decide +kernel
theorem d_M_moves_95 : decode b_M_moves 95 = .ok (.getfield 16, 3) := by decide +kernel
theorem d_M_moves_98 : decode b_M_moves 98 = .ok (.iload_n 1, 1) := by decide +kernel
theorem d_M_moves_99 : decode b_M_moves 99 = .ok (.dup2, 1) := by decide +kernel
theorem d_M_moves_100 : decode b_M_moves 100 = .ok (.iaload, 1) := by decide +kernel
theorem d_M_moves_101 : decode b_M_moves 101 = .ok (.iconst 1, 1) := by decide +kernel
theorem d_M_moves_102 : decode b_M_moves 102 = .ok (.iadd, 1) := by decide +kernel
theorem d_M_moves_103 : decode b_M_moves 103 = .ok (.iastore, 1) := by decide +kernel
theorem d_M_moves_104 : decode b_M_moves 104 = .ok (.aload_n 0, 1) := by decide +kernel
theorem d_M_moves_105 : decode b_M_moves 105 = .ok (.getfield 16, 3) := by decide +kernel
theorem d_M_moves_108 : decode b_M_moves 108 = .ok (.iload_n 1, 1) := by decide +kernel
theorem d_M_moves_109 : decode b_M_moves 109 = .ok (.iaload, 1) := by decide +kernel
theorem d_M_moves_110 : decode b_M_moves 110 = .ok (.iconst 1, 1) := by decide +kernel
theorem d_M_moves_111 : decode b_M_moves 111 = .ok (.isub, 1) := by decide +kernel
theorem d_M_moves_112 : decode b_M_moves 112 = .ok (.ireturn, 1) := by decide +kernel
theorem cal_M_moves : am_cal y_M_moves b_M_moves 4 ((Option.some FieldType.int)) 2 := ⟨Or.inl wx_810, wx_6, by decide, by decide +kernel⟩
abbrev y_M_prepaid : MethodName := ⟨"BillSharesModel", "prepaid", "(III)J"⟩
abbrev b_M_prepaid : ByteArray := prog_6_method_18_code
theorem d_M_prepaid_0 : decode b_M_prepaid 0 = .ok (.aload_n 0, 1) := by decide +kernel
theorem d_M_prepaid_1 : decode b_M_prepaid 1 = .ok (.aload_n 0, 1) := by decide +kernel
theorem d_M_prepaid_2 : decode b_M_prepaid 2 = .ok (.iload_n 1, 1) := by decide +kernel
theorem d_M_prepaid_3 : decode b_M_prepaid 3 = .ok (.invokevirtual 106, 3) := by decide +kernel
theorem d_M_prepaid_6 : decode b_M_prepaid 6 = .ok (.ifCond .eq 27, 3) := by decide +kernel
theorem d_M_prepaid_9 : decode b_M_prepaid 9 = .ok (.iload_n 2, 1) := by decide +kernel
theorem d_M_prepaid_10 : decode b_M_prepaid 10 = .ok (.iconst 0, 1) := by decide +kernel
theorem d_M_prepaid_11 : decode b_M_prepaid 11 = .ok (.bipush 9, 2) := by decide +kernel
theorem d_M_prepaid_13 : decode b_M_prepaid 13 = .ok (.invokestatic 92, 3) := by decide +kernel
theorem d_M_prepaid_16 : decode b_M_prepaid 16 = .ok (.ifCond .eq 17, 3) := by decide +kernel
theorem d_M_prepaid_19 : decode b_M_prepaid 19 = .ok (.iload_n 3, 1) := by decide +kernel
theorem d_M_prepaid_20 : decode b_M_prepaid 20 = .ok (.iconst 1, 1) := by decide +kernel
theorem d_M_prepaid_21 : decode b_M_prepaid 21 = .ok (.ldc 120, 2) := by decide +kernel
theorem d_M_prepaid_23 : decode b_M_prepaid 23 = .ok (.invokestatic 92, 3) := by decide +kernel
theorem d_M_prepaid_26 : decode b_M_prepaid 26 = .ok (.ifCond .eq 7, 3) := by decide +kernel
theorem d_M_prepaid_29 : decode b_M_prepaid 29 = .ok (.iconst 1, 1) := by decide +kernel
theorem d_M_prepaid_30 : decode b_M_prepaid 30 = .ok (.goto 4, 3) := by decide +kernel
theorem d_M_prepaid_33 : decode b_M_prepaid 33 = .ok (.iconst 0, 1) := by decide +kernel
theorem d_M_prepaid_34 : decode b_M_prepaid 34 = .ok (.iconst 1, 1) := by decide +kernel
theorem d_M_prepaid_35 : decode b_M_prepaid 35 = .ok (.invokevirtual 102, 3) := by decide +kernel
theorem d_M_prepaid_38 : decode b_M_prepaid 38 = .ok (.ifCond .ne 5, 3) := by decide +kernel
theorem d_M_prepaid_41 : decode b_M_prepaid 41 = .ok (.lconst 0, 1) := by decide +kernel
theorem d_M_prepaid_42 : decode b_M_prepaid 42 = .ok (.lreturn, 1) := by decide +kernel
theorem d_M_prepaid_43 : decode b_M_prepaid 43 = .ok (.aload_n 0, 1) := by decide +kernel
theorem d_M_prepaid_44 : decode b_M_prepaid 44 = .ok (.getfield 22, 3) := by decide +kernel
theorem d_M_prepaid_47 : decode b_M_prepaid 47 = .ok (.bipush 10, 2) := by decide +kernel
theorem d_M_prepaid_49 : decode b_M_prepaid 49 = .ok (.iload_n 1, 1) := by decide +kernel
theorem d_M_prepaid_50 : decode b_M_prepaid 50 = .ok (.imul, 1) := by decide +kernel
theorem d_M_prepaid_51 : decode b_M_prepaid 51 = .ok (.iload_n 2, 1) := by decide +kernel
theorem d_M_prepaid_52 : decode b_M_prepaid 52 = .ok (.iadd, 1) := by decide +kernel
theorem d_M_prepaid_53 : decode b_M_prepaid 53 = .ok (.dup2, 1) := by decide +kernel
theorem d_M_prepaid_54 : decode b_M_prepaid 54 = .ok (.laload, 1) := by decide +kernel
theorem d_M_prepaid_55 : decode b_M_prepaid 55 = .ok (.iload_n 3, 1) := by decide +kernel
theorem d_M_prepaid_56 : decode b_M_prepaid 56 = .ok (.i2l, 1) := by decide +kernel
theorem d_M_prepaid_57 : decode b_M_prepaid 57 = .ok (.ladd, 1) := by decide +kernel
theorem d_M_prepaid_58 : decode b_M_prepaid 58 = .ok (.lastore, 1) := by decide +kernel
theorem d_M_prepaid_59 : decode b_M_prepaid 59 = .ok (.aload_n 0, 1) := by decide +kernel
theorem d_M_prepaid_60 : decode b_M_prepaid 60 = .ok (.getfield 22, 3) := by decide +kernel
theorem d_M_prepaid_63 : decode b_M_prepaid 63 = .ok (.bipush 10, 2) := by decide +kernel
theorem d_M_prepaid_65 : decode b_M_prepaid 65 = .ok (.iload_n 1, 1) := by decide +kernel
theorem d_M_prepaid_66 : decode b_M_prepaid 66 = .ok (.imul, 1) := by decide +kernel
theorem d_M_prepaid_67 : decode b_M_prepaid 67 = .ok (.iload_n 2, 1) := by decide +kernel
theorem d_M_prepaid_68 : decode b_M_prepaid 68 = .ok (.iadd, 1) := by decide +kernel
theorem d_M_prepaid_69 : decode b_M_prepaid 69 = .ok (.laload, 1) := by decide +kernel
theorem d_M_prepaid_70 : decode b_M_prepaid 70 = .ok (.lreturn, 1) := by decide +kernel
theorem cal_M_prepaid : am_cal y_M_prepaid b_M_prepaid 4 ((Option.some FieldType.long)) 3 := ⟨Or.inl wx_814, wx_6, by decide, by decide +kernel⟩
abbrev y_M_run : MethodName := ⟨"BillSharesModel", "run", "(I)I"⟩
abbrev b_M_run : ByteArray := prog_6_method_29_code
theorem d_M_run_0 : decode b_M_run 0 = .ok (.iload_n 1, 1) := by decide +kernel
theorem d_M_run_1 : decode b_M_run 1 = .ok (.iconst 0, 1) := by decide +kernel
theorem d_M_run_2 : decode b_M_run 2 = .ok (.bipush 9, 2) := by decide +kernel
theorem d_M_run_4 : decode b_M_run 4 = .ok (.invokestatic 92, 3) := by decide +kernel
theorem d_M_run_7 : decode b_M_run 7 = .ok (.istore_n 2, 1) := by decide +kernel
theorem d_M_run_8 : decode b_M_run 8 = .ok (.aload_n 0, 1) := by decide +kernel
theorem d_M_run_9 : decode b_M_run 9 = .ok (.iload_n 2, 1) := by decide +kernel
theorem d_M_run_10 : decode b_M_run 10 = .ok (.iload_n 2, 1) := by decide +kernel
theorem d_M_run_11 : decode b_M_run 11 = .ok (.ifCond .eq 25, 3) := by decide +kernel
theorem d_M_run_14 : decode b_M_run 14 = .ok (.aload_n 0, 1) := by decide +kernel
theorem d_M_run_15 : decode b_M_run 15 = .ok (.getfield 96, 3) := by decide +kernel
theorem d_M_run_18 : decode b_M_run 18 = .ok (.ifCond .le 18, 3) := by decide +kernel
theorem d_M_run_21 : decode b_M_run 21 = .ok (.aload_n 0, 1) := by decide +kernel
theorem d_M_run_22 : decode b_M_run 22 = .ok (.getfield 63, 3) := by decide +kernel
theorem d_M_run_25 : decode b_M_run 25 = .ok (.iload_n 1, 1) := by decide +kernel
theorem d_M_run_26 : decode b_M_run 26 = .ok (.iaload, 1) := by decide +kernel
theorem d_M_run_27 : decode b_M_run 27 = .ok (.bipush 50, 2) := by decide +kernel
theorem d_M_run_29 : decode b_M_run 29 = .ok (.if_icmp .ge 7, 3) := by decide +kernel
theorem d_M_run_32 : decode b_M_run 32 = .ok (.iconst 1, 1) := by decide +kernel
theorem d_M_run_33 : decode b_M_run 33 = .ok (.goto 4, 3) := by decide +kernel
theorem d_M_run_36 : decode b_M_run 36 = .ok (.iconst 0, 1) := by decide +kernel
theorem d_M_run_37 : decode b_M_run 37 = .ok (.invokevirtual 102, 3) := by decide +kernel
theorem d_M_run_40 : decode b_M_run 40 = .ok (.ifCond .ne 5, 3) := by decide +kernel
theorem d_M_run_43 : decode b_M_run 43 = .ok (.iconst 0, 1) := by decide +kernel
theorem d_M_run_44 : decode b_M_run 44 = .ok (.ireturn, 1) := by decide +kernel
theorem d_M_run_45 : decode b_M_run 45 = .ok (.iconst 0, 1) := by decide +kernel
theorem d_M_run_46 : decode b_M_run 46 = .ok (.istore_n 3, 1) := by decide +kernel
theorem d_M_run_47 : decode b_M_run 47 = .ok (.iload_n 3, 1) := by decide +kernel
theorem d_M_run_48 : decode b_M_run 48 = .ok (.aload_n 0, 1) := by decide +kernel
theorem d_M_run_49 : decode b_M_run 49 = .ok (.getfield 66, 3) := by decide +kernel
theorem d_M_run_52 : decode b_M_run 52 = .ok (.iload_n 1, 1) := by decide +kernel
theorem d_M_run_53 : decode b_M_run 53 = .ok (.iaload, 1) := by decide +kernel
theorem d_M_run_54 : decode b_M_run 54 = .ok (.if_icmp .ge 26, 3) := by decide +kernel
theorem d_M_run_57 : decode b_M_run 57 = .ok (.aload_n 0, 1) := by decide +kernel
theorem d_M_run_58 : decode b_M_run 58 = .ok (.getfield 78, 3) := by decide +kernel
theorem d_M_run_61 : decode b_M_run 61 = .ok (.bipush 20, 2) := by decide +kernel
theorem d_M_run_63 : decode b_M_run 63 = .ok (.iload_n 1, 1) := by decide +kernel
theorem d_M_run_64 : decode b_M_run 64 = .ok (.imul, 1) := by decide +kernel
theorem d_M_run_65 : decode b_M_run 65 = .ok (.iload_n 3, 1) := by decide +kernel
theorem d_M_run_66 : decode b_M_run 66 = .ok (.iadd, 1) := by decide +kernel
theorem d_M_run_67 : decode b_M_run 67 = .ok (.aload_n 0, 1) := by decide +kernel
theorem d_M_run_68 : decode b_M_run 68 = .ok (.iload_n 3, 1) := by decide +kernel
theorem d_M_run_69 : decode b_M_run 69 = .ok (.iload_n 1, 1) := by decide +kernel
theorem d_M_run_70 : decode b_M_run 70 = .ok (.invokevirtual 150, 3) := by decide +kernel
theorem d_M_run_73 : decode b_M_run 73 = .ok (.lastore, 1) := by decide +kernel
theorem d_M_run_74 : decode b_M_run 74 = .ok (.iinc 3 1, 3) := by decide +kernel
theorem d_M_run_77 : decode b_M_run 77 = .ok (.goto (-30), 3) := by decide +kernel
theorem d_M_run_80 : decode b_M_run 80 = .ok (.aload_n 0, 1) := by decide +kernel
theorem d_M_run_81 : decode b_M_run 81 = .ok (.getfield 69, 3) := by decide +kernel
theorem d_M_run_84 : decode b_M_run 84 = .ok (.iload_n 1, 1) := by decide +kernel
theorem d_M_run_85 : decode b_M_run 85 = .ok (.aload_n 0, 1) := by decide +kernel
theorem d_M_run_86 : decode b_M_run 86 = .ok (.getfield 66, 3) := by decide +kernel
theorem d_M_run_89 : decode b_M_run 89 = .ok (.iload_n 1, 1) := by decide +kernel
theorem d_M_run_90 : decode b_M_run 90 = .ok (.iaload, 1) := by decide +kernel
theorem d_M_run_91 : decode b_M_run 91 = .ok (.iastore, 1) := by decide +kernel
theorem d_M_run_92 : decode b_M_run 92 = .ok (.aload_n 0, 1) := by decide +kernel
theorem d_M_run_93 : decode b_M_run 93 = .ok (.getfield 66, 3) := by decide +kernel
theorem d_M_run_96 : decode b_M_run 96 = .ok (.iload_n 1, 1) := by decide +kernel
theorem d_M_run_97 : decode b_M_run 97 = .ok (.aload_n 0, 1) := by decide +kernel
theorem d_M_run_98 : decode b_M_run 98 = .ok (.getfield 96, 3) := by decide +kernel
theorem d_M_run_101 : decode b_M_run 101 = .ok (.iastore, 1) := by decide +kernel
theorem d_M_run_102 : decode b_M_run 102 = .ok (.aload_n 0, 1) := by decide +kernel
theorem d_M_run_103 : decode b_M_run 103 = .ok (.getfield 63, 3) := by decide +kernel
theorem d_M_run_106 : decode b_M_run 106 = .ok (.iload_n 1, 1) := by decide +kernel
theorem d_M_run_107 : decode b_M_run 107 = .ok (.dup2, 1) := by decide +kernel
theorem d_M_run_108 : decode b_M_run 108 = .ok (.iaload, 1) := by decide +kernel
theorem d_M_run_109 : decode b_M_run 109 = .ok (.iconst 1, 1) := by decide +kernel
theorem d_M_run_110 : decode b_M_run 110 = .ok (.iadd, 1) := by decide +kernel
theorem d_M_run_111 : decode b_M_run 111 = .ok (.iastore, 1) := by decide +kernel
theorem d_M_run_112 : decode b_M_run 112 = .ok (.iconst 0, 1) := by decide +kernel
theorem d_M_run_113 : decode b_M_run 113 = .ok (.istore_n 3, 1) := by decide +kernel
theorem d_M_run_114 : decode b_M_run 114 = .ok (.iload_n 3, 1) := by decide +kernel
theorem d_M_run_115 : decode b_M_run 115 = .ok (.iconst 4, 1) := by decide +kernel
theorem d_M_run_116 : decode b_M_run 116 = .ok (.if_icmp .ge 145, 3) := by decide +kernel
theorem d_M_run_119 : decode b_M_run 119 = .ok (.aload_n 0, 1) := by decide +kernel
theorem d_M_run_120 : decode b_M_run 120 = .ok (.getfield 57, 3) := by decide +kernel
theorem d_M_run_123 : decode b_M_run 123 = .ok (.iconst 4, 1) := by decide +kernel
theorem d_M_run_124 : decode b_M_run 124 = .ok (.iload_n 1, 1) := by decide +kernel
theorem d_M_run_125 : decode b_M_run 125 = .ok (.imul, 1) := by decide +kernel
theorem d_M_run_126 : decode b_M_run 126 = .ok (.iload_n 3, 1) := by decide +kernel
theorem d_M_run_127 : decode b_M_run 127 = .ok (.iadd, 1) := by decide +kernel
theorem d_M_run_128 : decode b_M_run 128 = .ok (.iaload, 1) := by decide +kernel
theorem d_M_run_129 : decode b_M_run 129 = .ok (.i2l, 1) := by decide +kernel
theorem d_M_run_130 : decode b_M_run 130 = .ok (.lstore 4, 2) := by decide +kernel
theorem d_M_run_132 : decode b_M_run 132 = .ok (.lload 4, 2) := by decide +kernel
theorem d_M_run_134 : decode b_M_run 134 = .ok (.aload_n 0, 1) := by decide +kernel
theorem d_M_run_135 : decode b_M_run 135 = .ok (.getfield 60, 3) := by decide +kernel
theorem d_M_run_138 : decode b_M_run 138 = .ok (.iload_n 3, 1) := by decide +kernel
theorem d_M_run_139 : decode b_M_run 139 = .ok (.iaload, 1) := by decide +kernel
theorem d_M_run_140 : decode b_M_run 140 = .ok (.i2l, 1) := by decide +kernel
theorem d_M_run_141 : decode b_M_run 141 = .ok (.lmul, 1) := by decide +kernel
theorem d_M_run_142 : decode b_M_run 142 = .ok (.ldc2_w 154, 3) := by decide +kernel
theorem d_M_run_145 : decode b_M_run 145 = .ok (.ldiv, 1) := by decide +kernel
theorem d_M_run_146 : decode b_M_run 146 = .ok (.lstore 6, 2) := by decide +kernel
theorem d_M_run_148 : decode b_M_run 148 = .ok (.aload_n 0, 1) := by decide +kernel
theorem d_M_run_149 : decode b_M_run 149 = .ok (.invokevirtual 147, 3) := by decide +kernel
theorem d_M_run_152 : decode b_M_run 152 = .ok (.aload_n 0, 1) := by decide +kernel
theorem d_M_run_153 : decode b_M_run 153 = .ok (.lload 6, 2) := by decide +kernel
theorem d_M_run_155 : decode b_M_run 155 = .ok (.invokevirtual 156, 3) := by decide +kernel
theorem d_M_run_158 : decode b_M_run 158 = .ok (.iconst 0, 1) := by decide +kernel
theorem d_M_run_159 : decode b_M_run 159 = .ok (.istore 8, 2) := by decide +kernel
theorem d_M_run_161 : decode b_M_run 161 = .ok (.iload 8, 2) := by decide +kernel
theorem d_M_run_163 : decode b_M_run 163 = .ok (.aload_n 0, 1) := by decide +kernel
theorem d_M_run_164 : decode b_M_run 164 = .ok (.getfield 96, 3) := by decide +kernel
theorem d_M_run_167 : decode b_M_run 167 = .ok (.if_icmp .ge 32, 3) := by decide +kernel
theorem d_M_run_170 : decode b_M_run 170 = .ok (.aload_n 0, 1) := by decide +kernel
theorem d_M_run_171 : decode b_M_run 171 = .ok (.getfield 72, 3) := by decide +kernel
theorem d_M_run_174 : decode b_M_run 174 = .ok (.bipush 80, 2) := by decide +kernel
theorem d_M_run_176 : decode b_M_run 176 = .ok (.iload_n 1, 1) := by decide +kernel
theorem d_M_run_177 : decode b_M_run 177 = .ok (.imul, 1) := by decide +kernel
theorem d_M_run_178 : decode b_M_run 178 = .ok (.iconst 4, 1) := by decide +kernel
theorem d_M_run_179 : decode b_M_run 179 = .ok (.iload 8, 2) := by decide +kernel
theorem d_M_run_181 : decode b_M_run 181 = .ok (.imul, 1) := by decide +kernel
theorem d_M_run_182 : decode b_M_run 182 = .ok (.iadd, 1) := by decide +kernel
theorem d_M_run_183 : decode b_M_run 183 = .ok (.iload_n 3, 1) := by decide +kernel
theorem d_M_run_184 : decode b_M_run 184 = .ok (.iadd, 1) := by decide +kernel
theorem d_M_run_185 : decode b_M_run 185 = .ok (.aload_n 0, 1) := by decide +kernel
theorem d_M_run_186 : decode b_M_run 186 = .ok (.getfield 84, 3) := by decide +kernel
theorem d_M_run_189 : decode b_M_run 189 = .ok (.iload 8, 2) := by decide +kernel
theorem d_M_run_191 : decode b_M_run 191 = .ok (.laload, 1) := by decide +kernel
theorem d_M_run_192 : decode b_M_run 192 = .ok (.lastore, 1) := by decide +kernel
theorem d_M_run_193 : decode b_M_run 193 = .ok (.iinc 8 1, 3) := by decide +kernel
theorem d_M_run_196 : decode b_M_run 196 = .ok (.goto (-35), 3) := by decide +kernel
theorem d_M_run_199 : decode b_M_run 199 = .ok (.aload_n 0, 1) := by decide +kernel
theorem d_M_run_200 : decode b_M_run 200 = .ok (.iload_n 3, 1) := by decide +kernel
theorem d_M_run_201 : decode b_M_run 201 = .ok (.iload_n 1, 1) := by decide +kernel
theorem d_M_run_202 : decode b_M_run 202 = .ok (.invokevirtual 160, 3) := by decide +kernel
theorem d_M_run_205 : decode b_M_run 205 = .ok (.aload_n 0, 1) := by decide +kernel
theorem d_M_run_206 : decode b_M_run 206 = .ok (.lload 4, 2) := by decide +kernel
theorem d_M_run_208 : decode b_M_run 208 = .ok (.lload 6, 2) := by decide +kernel
theorem d_M_run_210 : decode b_M_run 210 = .ok (.lsub, 1) := by decide +kernel
theorem d_M_run_211 : decode b_M_run 211 = .ok (.invokevirtual 156, 3) := by decide +kernel
theorem d_M_run_214 : decode b_M_run 214 = .ok (.iconst 0, 1) := by decide +kernel
theorem d_M_run_215 : decode b_M_run 215 = .ok (.istore 8, 2) := by decide +kernel
theorem d_M_run_217 : decode b_M_run 217 = .ok (.iload 8, 2) := by decide +kernel
theorem d_M_run_219 : decode b_M_run 219 = .ok (.aload_n 0, 1) := by decide +kernel
theorem d_M_run_220 : decode b_M_run 220 = .ok (.getfield 96, 3) := by decide +kernel
theorem d_M_run_223 : decode b_M_run 223 = .ok (.if_icmp .ge 32, 3) := by decide +kernel
theorem d_M_run_226 : decode b_M_run 226 = .ok (.aload_n 0, 1) := by decide +kernel
theorem d_M_run_227 : decode b_M_run 227 = .ok (.getfield 75, 3) := by decide +kernel
theorem d_M_run_230 : decode b_M_run 230 = .ok (.bipush 80, 2) := by decide +kernel
theorem d_M_run_232 : decode b_M_run 232 = .ok (.iload_n 1, 1) := by decide +kernel
theorem d_M_run_233 : decode b_M_run 233 = .ok (.imul, 1) := by decide +kernel
theorem d_M_run_234 : decode b_M_run 234 = .ok (.iconst 4, 1) := by decide +kernel
theorem d_M_run_235 : decode b_M_run 235 = .ok (.iload 8, 2) := by decide +kernel
theorem d_M_run_237 : decode b_M_run 237 = .ok (.imul, 1) := by decide +kernel
theorem d_M_run_238 : decode b_M_run 238 = .ok (.iadd, 1) := by decide +kernel
theorem d_M_run_239 : decode b_M_run 239 = .ok (.iload_n 3, 1) := by decide +kernel
theorem d_M_run_240 : decode b_M_run 240 = .ok (.iadd, 1) := by decide +kernel
theorem d_M_run_241 : decode b_M_run 241 = .ok (.aload_n 0, 1) := by decide +kernel
theorem d_M_run_242 : decode b_M_run 242 = .ok (.getfield 84, 3) := by decide +kernel
theorem d_M_run_245 : decode b_M_run 245 = .ok (.iload 8, 2) := by decide +kernel
theorem d_M_run_247 : decode b_M_run 247 = .ok (.laload, 1) := by decide +kernel
theorem d_M_run_248 : decode b_M_run 248 = .ok (.lastore, 1) := by decide +kernel
theorem d_M_run_249 : decode b_M_run 249 = .ok (.iinc 8 1, 3) := by decide +kernel
theorem d_M_run_252 : decode b_M_run 252 = .ok (.goto (-35), 3) := by decide +kernel
theorem d_M_run_255 : decode b_M_run 255 = .ok (.iinc 3 1, 3) := by decide +kernel
theorem d_M_run_258 : decode b_M_run 258 = .ok (.goto (-144), 3) := by decide +kernel
theorem d_M_run_261 : decode b_M_run 261 = .ok (.aload_n 0, 1) := by decide +kernel
theorem d_M_run_262 : decode b_M_run 262 = .ok (.getfield 63, 3) := by decide +kernel
theorem d_M_run_265 : decode b_M_run 265 = .ok (.iload_n 1, 1) := by decide +kernel
theorem d_M_run_266 : decode b_M_run 266 = .ok (.iaload, 1) := by decide +kernel
theorem d_M_run_267 : decode b_M_run 267 = .ok (.ireturn, 1) := by decide +kernel
theorem cal_M_run : am_cal y_M_run b_M_run 9 ((Option.some FieldType.int)) 1 := ⟨Or.inl wx_818, wx_6, by decide, by decide +kernel⟩
abbrev y_M_shareOf : MethodName := ⟨"BillSharesModel", "shareOf", "(II)J"⟩
abbrev b_M_shareOf : ByteArray := prog_6_method_28_code
theorem d_M_shareOf_0 : decode b_M_shareOf 0 = .ok (.lconst 0, 1) := by decide +kernel
theorem d_M_shareOf_1 : decode b_M_shareOf 1 = .ok (.lstore_n 3, 1) := by decide +kernel
theorem d_M_shareOf_2 : decode b_M_shareOf 2 = .ok (.iconst 0, 1) := by decide +kernel
theorem d_M_shareOf_3 : decode b_M_shareOf 3 = .ok (.istore 5, 2) := by decide +kernel
theorem d_M_shareOf_5 : decode b_M_shareOf 5 = .ok (.iload 5, 2) := by decide +kernel
theorem d_M_shareOf_7 : decode b_M_shareOf 7 = .ok (.iconst 4, 1) := by decide +kernel
theorem d_M_shareOf_8 : decode b_M_shareOf 8 = .ok (.if_icmp .ge 45, 3) := by decide +kernel
theorem d_M_shareOf_11 : decode b_M_shareOf 11 = .ok (.lload_n 3, 1) := by decide +kernel
theorem d_M_shareOf_12 : decode b_M_shareOf 12 = .ok (.aload_n 0, 1) := by decide +kernel
theorem d_M_shareOf_13 : decode b_M_shareOf 13 = .ok (.getfield 72, 3) := by decide +kernel
theorem d_M_shareOf_16 : decode b_M_shareOf 16 = .ok (.bipush 80, 2) := by decide +kernel
theorem d_M_shareOf_18 : decode b_M_shareOf 18 = .ok (.iload_n 2, 1) := by decide +kernel
theorem d_M_shareOf_19 : decode b_M_shareOf 19 = .ok (.imul, 1) := by decide +kernel
theorem d_M_shareOf_20 : decode b_M_shareOf 20 = .ok (.iconst 4, 1) := by decide +kernel
theorem d_M_shareOf_21 : decode b_M_shareOf 21 = .ok (.iload_n 1, 1) := by decide +kernel
theorem d_M_shareOf_22 : decode b_M_shareOf 22 = .ok (.imul, 1) := by decide +kernel
theorem d_M_shareOf_23 : decode b_M_shareOf 23 = .ok (.iadd, 1) := by decide +kernel
theorem d_M_shareOf_24 : decode b_M_shareOf 24 = .ok (.iload 5, 2) := by decide +kernel
theorem d_M_shareOf_26 : decode b_M_shareOf 26 = .ok (.iadd, 1) := by decide +kernel
theorem d_M_shareOf_27 : decode b_M_shareOf 27 = .ok (.laload, 1) := by decide +kernel
theorem d_M_shareOf_28 : decode b_M_shareOf 28 = .ok (.aload_n 0, 1) := by decide +kernel
theorem d_M_shareOf_29 : decode b_M_shareOf 29 = .ok (.getfield 75, 3) := by decide +kernel
theorem d_M_shareOf_32 : decode b_M_shareOf 32 = .ok (.bipush 80, 2) := by decide +kernel
theorem d_M_shareOf_34 : decode b_M_shareOf 34 = .ok (.iload_n 2, 1) := by decide +kernel
theorem d_M_shareOf_35 : decode b_M_shareOf 35 = .ok (.imul, 1) := by decide +kernel
theorem d_M_shareOf_36 : decode b_M_shareOf 36 = .ok (.iconst 4, 1) := by decide +kernel
theorem d_M_shareOf_37 : decode b_M_shareOf 37 = .ok (.iload_n 1, 1) := by decide +kernel
theorem d_M_shareOf_38 : decode b_M_shareOf 38 = .ok (.imul, 1) := by decide +kernel
theorem d_M_shareOf_39 : decode b_M_shareOf 39 = .ok (.iadd, 1) := by decide +kernel
theorem d_M_shareOf_40 : decode b_M_shareOf 40 = .ok (.iload 5, 2) := by decide +kernel
theorem d_M_shareOf_42 : decode b_M_shareOf 42 = .ok (.iadd, 1) := by decide +kernel
theorem d_M_shareOf_43 : decode b_M_shareOf 43 = .ok (.laload, 1) := by decide +kernel
theorem d_M_shareOf_44 : decode b_M_shareOf 44 = .ok (.ladd, 1) := by decide +kernel
theorem d_M_shareOf_45 : decode b_M_shareOf 45 = .ok (.ladd, 1) := by decide +kernel
theorem d_M_shareOf_46 : decode b_M_shareOf 46 = .ok (.lstore_n 3, 1) := by decide +kernel
theorem d_M_shareOf_47 : decode b_M_shareOf 47 = .ok (.iinc 5 1, 3) := by decide +kernel
theorem d_M_shareOf_50 : decode b_M_shareOf 50 = .ok (.goto (-45), 3) := by decide +kernel
theorem d_M_shareOf_53 : decode b_M_shareOf 53 = .ok (.lload_n 3, 1) := by decide +kernel
theorem d_M_shareOf_54 : decode b_M_shareOf 54 = .ok (.lreturn, 1) := by decide +kernel
theorem cal_M_shareOf : am_cal y_M_shareOf b_M_shareOf 6 ((Option.some FieldType.long)) 2 := ⟨Or.inl wx_822, wx_6, by decide, by decide +kernel⟩
abbrev y_M_byAreas : MethodName := ⟨"BillSharesModel", "byAreas", "()V"⟩
abbrev b_M_byAreas : ByteArray := prog_6_method_26_code
theorem d_M_byAreas_0 : decode b_M_byAreas 0 = .ok (.iconst 0, 1) := by decide +kernel
theorem d_M_byAreas_1 : decode b_M_byAreas 1 = .ok (.istore_n 1, 1) := by decide +kernel
theorem d_M_byAreas_2 : decode b_M_byAreas 2 = .ok (.iload_n 1, 1) := by decide +kernel
theorem d_M_byAreas_3 : decode b_M_byAreas 3 = .ok (.aload_n 0, 1) := by decide +kernel
theorem d_M_byAreas_4 : decode b_M_byAreas 4 = .ok (.getfield 96, 3) := by decide +kernel
theorem d_M_byAreas_7 : decode b_M_byAreas 7 = .ok (.if_icmp .ge 22, 3) := by decide +kernel
theorem d_M_byAreas_10 : decode b_M_byAreas 10 = .ok (.aload_n 0, 1) := by decide +kernel
theorem d_M_byAreas_11 : decode b_M_byAreas 11 = .ok (.getfield 81, 3) := by decide +kernel
theorem d_M_byAreas_14 : decode b_M_byAreas 14 = .ok (.iload_n 1, 1) := by decide +kernel
theorem d_M_byAreas_15 : decode b_M_byAreas 15 = .ok (.aload_n 0, 1) := by decide +kernel
theorem d_M_byAreas_16 : decode b_M_byAreas 16 = .ok (.getfield 7, 3) := by decide +kernel
theorem d_M_byAreas_19 : decode b_M_byAreas 19 = .ok (.iload_n 1, 1) := by decide +kernel
theorem d_M_byAreas_20 : decode b_M_byAreas 20 = .ok (.iaload, 1) := by decide +kernel
theorem d_M_byAreas_21 : decode b_M_byAreas 21 = .ok (.i2l, 1) := by decide +kernel
theorem d_M_byAreas_22 : decode b_M_byAreas 22 = .ok (.lastore, 1) := by decide +kernel
theorem d_M_byAreas_23 : decode b_M_byAreas 23 = .ok (.iinc 1 1, 3) := by decide +kernel
theorem d_M_byAreas_26 : decode b_M_byAreas 26 = .ok (.goto (-24), 3) := by decide +kernel
theorem d_M_byAreas_29 : decode b_M_byAreas 29 = .ok (.return_, 1) := by decide +kernel
theorem cal_M_byAreas : am_cal y_M_byAreas b_M_byAreas 2 ((Option.none : Option FieldType)) 0 := ⟨Or.inl wx_827, wx_6, by decide, by decide +kernel⟩
abbrev y_M_deal : MethodName := ⟨"BillSharesModel", "deal", "(J)V"⟩
abbrev b_M_deal : ByteArray := prog_6_method_25_code
theorem d_M_deal_0 : decode b_M_deal 0 = .ok (.lconst 0, 1) := by decide +kernel
theorem d_M_deal_1 : decode b_M_deal 1 = .ok (.lstore_n 3, 1) := by decide +kernel
theorem d_M_deal_2 : decode b_M_deal 2 = .ok (.iconst 0, 1) := by decide +kernel
theorem d_M_deal_3 : decode b_M_deal 3 = .ok (.istore 5, 2) := by decide +kernel
theorem d_M_deal_5 : decode b_M_deal 5 = .ok (.iload 5, 2) := by decide +kernel
theorem d_M_deal_7 : decode b_M_deal 7 = .ok (.aload_n 0, 1) := by decide +kernel
theorem d_M_deal_8 : decode b_M_deal 8 = .ok (.getfield 96, 3) := by decide +kernel
theorem d_M_deal_11 : decode b_M_deal 11 = .ok (.if_icmp .ge 19, 3) := by decide +kernel
theorem d_M_deal_14 : decode b_M_deal 14 = .ok (.lload_n 3, 1) := by decide +kernel
theorem d_M_deal_15 : decode b_M_deal 15 = .ok (.aload_n 0, 1) := by decide +kernel
theorem d_M_deal_16 : decode b_M_deal 16 = .ok (.getfield 81, 3) := by decide +kernel
theorem d_M_deal_19 : decode b_M_deal 19 = .ok (.iload 5, 2) := by decide +kernel
theorem d_M_deal_21 : decode b_M_deal 21 = .ok (.laload, 1) := by decide +kernel
theorem d_M_deal_22 : decode b_M_deal 22 = .ok (.ladd, 1) := by decide +kernel
theorem d_M_deal_23 : decode b_M_deal 23 = .ok (.lstore_n 3, 1) := by decide +kernel
theorem d_M_deal_24 : decode b_M_deal 24 = .ok (.iinc 5 1, 3) := by decide +kernel
theorem d_M_deal_27 : decode b_M_deal 27 = .ok (.goto (-22), 3) := by decide +kernel
theorem d_M_deal_30 : decode b_M_deal 30 = .ok (.lload_n 1, 1) := by decide +kernel
theorem d_M_deal_31 : decode b_M_deal 31 = .ok (.lstore 5, 2) := by decide +kernel
theorem d_M_deal_33 : decode b_M_deal 33 = .ok (.iconst 0, 1) := by decide +kernel
theorem d_M_deal_34 : decode b_M_deal 34 = .ok (.istore 7, 2) := by decide +kernel
theorem d_M_deal_36 : decode b_M_deal 36 = .ok (.iload 7, 2) := by decide +kernel
theorem d_M_deal_38 : decode b_M_deal 38 = .ok (.aload_n 0, 1) := by decide +kernel
theorem d_M_deal_39 : decode b_M_deal 39 = .ok (.getfield 96, 3) := by decide +kernel
theorem d_M_deal_42 : decode b_M_deal 42 = .ok (.if_icmp .ge 40, 3) := by decide +kernel
theorem d_M_deal_45 : decode b_M_deal 45 = .ok (.aload_n 0, 1) := by decide +kernel
theorem d_M_deal_46 : decode b_M_deal 46 = .ok (.getfield 84, 3) := by decide +kernel
theorem d_M_deal_49 : decode b_M_deal 49 = .ok (.iload 7, 2) := by decide +kernel
theorem d_M_deal_51 : decode b_M_deal 51 = .ok (.lload_n 1, 1) := by decide +kernel
theorem d_M_deal_52 : decode b_M_deal 52 = .ok (.aload_n 0, 1) := by decide +kernel
theorem d_M_deal_53 : decode b_M_deal 53 = .ok (.getfield 81, 3) := by decide +kernel
theorem d_M_deal_56 : decode b_M_deal 56 = .ok (.iload 7, 2) := by decide +kernel
theorem d_M_deal_58 : decode b_M_deal 58 = .ok (.laload, 1) := by decide +kernel
theorem d_M_deal_59 : decode b_M_deal 59 = .ok (.lload_n 3, 1) := by decide +kernel
theorem d_M_deal_60 : decode b_M_deal 60 = .ok (.invokestatic 131, 3) := by decide +kernel
theorem d_M_deal_63 : decode b_M_deal 63 = .ok (.lastore, 1) := by decide +kernel
theorem d_M_deal_64 : decode b_M_deal 64 = .ok (.lload 5, 2) := by decide +kernel
theorem d_M_deal_66 : decode b_M_deal 66 = .ok (.aload_n 0, 1) := by decide +kernel
theorem d_M_deal_67 : decode b_M_deal 67 = .ok (.getfield 84, 3) := by decide +kernel
theorem d_M_deal_70 : decode b_M_deal 70 = .ok (.iload 7, 2) := by decide +kernel
theorem d_M_deal_72 : decode b_M_deal 72 = .ok (.laload, 1) := by decide +kernel
theorem d_M_deal_73 : decode b_M_deal 73 = .ok (.lsub, 1) := by decide +kernel
theorem d_M_deal_74 : decode b_M_deal 74 = .ok (.lstore 5, 2) := by decide +kernel
theorem d_M_deal_76 : decode b_M_deal 76 = .ok (.iinc 7 1, 3) := by decide +kernel
theorem d_M_deal_79 : decode b_M_deal 79 = .ok (.goto (-43), 3) := by decide +kernel
theorem d_M_deal_82 : decode b_M_deal 82 = .ok (.iconst 0, 1) := by decide +kernel
theorem d_M_deal_83 : decode b_M_deal 83 = .ok (.istore 7, 2) := by decide +kernel
theorem d_M_deal_85 : decode b_M_deal 85 = .ok (.iload 7, 2) := by decide +kernel
theorem d_M_deal_87 : decode b_M_deal 87 = .ok (.aload_n 0, 1) := by decide +kernel
theorem d_M_deal_88 : decode b_M_deal 88 = .ok (.getfield 96, 3) := by decide +kernel
theorem d_M_deal_91 : decode b_M_deal 91 = .ok (.if_icmp .ge 37, 3) := by decide +kernel
theorem d_M_deal_94 : decode b_M_deal 94 = .ok (.aload_n 0, 1) := by decide +kernel
theorem d_M_deal_95 : decode b_M_deal 95 = .ok (.getfield 84, 3) := by decide +kernel
theorem d_M_deal_98 : decode b_M_deal 98 = .ok (.iload 7, 2) := by decide +kernel
theorem d_M_deal_100 : decode b_M_deal 100 = .ok (.dup2, 1) := by decide +kernel
theorem d_M_deal_101 : decode b_M_deal 101 = .ok (.laload, 1) := by decide +kernel
theorem d_M_deal_102 : decode b_M_deal 102 = .ok (.aload_n 0, 1) := by decide +kernel
theorem d_M_deal_103 : decode b_M_deal 103 = .ok (.iload 7, 2) := by decide +kernel
theorem d_M_deal_105 : decode b_M_deal 105 = .ok (.invokevirtual 135, 3) := by decide +kernel
theorem d_M_deal_108 : decode b_M_deal 108 = .ok (.i2l, 1) := by decide +kernel
theorem d_M_deal_109 : decode b_M_deal 109 = .ok (.lload 5, 2) := by decide +kernel
theorem d_M_deal_111 : decode b_M_deal 111 = .ok (.lcmp, 1) := by decide +kernel
theorem d_M_deal_112 : decode b_M_deal 112 = .ok (.ifCond .ge 7, 3) := by decide +kernel
theorem d_M_deal_115 : decode b_M_deal 115 = .ok (.lconst 1, 1) := by decide +kernel
theorem d_M_deal_116 : decode b_M_deal 116 = .ok (.goto 4, 3) := by decide +kernel
theorem d_M_deal_119 : decode b_M_deal 119 = .ok (.lconst 0, 1) := by decide +kernel
theorem d_M_deal_120 : decode b_M_deal 120 = .ok (.ladd, 1) := by decide +kernel
theorem d_M_deal_121 : decode b_M_deal 121 = .ok (.lastore, 1) := by decide +kernel
theorem d_M_deal_122 : decode b_M_deal 122 = .ok (.iinc 7 1, 3) := by decide +kernel
theorem d_M_deal_125 : decode b_M_deal 125 = .ok (.goto (-40), 3) := by decide +kernel
theorem d_M_deal_128 : decode b_M_deal 128 = .ok (.return_, 1) := by decide +kernel
theorem cal_M_deal : am_cal y_M_deal b_M_deal 8 ((Option.none : Option FieldType)) 1 := ⟨Or.inl wx_831, wx_6, by decide, by decide +kernel⟩
abbrev y_M_portion : MethodName := ⟨"BillSharesModel", "portion", "(JJJ)J"⟩
abbrev b_M_portion : ByteArray := prog_6_method_23_code
theorem d_M_portion_0 : decode b_M_portion 0 = .ok (.lload_n 2, 1) := by decide +kernel
theorem d_M_portion_1 : decode b_M_portion 1 = .ok (.lload 4, 2) := by decide +kernel
theorem d_M_portion_3 : decode b_M_portion 3 = .ok (.ldiv, 1) := by decide +kernel
theorem d_M_portion_4 : decode b_M_portion 4 = .ok (.lload_n 0, 1) := by decide +kernel
theorem d_M_portion_5 : decode b_M_portion 5 = .ok (.lmul, 1) := by decide +kernel
theorem d_M_portion_6 : decode b_M_portion 6 = .ok (.lstore 6, 2) := by decide +kernel
theorem d_M_portion_8 : decode b_M_portion 8 = .ok (.lload_n 2, 1) := by decide +kernel
theorem d_M_portion_9 : decode b_M_portion 9 = .ok (.lload 4, 2) := by decide +kernel
theorem d_M_portion_11 : decode b_M_portion 11 = .ok (.lrem, 1) := by decide +kernel
theorem d_M_portion_12 : decode b_M_portion 12 = .ok (.lstore 8, 2) := by decide +kernel
theorem d_M_portion_14 : decode b_M_portion 14 = .ok (.lconst 0, 1) := by decide +kernel
theorem d_M_portion_15 : decode b_M_portion 15 = .ok (.lstore 10, 2) := by decide +kernel
theorem d_M_portion_17 : decode b_M_portion 17 = .ok (.lconst 0, 1) := by decide +kernel
theorem d_M_portion_18 : decode b_M_portion 18 = .ok (.lstore 12, 2) := by decide +kernel
theorem d_M_portion_20 : decode b_M_portion 20 = .ok (.bipush 30, 2) := by decide +kernel
theorem d_M_portion_22 : decode b_M_portion 22 = .ok (.istore 14, 2) := by decide +kernel
theorem d_M_portion_24 : decode b_M_portion 24 = .ok (.iload 14, 2) := by decide +kernel
theorem d_M_portion_26 : decode b_M_portion 26 = .ok (.ifCond .lt 141, 3) := by decide +kernel
theorem d_M_portion_29 : decode b_M_portion 29 = .ok (.lload 10, 2) := by decide +kernel
theorem d_M_portion_31 : decode b_M_portion 31 = .ok (.ldc2_w 129, 3) := by decide +kernel
theorem d_M_portion_34 : decode b_M_portion 34 = .ok (.lmul, 1) := by decide +kernel
theorem d_M_portion_35 : decode b_M_portion 35 = .ok (.lstore 10, 2) := by decide +kernel
theorem d_M_portion_37 : decode b_M_portion 37 = .ok (.lload 12, 2) := by decide +kernel
theorem d_M_portion_39 : decode b_M_portion 39 = .ok (.lload 4, 2) := by decide +kernel
theorem d_M_portion_41 : decode b_M_portion 41 = .ok (.lload 12, 2) := by decide +kernel
theorem d_M_portion_43 : decode b_M_portion 43 = .ok (.lsub, 1) := by decide +kernel
theorem d_M_portion_44 : decode b_M_portion 44 = .ok (.lcmp, 1) := by decide +kernel
theorem d_M_portion_45 : decode b_M_portion 45 = .ok (.ifCond .lt 7, 3) := by decide +kernel
theorem d_M_portion_48 : decode b_M_portion 48 = .ok (.iconst 1, 1) := by decide +kernel
theorem d_M_portion_49 : decode b_M_portion 49 = .ok (.goto 4, 3) := by decide +kernel
theorem d_M_portion_52 : decode b_M_portion 52 = .ok (.iconst 0, 1) := by decide +kernel
theorem d_M_portion_53 : decode b_M_portion 53 = .ok (.istore 15, 2) := by decide +kernel
theorem d_M_portion_55 : decode b_M_portion 55 = .ok (.iload 15, 2) := by decide +kernel
theorem d_M_portion_57 : decode b_M_portion 57 = .ok (.ifCond .eq 14, 3) := by decide +kernel
theorem d_M_portion_60 : decode b_M_portion 60 = .ok (.lload 12, 2) := by decide +kernel
theorem d_M_portion_62 : decode b_M_portion 62 = .ok (.lload 4, 2) := by decide +kernel
theorem d_M_portion_64 : decode b_M_portion 64 = .ok (.lload 12, 2) := by decide +kernel
theorem d_M_portion_66 : decode b_M_portion 66 = .ok (.lsub, 1) := by decide +kernel
theorem d_M_portion_67 : decode b_M_portion 67 = .ok (.lsub, 1) := by decide +kernel
theorem d_M_portion_68 : decode b_M_portion 68 = .ok (.goto 9, 3) := by decide +kernel
theorem d_M_portion_71 : decode b_M_portion 71 = .ok (.ldc2_w 129, 3) := by decide +kernel
theorem d_M_portion_74 : decode b_M_portion 74 = .ok (.lload 12, 2) := by decide +kernel
theorem d_M_portion_76 : decode b_M_portion 76 = .ok (.lmul, 1) := by decide +kernel
theorem d_M_portion_77 : decode b_M_portion 77 = .ok (.lstore 12, 2) := by decide +kernel
theorem d_M_portion_79 : decode b_M_portion 79 = .ok (.lload 10, 2) := by decide +kernel
theorem d_M_portion_81 : decode b_M_portion 81 = .ok (.iload 15, 2) := by decide +kernel
theorem d_M_portion_83 : decode b_M_portion 83 = .ok (.ifCond .eq 7, 3) := by decide +kernel
theorem d_M_portion_86 : decode b_M_portion 86 = .ok (.lconst 1, 1) := by decide +kernel
theorem d_M_portion_87 : decode b_M_portion 87 = .ok (.goto 4, 3) := by decide +kernel
theorem d_M_portion_90 : decode b_M_portion 90 = .ok (.lconst 0, 1) := by decide +kernel
theorem d_M_portion_91 : decode b_M_portion 91 = .ok (.ladd, 1) := by decide +kernel
theorem d_M_portion_92 : decode b_M_portion 92 = .ok (.lstore 10, 2) := by decide +kernel
theorem d_M_portion_94 : decode b_M_portion 94 = .ok (.lload_n 0, 1) := by decide +kernel
theorem d_M_portion_95 : decode b_M_portion 95 = .ok (.iload 14, 2) := by decide +kernel
theorem d_M_portion_97 : decode b_M_portion 97 = .ok (.lshr, 1) := by decide +kernel
theorem d_M_portion_98 : decode b_M_portion 98 = .ok (.lconst 1, 1) := by decide +kernel
theorem d_M_portion_99 : decode b_M_portion 99 = .ok (.land, 1) := by decide +kernel
theorem d_M_portion_100 : decode b_M_portion 100 = .ok (.lconst 1, 1) := by decide +kernel
theorem d_M_portion_101 : decode b_M_portion 101 = .ok (.lcmp, 1) := by decide +kernel
theorem d_M_portion_102 : decode b_M_portion 102 = .ok (.ifCond .ne 59, 3) := by decide +kernel
theorem d_M_portion_105 : decode b_M_portion 105 = .ok (.lload 12, 2) := by decide +kernel
theorem d_M_portion_107 : decode b_M_portion 107 = .ok (.lload 4, 2) := by decide +kernel
theorem d_M_portion_109 : decode b_M_portion 109 = .ok (.lload 8, 2) := by decide +kernel
theorem d_M_portion_111 : decode b_M_portion 111 = .ok (.lsub, 1) := by decide +kernel
theorem d_M_portion_112 : decode b_M_portion 112 = .ok (.lcmp, 1) := by decide +kernel
theorem d_M_portion_113 : decode b_M_portion 113 = .ok (.ifCond .lt 7, 3) := by decide +kernel
theorem d_M_portion_116 : decode b_M_portion 116 = .ok (.iconst 1, 1) := by decide +kernel
theorem d_M_portion_117 : decode b_M_portion 117 = .ok (.goto 4, 3) := by decide +kernel
theorem d_M_portion_120 : decode b_M_portion 120 = .ok (.iconst 0, 1) := by decide +kernel
theorem d_M_portion_121 : decode b_M_portion 121 = .ok (.istore 16, 2) := by decide +kernel
theorem d_M_portion_123 : decode b_M_portion 123 = .ok (.iload 16, 2) := by decide +kernel
theorem d_M_portion_125 : decode b_M_portion 125 = .ok (.ifCond .eq 14, 3) := by decide +kernel
theorem d_M_portion_128 : decode b_M_portion 128 = .ok (.lload 12, 2) := by decide +kernel
theorem d_M_portion_130 : decode b_M_portion 130 = .ok (.lload 4, 2) := by decide +kernel
theorem d_M_portion_132 : decode b_M_portion 132 = .ok (.lload 8, 2) := by decide +kernel
theorem d_M_portion_134 : decode b_M_portion 134 = .ok (.lsub, 1) := by decide +kernel
theorem d_M_portion_135 : decode b_M_portion 135 = .ok (.lsub, 1) := by decide +kernel
theorem d_M_portion_136 : decode b_M_portion 136 = .ok (.goto 8, 3) := by decide +kernel
theorem d_M_portion_139 : decode b_M_portion 139 = .ok (.lload 12, 2) := by decide +kernel
theorem d_M_portion_141 : decode b_M_portion 141 = .ok (.lload 8, 2) := by decide +kernel
theorem d_M_portion_143 : decode b_M_portion 143 = .ok (.ladd, 1) := by decide +kernel
theorem d_M_portion_144 : decode b_M_portion 144 = .ok (.lstore 12, 2) := by decide +kernel
theorem d_M_portion_146 : decode b_M_portion 146 = .ok (.lload 10, 2) := by decide +kernel
theorem d_M_portion_148 : decode b_M_portion 148 = .ok (.iload 16, 2) := by decide +kernel
theorem d_M_portion_150 : decode b_M_portion 150 = .ok (.ifCond .eq 7, 3) := by decide +kernel
theorem d_M_portion_153 : decode b_M_portion 153 = .ok (.lconst 1, 1) := by decide +kernel
theorem d_M_portion_154 : decode b_M_portion 154 = .ok (.goto 4, 3) := by decide +kernel
theorem d_M_portion_157 : decode b_M_portion 157 = .ok (.lconst 0, 1) := by decide +kernel
theorem d_M_portion_158 : decode b_M_portion 158 = .ok (.ladd, 1) := by decide +kernel
theorem d_M_portion_159 : decode b_M_portion 159 = .ok (.lstore 10, 2) := by decide +kernel
theorem d_M_portion_161 : decode b_M_portion 161 = .ok (.iinc 14 (-1), 3) := by decide +kernel
theorem d_M_portion_164 : decode b_M_portion 164 = .ok (.goto (-140), 3) := by decide +kernel
theorem d_M_portion_167 : decode b_M_portion 167 = .ok (.lload 6, 2) := by decide +kernel
theorem d_M_portion_169 : decode b_M_portion 169 = .ok (.lload 10, 2) := by decide +kernel
theorem d_M_portion_171 : decode b_M_portion 171 = .ok (.ladd, 1) := by decide +kernel
theorem d_M_portion_172 : decode b_M_portion 172 = .ok (.lreturn, 1) := by decide +kernel
theorem cal_M_portion : am_cal y_M_portion b_M_portion 17 ((Option.some FieldType.long)) 3 := ⟨Or.inl wx_834, wx_6, by decide, by decide +kernel⟩
abbrev y_M_before : MethodName := ⟨"BillSharesModel", "before", "(I)I"⟩
abbrev b_M_before : ByteArray := prog_6_method_24_code
theorem d_M_before_0 : decode b_M_before 0 = .ok (.iconst 0, 1) := by decide +kernel
theorem d_M_before_1 : decode b_M_before 1 = .ok (.istore_n 2, 1) := by decide +kernel
theorem d_M_before_2 : decode b_M_before 2 = .ok (.iconst 0, 1) := by decide +kernel
theorem d_M_before_3 : decode b_M_before 3 = .ok (.istore_n 3, 1) := by decide +kernel
theorem d_M_before_4 : decode b_M_before 4 = .ok (.iload_n 3, 1) := by decide +kernel
theorem d_M_before_5 : decode b_M_before 5 = .ok (.aload_n 0, 1) := by decide +kernel
theorem d_M_before_6 : decode b_M_before 6 = .ok (.getfield 96, 3) := by decide +kernel
theorem d_M_before_9 : decode b_M_before 9 = .ok (.if_icmp .ge 52, 3) := by decide +kernel
theorem d_M_before_12 : decode b_M_before 12 = .ok (.iload_n 2, 1) := by decide +kernel
theorem d_M_before_13 : decode b_M_before 13 = .ok (.aload_n 0, 1) := by decide +kernel
theorem d_M_before_14 : decode b_M_before 14 = .ok (.getfield 13, 3) := by decide +kernel
theorem d_M_before_17 : decode b_M_before 17 = .ok (.iload_n 3, 1) := by decide +kernel
theorem d_M_before_18 : decode b_M_before 18 = .ok (.iaload, 1) := by decide +kernel
theorem d_M_before_19 : decode b_M_before 19 = .ok (.aload_n 0, 1) := by decide +kernel
theorem d_M_before_20 : decode b_M_before 20 = .ok (.getfield 13, 3) := by decide +kernel
theorem d_M_before_23 : decode b_M_before 23 = .ok (.iload_n 1, 1) := by decide +kernel
theorem d_M_before_24 : decode b_M_before 24 = .ok (.iaload, 1) := by decide +kernel
theorem d_M_before_25 : decode b_M_before 25 = .ok (.if_icmp .lt 23, 3) := by decide +kernel
theorem d_M_before_28 : decode b_M_before 28 = .ok (.aload_n 0, 1) := by decide +kernel
theorem d_M_before_29 : decode b_M_before 29 = .ok (.getfield 13, 3) := by decide +kernel
theorem d_M_before_32 : decode b_M_before 32 = .ok (.iload_n 3, 1) := by decide +kernel
theorem d_M_before_33 : decode b_M_before 33 = .ok (.iaload, 1) := by decide +kernel
theorem d_M_before_34 : decode b_M_before 34 = .ok (.aload_n 0, 1) := by decide +kernel
theorem d_M_before_35 : decode b_M_before 35 = .ok (.getfield 13, 3) := by decide +kernel
theorem d_M_before_38 : decode b_M_before 38 = .ok (.iload_n 1, 1) := by decide +kernel
theorem d_M_before_39 : decode b_M_before 39 = .ok (.iaload, 1) := by decide +kernel
theorem d_M_before_40 : decode b_M_before 40 = .ok (.if_icmp .ne 12, 3) := by decide +kernel
theorem d_M_before_43 : decode b_M_before 43 = .ok (.iload_n 3, 1) := by decide +kernel
theorem d_M_before_44 : decode b_M_before 44 = .ok (.iload_n 1, 1) := by decide +kernel
theorem d_M_before_45 : decode b_M_before 45 = .ok (.if_icmp .ge 7, 3) := by decide +kernel
theorem d_M_before_48 : decode b_M_before 48 = .ok (.iconst 1, 1) := by decide +kernel
theorem d_M_before_49 : decode b_M_before 49 = .ok (.goto 4, 3) := by decide +kernel
theorem d_M_before_52 : decode b_M_before 52 = .ok (.iconst 0, 1) := by decide +kernel
theorem d_M_before_53 : decode b_M_before 53 = .ok (.iadd, 1) := by decide +kernel
theorem d_M_before_54 : decode b_M_before 54 = .ok (.istore_n 2, 1) := by decide +kernel
theorem d_M_before_55 : decode b_M_before 55 = .ok (.iinc 3 1, 3) := by decide +kernel
theorem d_M_before_58 : decode b_M_before 58 = .ok (.goto (-54), 3) := by decide +kernel
theorem d_M_before_61 : decode b_M_before 61 = .ok (.iload_n 2, 1) := by decide +kernel
theorem d_M_before_62 : decode b_M_before 62 = .ok (.ireturn, 1) := by decide +kernel
theorem cal_M_before : am_cal y_M_before b_M_before 4 ((Option.some FieldType.int)) 1 := ⟨Or.inl wx_839, wx_6, by decide, by decide +kernel⟩
abbrev y_M_byUses : MethodName := ⟨"BillSharesModel", "byUses", "(II)V"⟩
abbrev b_M_byUses : ByteArray := prog_6_method_27_code
theorem d_M_byUses_0 : decode b_M_byUses 0 = .ok (.lconst 0, 1) := by decide +kernel
theorem d_M_byUses_1 : decode b_M_byUses 1 = .ok (.lstore_n 3, 1) := by decide +kernel
theorem d_M_byUses_2 : decode b_M_byUses 2 = .ok (.lconst 0, 1) := by decide +kernel
theorem d_M_byUses_3 : decode b_M_byUses 3 = .ok (.lstore 5, 2) := by decide +kernel
theorem d_M_byUses_5 : decode b_M_byUses 5 = .ok (.iconst 0, 1) := by decide +kernel
theorem d_M_byUses_6 : decode b_M_byUses 6 = .ok (.istore 7, 2) := by decide +kernel
theorem d_M_byUses_8 : decode b_M_byUses 8 = .ok (.iload 7, 2) := by decide +kernel
theorem d_M_byUses_10 : decode b_M_byUses 10 = .ok (.aload_n 0, 1) := by decide +kernel
theorem d_M_byUses_11 : decode b_M_byUses 11 = .ok (.getfield 96, 3) := by decide +kernel
theorem d_M_byUses_14 : decode b_M_byUses 14 = .ok (.if_icmp .ge 96, 3) := by decide +kernel
theorem d_M_byUses_17 : decode b_M_byUses 17 = .ok (.aload_n 0, 1) := by decide +kernel
theorem d_M_byUses_18 : decode b_M_byUses 18 = .ok (.iload 7, 2) := by decide +kernel
theorem d_M_byUses_20 : decode b_M_byUses 20 = .ok (.iload_n 1, 1) := by decide +kernel
theorem d_M_byUses_21 : decode b_M_byUses 21 = .ok (.iload_n 2, 1) := by decide +kernel
theorem d_M_byUses_22 : decode b_M_byUses 22 = .ok (.invokevirtual 139, 3) := by decide +kernel
theorem d_M_byUses_25 : decode b_M_byUses 25 = .ok (.ifCond .ne 7, 3) := by decide +kernel
theorem d_M_byUses_28 : decode b_M_byUses 28 = .ok (.iconst 1, 1) := by decide +kernel
theorem d_M_byUses_29 : decode b_M_byUses 29 = .ok (.goto 4, 3) := by decide +kernel
theorem d_M_byUses_32 : decode b_M_byUses 32 = .ok (.iconst 0, 1) := by decide +kernel
theorem d_M_byUses_33 : decode b_M_byUses 33 = .ok (.istore 8, 2) := by decide +kernel
theorem d_M_byUses_35 : decode b_M_byUses 35 = .ok (.aload_n 0, 1) := by decide +kernel
theorem d_M_byUses_36 : decode b_M_byUses 36 = .ok (.getfield 81, 3) := by decide +kernel
theorem d_M_byUses_39 : decode b_M_byUses 39 = .ok (.iload 7, 2) := by decide +kernel
theorem d_M_byUses_41 : decode b_M_byUses 41 = .ok (.iload 8, 2) := by decide +kernel
theorem d_M_byUses_43 : decode b_M_byUses 43 = .ok (.ifCond .eq 27, 3) := by decide +kernel
theorem d_M_byUses_46 : decode b_M_byUses 46 = .ok (.aload_n 0, 1) := by decide +kernel
theorem d_M_byUses_47 : decode b_M_byUses 47 = .ok (.iload 7, 2) := by decide +kernel
theorem d_M_byUses_49 : decode b_M_byUses 49 = .ok (.iload_n 1, 1) := by decide +kernel
theorem d_M_byUses_50 : decode b_M_byUses 50 = .ok (.sipush 365, 3) := by decide +kernel
theorem d_M_byUses_53 : decode b_M_byUses 53 = .ok (.iload_n 2, 1) := by decide +kernel
theorem d_M_byUses_54 : decode b_M_byUses 54 = .ok (.imul, 1) := by decide +kernel
theorem d_M_byUses_55 : decode b_M_byUses 55 = .ok (.sipush 365, 3) := by decide +kernel
theorem d_M_byUses_58 : decode b_M_byUses 58 = .ok (.iload_n 2, 1) := by decide +kernel
theorem d_M_byUses_59 : decode b_M_byUses 59 = .ok (.imul, 1) := by decide +kernel
theorem d_M_byUses_60 : decode b_M_byUses 60 = .ok (.sipush 365, 3) := by decide +kernel
theorem d_M_byUses_63 : decode b_M_byUses 63 = .ok (.iadd, 1) := by decide +kernel
theorem d_M_byUses_64 : decode b_M_byUses 64 = .ok (.invokevirtual 143, 3) := by decide +kernel
theorem d_M_byUses_67 : decode b_M_byUses 67 = .ok (.goto 4, 3) := by decide +kernel
theorem d_M_byUses_70 : decode b_M_byUses 70 = .ok (.lconst 0, 1) := by decide +kernel
theorem d_M_byUses_71 : decode b_M_byUses 71 = .ok (.lastore, 1) := by decide +kernel
theorem d_M_byUses_72 : decode b_M_byUses 72 = .ok (.lload_n 3, 1) := by decide +kernel
theorem d_M_byUses_73 : decode b_M_byUses 73 = .ok (.aload_n 0, 1) := by decide +kernel
theorem d_M_byUses_74 : decode b_M_byUses 74 = .ok (.getfield 81, 3) := by decide +kernel
theorem d_M_byUses_77 : decode b_M_byUses 77 = .ok (.iload 7, 2) := by decide +kernel
theorem d_M_byUses_79 : decode b_M_byUses 79 = .ok (.laload, 1) := by decide +kernel
theorem d_M_byUses_80 : decode b_M_byUses 80 = .ok (.ladd, 1) := by decide +kernel
theorem d_M_byUses_81 : decode b_M_byUses 81 = .ok (.lstore_n 3, 1) := by decide +kernel
theorem d_M_byUses_82 : decode b_M_byUses 82 = .ok (.lload 5, 2) := by decide +kernel
theorem d_M_byUses_84 : decode b_M_byUses 84 = .ok (.iload 8, 2) := by decide +kernel
theorem d_M_byUses_86 : decode b_M_byUses 86 = .ok (.ifCond .eq 14, 3) := by decide +kernel
theorem d_M_byUses_89 : decode b_M_byUses 89 = .ok (.aload_n 0, 1) := by decide +kernel
theorem d_M_byUses_90 : decode b_M_byUses 90 = .ok (.getfield 7, 3) := by decide +kernel
theorem d_M_byUses_93 : decode b_M_byUses 93 = .ok (.iload 7, 2) := by decide +kernel
theorem d_M_byUses_95 : decode b_M_byUses 95 = .ok (.iaload, 1) := by decide +kernel
theorem d_M_byUses_96 : decode b_M_byUses 96 = .ok (.i2l, 1) := by decide +kernel
theorem d_M_byUses_97 : decode b_M_byUses 97 = .ok (.goto 4, 3) := by decide +kernel
theorem d_M_byUses_100 : decode b_M_byUses 100 = .ok (.lconst 0, 1) := by decide +kernel
theorem d_M_byUses_101 : decode b_M_byUses 101 = .ok (.ladd, 1) := by decide +kernel
theorem d_M_byUses_102 : decode b_M_byUses 102 = .ok (.lstore 5, 2) := by decide +kernel
theorem d_M_byUses_104 : decode b_M_byUses 104 = .ok (.iinc 7 1, 3) := by decide +kernel
theorem d_M_byUses_107 : decode b_M_byUses 107 = .ok (.goto (-99), 3) := by decide +kernel
theorem d_M_byUses_110 : decode b_M_byUses 110 = .ok (.iconst 0, 1) := by decide +kernel
theorem d_M_byUses_111 : decode b_M_byUses 111 = .ok (.istore 7, 2) := by decide +kernel
theorem d_M_byUses_113 : decode b_M_byUses 113 = .ok (.iload 7, 2) := by decide +kernel
theorem d_M_byUses_115 : decode b_M_byUses 115 = .ok (.aload_n 0, 1) := by decide +kernel
theorem d_M_byUses_116 : decode b_M_byUses 116 = .ok (.getfield 96, 3) := by decide +kernel
theorem d_M_byUses_119 : decode b_M_byUses 119 = .ok (.if_icmp .ge 57, 3) := by decide +kernel
theorem d_M_byUses_122 : decode b_M_byUses 122 = .ok (.aload_n 0, 1) := by decide +kernel
theorem d_M_byUses_123 : decode b_M_byUses 123 = .ok (.getfield 81, 3) := by decide +kernel
theorem d_M_byUses_126 : decode b_M_byUses 126 = .ok (.iload 7, 2) := by decide +kernel
theorem d_M_byUses_128 : decode b_M_byUses 128 = .ok (.aload_n 0, 1) := by decide +kernel
theorem d_M_byUses_129 : decode b_M_byUses 129 = .ok (.iload 7, 2) := by decide +kernel
theorem d_M_byUses_131 : decode b_M_byUses 131 = .ok (.iload_n 1, 1) := by decide +kernel
theorem d_M_byUses_132 : decode b_M_byUses 132 = .ok (.iload_n 2, 1) := by decide +kernel
theorem d_M_byUses_133 : decode b_M_byUses 133 = .ok (.invokevirtual 139, 3) := by decide +kernel
theorem d_M_byUses_136 : decode b_M_byUses 136 = .ok (.ifCond .le 26, 3) := by decide +kernel
theorem d_M_byUses_139 : decode b_M_byUses 139 = .ok (.lload 5, 2) := by decide +kernel
theorem d_M_byUses_141 : decode b_M_byUses 141 = .ok (.lconst 0, 1) := by decide +kernel
theorem d_M_byUses_142 : decode b_M_byUses 142 = .ok (.lcmp, 1) := by decide +kernel
theorem d_M_byUses_143 : decode b_M_byUses 143 = .ok (.ifCond .le 19, 3) := by decide +kernel
theorem d_M_byUses_146 : decode b_M_byUses 146 = .ok (.lload_n 3, 1) := by decide +kernel
theorem d_M_byUses_147 : decode b_M_byUses 147 = .ok (.aload_n 0, 1) := by decide +kernel
theorem d_M_byUses_148 : decode b_M_byUses 148 = .ok (.getfield 7, 3) := by decide +kernel
theorem d_M_byUses_151 : decode b_M_byUses 151 = .ok (.iload 7, 2) := by decide +kernel
theorem d_M_byUses_153 : decode b_M_byUses 153 = .ok (.iaload, 1) := by decide +kernel
theorem d_M_byUses_154 : decode b_M_byUses 154 = .ok (.i2l, 1) := by decide +kernel
theorem d_M_byUses_155 : decode b_M_byUses 155 = .ok (.lmul, 1) := by decide +kernel
theorem d_M_byUses_156 : decode b_M_byUses 156 = .ok (.lload 5, 2) := by decide +kernel
theorem d_M_byUses_158 : decode b_M_byUses 158 = .ok (.ldiv, 1) := by decide +kernel
theorem d_M_byUses_159 : decode b_M_byUses 159 = .ok (.goto 10, 3) := by decide +kernel
theorem d_M_byUses_162 : decode b_M_byUses 162 = .ok (.aload_n 0, 1) := by decide +kernel
theorem d_M_byUses_163 : decode b_M_byUses 163 = .ok (.getfield 81, 3) := by decide +kernel
theorem d_M_byUses_166 : decode b_M_byUses 166 = .ok (.iload 7, 2) := by decide +kernel
theorem d_M_byUses_168 : decode b_M_byUses 168 = .ok (.laload, 1) := by decide +kernel
theorem d_M_byUses_169 : decode b_M_byUses 169 = .ok (.lastore, 1) := by decide +kernel
theorem d_M_byUses_170 : decode b_M_byUses 170 = .ok (.iinc 7 1, 3) := by decide +kernel
theorem d_M_byUses_173 : decode b_M_byUses 173 = .ok (.goto (-60), 3) := by decide +kernel
theorem d_M_byUses_176 : decode b_M_byUses 176 = .ok (.lload_n 3, 1) := by decide +kernel
theorem d_M_byUses_177 : decode b_M_byUses 177 = .ok (.lconst 0, 1) := by decide +kernel
theorem d_M_byUses_178 : decode b_M_byUses 178 = .ok (.lcmp, 1) := by decide +kernel
theorem d_M_byUses_179 : decode b_M_byUses 179 = .ok (.ifCond .ne 7, 3) := by decide +kernel
theorem d_M_byUses_182 : decode b_M_byUses 182 = .ok (.aload_n 0, 1) := by decide +kernel
theorem d_M_byUses_183 : decode b_M_byUses 183 = .ok (.invokevirtual 147, 3) := by decide +kernel
theorem d_M_byUses_186 : decode b_M_byUses 186 = .ok (.return_, 1) := by decide +kernel
theorem cal_M_byUses : am_cal y_M_byUses b_M_byUses 9 ((Option.none : Option FieldType)) 2 := ⟨Or.inl wx_843, wx_6, by decide, by decide +kernel⟩
abbrev y_M_barredOf : MethodName := ⟨"BillSharesModel", "barredOf", "(III)I"⟩
abbrev b_M_barredOf : ByteArray := prog_6_method_21_code
theorem d_M_barredOf_0 : decode b_M_barredOf 0 = .ok (.iconst 1, 1) := by decide +kernel
theorem d_M_barredOf_1 : decode b_M_barredOf 1 = .ok (.istore 4, 2) := by decide +kernel
theorem d_M_barredOf_3 : decode b_M_barredOf 3 = .ok (.iconst 0, 1) := by decide +kernel
theorem d_M_barredOf_4 : decode b_M_barredOf 4 = .ok (.istore 5, 2) := by decide +kernel
theorem d_M_barredOf_6 : decode b_M_barredOf 6 = .ok (.iload 5, 2) := by decide +kernel
theorem d_M_barredOf_8 : decode b_M_barredOf 8 = .ok (.aload_n 0, 1) := by decide +kernel
theorem d_M_barredOf_9 : decode b_M_barredOf 9 = .ok (.getfield 99, 3) := by decide +kernel
theorem d_M_barredOf_12 : decode b_M_barredOf 12 = .ok (.if_icmp .ge 52, 3) := by decide +kernel
theorem d_M_barredOf_15 : decode b_M_barredOf 15 = .ok (.aload_n 0, 1) := by decide +kernel
theorem d_M_barredOf_16 : decode b_M_barredOf 16 = .ok (.getfield 26, 3) := by decide +kernel
theorem d_M_barredOf_19 : decode b_M_barredOf 19 = .ok (.iload 5, 2) := by decide +kernel
theorem d_M_barredOf_21 : decode b_M_barredOf 21 = .ok (.iaload, 1) := by decide +kernel
theorem d_M_barredOf_22 : decode b_M_barredOf 22 = .ok (.iload_n 1, 1) := by decide +kernel
theorem d_M_barredOf_23 : decode b_M_barredOf 23 = .ok (.if_icmp .ne 35, 3) := by decide +kernel
theorem d_M_barredOf_26 : decode b_M_barredOf 26 = .ok (.aload_n 0, 1) := by decide +kernel
theorem d_M_barredOf_27 : decode b_M_barredOf 27 = .ok (.getfield 29, 3) := by decide +kernel
theorem d_M_barredOf_30 : decode b_M_barredOf 30 = .ok (.iload 5, 2) := by decide +kernel
theorem d_M_barredOf_32 : decode b_M_barredOf 32 = .ok (.iaload, 1) := by decide +kernel
theorem d_M_barredOf_33 : decode b_M_barredOf 33 = .ok (.iload_n 2, 1) := by decide +kernel
theorem d_M_barredOf_34 : decode b_M_barredOf 34 = .ok (.if_icmp .ne 24, 3) := by decide +kernel
theorem d_M_barredOf_37 : decode b_M_barredOf 37 = .ok (.aload_n 0, 1) := by decide +kernel
theorem d_M_barredOf_38 : decode b_M_barredOf 38 = .ok (.iload 5, 2) := by decide +kernel
theorem d_M_barredOf_40 : decode b_M_barredOf 40 = .ok (.iload_n 3, 1) := by decide +kernel
theorem d_M_barredOf_41 : decode b_M_barredOf 41 = .ok (.invokevirtual 121, 3) := by decide +kernel
theorem d_M_barredOf_44 : decode b_M_barredOf 44 = .ok (.ifCond .le 11, 3) := by decide +kernel
theorem d_M_barredOf_47 : decode b_M_barredOf 47 = .ok (.aload_n 0, 1) := by decide +kernel
theorem d_M_barredOf_48 : decode b_M_barredOf 48 = .ok (.iload 5, 2) := by decide +kernel
theorem d_M_barredOf_50 : decode b_M_barredOf 50 = .ok (.iload_n 3, 1) := by decide +kernel
theorem d_M_barredOf_51 : decode b_M_barredOf 51 = .ok (.invokevirtual 121, 3) := by decide +kernel
theorem d_M_barredOf_54 : decode b_M_barredOf 54 = .ok (.ireturn, 1) := by decide +kernel
theorem d_M_barredOf_55 : decode b_M_barredOf 55 = .ok (.iconst 0, 1) := by decide +kernel
theorem d_M_barredOf_56 : decode b_M_barredOf 56 = .ok (.istore 4, 2) := by decide +kernel
theorem d_M_barredOf_58 : decode b_M_barredOf 58 = .ok (.iinc 5 1, 3) := by decide +kernel
theorem d_M_barredOf_61 : decode b_M_barredOf 61 = .ok (.goto (-55), 3) := by decide +kernel
theorem d_M_barredOf_64 : decode b_M_barredOf 64 = .ok (.iload 4, 2) := by decide +kernel
theorem d_M_barredOf_66 : decode b_M_barredOf 66 = .ok (.ireturn, 1) := by decide +kernel
theorem cal_M_barredOf : am_cal y_M_barredOf b_M_barredOf 6 ((Option.some FieldType.int)) 3 := ⟨Or.inl wx_847, wx_6, by decide, by decide +kernel⟩
abbrev y_M_why : MethodName := ⟨"BillSharesModel", "why", "(II)I"⟩
abbrev b_M_why : ByteArray := prog_6_method_19_code
theorem d_M_why_0 : decode b_M_why 0 = .ok (.iconst 0, 1) := by decide +kernel
theorem d_M_why_1 : decode b_M_why 1 = .ok (.istore_n 3, 1) := by decide +kernel
theorem d_M_why_2 : decode b_M_why 2 = .ok (.iconst 0, 1) := by decide +kernel
theorem d_M_why_3 : decode b_M_why 3 = .ok (.istore 4, 2) := by decide +kernel
theorem d_M_why_5 : decode b_M_why 5 = .ok (.iconst 0, 1) := by decide +kernel
theorem d_M_why_6 : decode b_M_why 6 = .ok (.istore 5, 2) := by decide +kernel
theorem d_M_why_8 : decode b_M_why 8 = .ok (.iload 5, 2) := by decide +kernel
theorem d_M_why_10 : decode b_M_why 10 = .ok (.aload_n 0, 1) := by decide +kernel
theorem d_M_why_11 : decode b_M_why 11 = .ok (.getfield 41, 3) := by decide +kernel
theorem d_M_why_14 : decode b_M_why 14 = .ok (.iload_n 1, 1) := by decide +kernel
theorem d_M_why_15 : decode b_M_why 15 = .ok (.iaload, 1) := by decide +kernel
theorem d_M_why_16 : decode b_M_why 16 = .ok (.if_icmp .ge 75, 3) := by decide +kernel
theorem d_M_why_19 : decode b_M_why 19 = .ok (.iload_n 3, 1) := by decide +kernel
theorem d_M_why_20 : decode b_M_why 20 = .ok (.ifCond .ne 23, 3) := by decide +kernel
theorem d_M_why_23 : decode b_M_why 23 = .ok (.aload_n 0, 1) := by decide +kernel
theorem d_M_why_24 : decode b_M_why 24 = .ok (.getfield 44, 3) := by decide +kernel
theorem d_M_why_27 : decode b_M_why 27 = .ok (.bipush 40, 2) := by decide +kernel
theorem d_M_why_29 : decode b_M_why 29 = .ok (.iload_n 1, 1) := by decide +kernel
theorem d_M_why_30 : decode b_M_why 30 = .ok (.imul, 1) := by decide +kernel
theorem d_M_why_31 : decode b_M_why 31 = .ok (.iload 5, 2) := by decide +kernel
theorem d_M_why_33 : decode b_M_why 33 = .ok (.iadd, 1) := by decide +kernel
theorem d_M_why_34 : decode b_M_why 34 = .ok (.iaload, 1) := by decide +kernel
theorem d_M_why_35 : decode b_M_why 35 = .ok (.sipush 365, 3) := by decide +kernel
theorem d_M_why_38 : decode b_M_why 38 = .ok (.iload_n 2, 1) := by decide +kernel
theorem d_M_why_39 : decode b_M_why 39 = .ok (.imul, 1) := by decide +kernel
theorem d_M_why_40 : decode b_M_why 40 = .ok (.if_icmp .gt 7, 3) := by decide +kernel
theorem d_M_why_43 : decode b_M_why 43 = .ok (.iconst 1, 1) := by decide +kernel
theorem d_M_why_44 : decode b_M_why 44 = .ok (.goto 4, 3) := by decide +kernel
theorem d_M_why_47 : decode b_M_why 47 = .ok (.iconst 0, 1) := by decide +kernel
theorem d_M_why_48 : decode b_M_why 48 = .ok (.istore_n 3, 1) := by decide +kernel
theorem d_M_why_49 : decode b_M_why 49 = .ok (.iload 4, 2) := by decide +kernel
theorem d_M_why_51 : decode b_M_why 51 = .ok (.ifCond .ne 27, 3) := by decide +kernel
theorem d_M_why_54 : decode b_M_why 54 = .ok (.aload_n 0, 1) := by decide +kernel
theorem d_M_why_55 : decode b_M_why 55 = .ok (.getfield 44, 3) := by decide +kernel
theorem d_M_why_58 : decode b_M_why 58 = .ok (.bipush 40, 2) := by decide +kernel
theorem d_M_why_60 : decode b_M_why 60 = .ok (.iload_n 1, 1) := by decide +kernel
theorem d_M_why_61 : decode b_M_why 61 = .ok (.imul, 1) := by decide +kernel
theorem d_M_why_62 : decode b_M_why 62 = .ok (.iload 5, 2) := by decide +kernel
theorem d_M_why_64 : decode b_M_why 64 = .ok (.iadd, 1) := by decide +kernel
theorem d_M_why_65 : decode b_M_why 65 = .ok (.iaload, 1) := by decide +kernel
theorem d_M_why_66 : decode b_M_why 66 = .ok (.sipush 365, 3) := by decide +kernel
theorem d_M_why_69 : decode b_M_why 69 = .ok (.iload_n 2, 1) := by decide +kernel
theorem d_M_why_70 : decode b_M_why 70 = .ok (.imul, 1) := by decide +kernel
theorem d_M_why_71 : decode b_M_why 71 = .ok (.sipush 365, 3) := by decide +kernel
theorem d_M_why_74 : decode b_M_why 74 = .ok (.iadd, 1) := by decide +kernel
theorem d_M_why_75 : decode b_M_why 75 = .ok (.if_icmp .lt 7, 3) := by decide +kernel
theorem d_M_why_78 : decode b_M_why 78 = .ok (.iconst 1, 1) := by decide +kernel
theorem d_M_why_79 : decode b_M_why 79 = .ok (.goto 4, 3) := by decide +kernel
theorem d_M_why_82 : decode b_M_why 82 = .ok (.iconst 0, 1) := by decide +kernel
theorem d_M_why_83 : decode b_M_why 83 = .ok (.istore 4, 2) := by decide +kernel
theorem d_M_why_85 : decode b_M_why 85 = .ok (.iinc 5 1, 3) := by decide +kernel
theorem d_M_why_88 : decode b_M_why 88 = .ok (.goto (-80), 3) := by decide +kernel
theorem d_M_why_91 : decode b_M_why 91 = .ok (.iload_n 3, 1) := by decide +kernel
theorem d_M_why_92 : decode b_M_why 92 = .ok (.ifCond .eq 8, 3) := by decide +kernel
theorem d_M_why_95 : decode b_M_why 95 = .ok (.iload 4, 2) := by decide +kernel
theorem d_M_why_97 : decode b_M_why 97 = .ok (.ifCond .ne 7, 3) := by decide +kernel
theorem d_M_why_100 : decode b_M_why 100 = .ok (.iconst 2, 1) := by decide +kernel
theorem d_M_why_101 : decode b_M_why 101 = .ok (.goto 26, 3) := by decide +kernel
theorem d_M_why_104 : decode b_M_why 104 = .ok (.aload_n 0, 1) := by decide +kernel
theorem d_M_why_105 : decode b_M_why 105 = .ok (.getfield 38, 3) := by decide +kernel
theorem d_M_why_108 : decode b_M_why 108 = .ok (.iload_n 1, 1) := by decide +kernel
theorem d_M_why_109 : decode b_M_why 109 = .ok (.iaload, 1) := by decide +kernel
theorem d_M_why_110 : decode b_M_why 110 = .ok (.sipush 365, 3) := by decide +kernel
theorem d_M_why_113 : decode b_M_why 113 = .ok (.iload_n 2, 1) := by decide +kernel
theorem d_M_why_114 : decode b_M_why 114 = .ok (.imul, 1) := by decide +kernel
theorem d_M_why_115 : decode b_M_why 115 = .ok (.sipush 365, 3) := by decide +kernel
theorem d_M_why_118 : decode b_M_why 118 = .ok (.iadd, 1) := by decide +kernel
theorem d_M_why_119 : decode b_M_why 119 = .ok (.if_icmp .ge 7, 3) := by decide +kernel
theorem d_M_why_122 : decode b_M_why 122 = .ok (.iconst 3, 1) := by decide +kernel
theorem d_M_why_123 : decode b_M_why 123 = .ok (.goto 4, 3) := by decide +kernel
theorem d_M_why_126 : decode b_M_why 126 = .ok (.iconst 0, 1) := by decide +kernel
theorem d_M_why_127 : decode b_M_why 127 = .ok (.ireturn, 1) := by decide +kernel
theorem cal_M_why : am_cal y_M_why b_M_why 6 ((Option.some FieldType.int)) 2 := ⟨Or.inl wx_851, wx_6, by decide, by decide +kernel⟩
abbrev y_M_usedBy : MethodName := ⟨"BillSharesModel", "usedBy", "(IIII)J"⟩
abbrev b_M_usedBy : ByteArray := prog_6_method_22_code
theorem d_M_usedBy_0 : decode b_M_usedBy 0 = .ok (.lconst 0, 1) := by decide +kernel
theorem d_M_usedBy_1 : decode b_M_usedBy 1 = .ok (.lstore 5, 2) := by decide +kernel
theorem d_M_usedBy_3 : decode b_M_usedBy 3 = .ok (.iconst 0, 1) := by decide +kernel
theorem d_M_usedBy_4 : decode b_M_usedBy 4 = .ok (.istore 7, 2) := by decide +kernel
theorem d_M_usedBy_6 : decode b_M_usedBy 6 = .ok (.iload 7, 2) := by decide +kernel
theorem d_M_usedBy_8 : decode b_M_usedBy 8 = .ok (.aload_n 0, 1) := by decide +kernel
theorem d_M_usedBy_9 : decode b_M_usedBy 9 = .ok (.getfield 99, 3) := by decide +kernel
theorem d_M_usedBy_12 : decode b_M_usedBy 12 = .ok (.if_icmp .ge 49, 3) := by decide +kernel
theorem d_M_usedBy_15 : decode b_M_usedBy 15 = .ok (.lload 5, 2) := by decide +kernel
theorem d_M_usedBy_17 : decode b_M_usedBy 17 = .ok (.aload_n 0, 1) := by decide +kernel
theorem d_M_usedBy_18 : decode b_M_usedBy 18 = .ok (.getfield 26, 3) := by decide +kernel
theorem d_M_usedBy_21 : decode b_M_usedBy 21 = .ok (.iload 7, 2) := by decide +kernel
theorem d_M_usedBy_23 : decode b_M_usedBy 23 = .ok (.iaload, 1) := by decide +kernel
theorem d_M_usedBy_24 : decode b_M_usedBy 24 = .ok (.iload_n 1, 1) := by decide +kernel
theorem d_M_usedBy_25 : decode b_M_usedBy 25 = .ok (.if_icmp .ne 26, 3) := by decide +kernel
theorem d_M_usedBy_28 : decode b_M_usedBy 28 = .ok (.aload_n 0, 1) := by decide +kernel
theorem d_M_usedBy_29 : decode b_M_usedBy 29 = .ok (.getfield 29, 3) := by decide +kernel
theorem d_M_usedBy_32 : decode b_M_usedBy 32 = .ok (.iload 7, 2) := by decide +kernel
theorem d_M_usedBy_34 : decode b_M_usedBy 34 = .ok (.iaload, 1) := by decide +kernel
theorem d_M_usedBy_35 : decode b_M_usedBy 35 = .ok (.iload_n 2, 1) := by decide +kernel
theorem d_M_usedBy_36 : decode b_M_usedBy 36 = .ok (.if_icmp .ne 15, 3) := by decide +kernel
theorem d_M_usedBy_39 : decode b_M_usedBy 39 = .ok (.aload_n 0, 1) := by decide +kernel
theorem d_M_usedBy_40 : decode b_M_usedBy 40 = .ok (.iload 7, 2) := by decide +kernel
theorem d_M_usedBy_42 : decode b_M_usedBy 42 = .ok (.iload_n 3, 1) := by decide +kernel
theorem d_M_usedBy_43 : decode b_M_usedBy 43 = .ok (.iload 4, 2) := by decide +kernel
theorem d_M_usedBy_45 : decode b_M_usedBy 45 = .ok (.invokevirtual 125, 3) := by decide +kernel
theorem d_M_usedBy_48 : decode b_M_usedBy 48 = .ok (.goto 4, 3) := by decide +kernel
theorem d_M_usedBy_51 : decode b_M_usedBy 51 = .ok (.lconst 0, 1) := by decide +kernel
theorem d_M_usedBy_52 : decode b_M_usedBy 52 = .ok (.ladd, 1) := by decide +kernel
theorem d_M_usedBy_53 : decode b_M_usedBy 53 = .ok (.lstore 5, 2) := by decide +kernel
theorem d_M_usedBy_55 : decode b_M_usedBy 55 = .ok (.iinc 7 1, 3) := by decide +kernel
theorem d_M_usedBy_58 : decode b_M_usedBy 58 = .ok (.goto (-52), 3) := by decide +kernel
theorem d_M_usedBy_61 : decode b_M_usedBy 61 = .ok (.lload 5, 2) := by decide +kernel
theorem d_M_usedBy_63 : decode b_M_usedBy 63 = .ok (.lreturn, 1) := by decide +kernel
theorem cal_M_usedBy : am_cal y_M_usedBy b_M_usedBy 8 ((Option.some FieldType.long)) 4 := ⟨Or.inl wx_855, wx_6, by decide, by decide +kernel⟩
abbrev y_M_useOf : MethodName := ⟨"BillSharesModel", "useOf", "(III)J"⟩
abbrev b_M_useOf : ByteArray := prog_6_method_20_code
theorem d_M_useOf_0 : decode b_M_useOf 0 = .ok (.lconst 0, 1) := by decide +kernel
theorem d_M_useOf_1 : decode b_M_useOf 1 = .ok (.lstore 4, 2) := by decide +kernel
theorem d_M_useOf_3 : decode b_M_useOf 3 = .ok (.bipush 40, 2) := by decide +kernel
theorem d_M_useOf_5 : decode b_M_useOf 5 = .ok (.iload_n 1, 1) := by decide +kernel
theorem d_M_useOf_6 : decode b_M_useOf 6 = .ok (.imul, 1) := by decide +kernel
theorem d_M_useOf_7 : decode b_M_useOf 7 = .ok (.iconst 1, 1) := by decide +kernel
theorem d_M_useOf_8 : decode b_M_useOf 8 = .ok (.iadd, 1) := by decide +kernel
theorem d_M_useOf_9 : decode b_M_useOf 9 = .ok (.istore 6, 2) := by decide +kernel
theorem d_M_useOf_11 : decode b_M_useOf 11 = .ok (.iload 6, 2) := by decide +kernel
theorem d_M_useOf_13 : decode b_M_useOf 13 = .ok (.bipush 40, 2) := by decide +kernel
theorem d_M_useOf_15 : decode b_M_useOf 15 = .ok (.iload_n 1, 1) := by decide +kernel
theorem d_M_useOf_16 : decode b_M_useOf 16 = .ok (.imul, 1) := by decide +kernel
theorem d_M_useOf_17 : decode b_M_useOf 17 = .ok (.aload_n 0, 1) := by decide +kernel
theorem d_M_useOf_18 : decode b_M_useOf 18 = .ok (.getfield 41, 3) := by decide +kernel
theorem d_M_useOf_21 : decode b_M_useOf 21 = .ok (.iload_n 1, 1) := by decide +kernel
theorem d_M_useOf_22 : decode b_M_useOf 22 = .ok (.iaload, 1) := by decide +kernel
theorem d_M_useOf_23 : decode b_M_useOf 23 = .ok (.iadd, 1) := by decide +kernel
theorem d_M_useOf_24 : decode b_M_useOf 24 = .ok (.if_icmp .ge 137, 3) := by decide +kernel
theorem d_M_useOf_27 : decode b_M_useOf 27 = .ok (.aload_n 0, 1) := by decide +kernel
theorem d_M_useOf_28 : decode b_M_useOf 28 = .ok (.getfield 44, 3) := by decide +kernel
theorem d_M_useOf_31 : decode b_M_useOf 31 = .ok (.iload 6, 2) := by decide +kernel
theorem d_M_useOf_33 : decode b_M_useOf 33 = .ok (.iconst 1, 1) := by decide +kernel
theorem d_M_useOf_34 : decode b_M_useOf 34 = .ok (.isub, 1) := by decide +kernel
theorem d_M_useOf_35 : decode b_M_useOf 35 = .ok (.iaload, 1) := by decide +kernel
theorem d_M_useOf_36 : decode b_M_useOf 36 = .ok (.istore 7, 2) := by decide +kernel
theorem d_M_useOf_38 : decode b_M_useOf 38 = .ok (.aload_n 0, 1) := by decide +kernel
theorem d_M_useOf_39 : decode b_M_useOf 39 = .ok (.getfield 44, 3) := by decide +kernel
theorem d_M_useOf_42 : decode b_M_useOf 42 = .ok (.iload 6, 2) := by decide +kernel
theorem d_M_useOf_44 : decode b_M_useOf 44 = .ok (.iaload, 1) := by decide +kernel
theorem d_M_useOf_45 : decode b_M_useOf 45 = .ok (.istore 8, 2) := by decide +kernel
theorem d_M_useOf_47 : decode b_M_useOf 47 = .ok (.aload_n 0, 1) := by decide +kernel
theorem d_M_useOf_48 : decode b_M_useOf 48 = .ok (.getfield 47, 3) := by decide +kernel
theorem d_M_useOf_51 : decode b_M_useOf 51 = .ok (.iload 6, 2) := by decide +kernel
theorem d_M_useOf_53 : decode b_M_useOf 53 = .ok (.iaload, 1) := by decide +kernel
theorem d_M_useOf_54 : decode b_M_useOf 54 = .ok (.aload_n 0, 1) := by decide +kernel
theorem d_M_useOf_55 : decode b_M_useOf 55 = .ok (.getfield 50, 3) := by decide +kernel
theorem d_M_useOf_58 : decode b_M_useOf 58 = .ok (.iload 6, 2) := by decide +kernel
theorem d_M_useOf_60 : decode b_M_useOf 60 = .ok (.iconst 1, 1) := by decide +kernel
theorem d_M_useOf_61 : decode b_M_useOf 61 = .ok (.isub, 1) := by decide +kernel
theorem d_M_useOf_62 : decode b_M_useOf 62 = .ok (.iaload, 1) := by decide +kernel
theorem d_M_useOf_63 : decode b_M_useOf 63 = .ok (.isub, 1) := by decide +kernel
theorem d_M_useOf_64 : decode b_M_useOf 64 = .ok (.i2l, 1) := by decide +kernel
theorem d_M_useOf_65 : decode b_M_useOf 65 = .ok (.lstore 9, 2) := by decide +kernel
theorem d_M_useOf_67 : decode b_M_useOf 67 = .ok (.iload_n 2, 1) := by decide +kernel
theorem d_M_useOf_68 : decode b_M_useOf 68 = .ok (.iload 7, 2) := by decide +kernel
theorem d_M_useOf_70 : decode b_M_useOf 70 = .ok (.if_icmp .ge 8, 3) := by decide +kernel
theorem d_M_useOf_73 : decode b_M_useOf 73 = .ok (.iload 7, 2) := by decide +kernel
theorem d_M_useOf_75 : decode b_M_useOf 75 = .ok (.goto 15, 3) := by decide +kernel
theorem d_M_useOf_78 : decode b_M_useOf 78 = .ok (.iload_n 2, 1) := by decide +kernel
theorem d_M_useOf_79 : decode b_M_useOf 79 = .ok (.iload 8, 2) := by decide +kernel
theorem d_M_useOf_81 : decode b_M_useOf 81 = .ok (.if_icmp .le 8, 3) := by decide +kernel
theorem d_M_useOf_84 : decode b_M_useOf 84 = .ok (.iload 8, 2) := by decide +kernel
theorem d_M_useOf_86 : decode b_M_useOf 86 = .ok (.goto 4, 3) := by decide +kernel
theorem d_M_useOf_89 : decode b_M_useOf 89 = .ok (.iload_n 2, 1) := by decide +kernel
theorem d_M_useOf_90 : decode b_M_useOf 90 = .ok (.istore 11, 2) := by decide +kernel
theorem d_M_useOf_92 : decode b_M_useOf 92 = .ok (.iload_n 3, 1) := by decide +kernel
theorem d_M_useOf_93 : decode b_M_useOf 93 = .ok (.iload 7, 2) := by decide +kernel
theorem d_M_useOf_95 : decode b_M_useOf 95 = .ok (.if_icmp .ge 8, 3) := by decide +kernel
theorem d_M_useOf_98 : decode b_M_useOf 98 = .ok (.iload 7, 2) := by decide +kernel
theorem d_M_useOf_100 : decode b_M_useOf 100 = .ok (.goto 15, 3) := by decide +kernel
theorem d_M_useOf_103 : decode b_M_useOf 103 = .ok (.iload_n 3, 1) := by decide +kernel
theorem d_M_useOf_104 : decode b_M_useOf 104 = .ok (.iload 8, 2) := by decide +kernel
theorem d_M_useOf_106 : decode b_M_useOf 106 = .ok (.if_icmp .le 8, 3) := by decide +kernel
theorem d_M_useOf_109 : decode b_M_useOf 109 = .ok (.iload 8, 2) := by decide +kernel
theorem d_M_useOf_111 : decode b_M_useOf 111 = .ok (.goto 4, 3) := by decide +kernel
theorem d_M_useOf_114 : decode b_M_useOf 114 = .ok (.iload_n 3, 1) := by decide +kernel
theorem d_M_useOf_115 : decode b_M_useOf 115 = .ok (.istore 12, 2) := by decide +kernel
theorem d_M_useOf_117 : decode b_M_useOf 117 = .ok (.lload 4, 2) := by decide +kernel
theorem d_M_useOf_119 : decode b_M_useOf 119 = .ok (.lload 9, 2) := by decide +kernel
theorem d_M_useOf_121 : decode b_M_useOf 121 = .ok (.iload 12, 2) := by decide +kernel
theorem d_M_useOf_123 : decode b_M_useOf 123 = .ok (.iload 7, 2) := by decide +kernel
theorem d_M_useOf_125 : decode b_M_useOf 125 = .ok (.isub, 1) := by decide +kernel
theorem d_M_useOf_126 : decode b_M_useOf 126 = .ok (.i2l, 1) := by decide +kernel
theorem d_M_useOf_127 : decode b_M_useOf 127 = .ok (.lmul, 1) := by decide +kernel
theorem d_M_useOf_128 : decode b_M_useOf 128 = .ok (.iload 8, 2) := by decide +kernel
theorem d_M_useOf_130 : decode b_M_useOf 130 = .ok (.iload 7, 2) := by decide +kernel
theorem d_M_useOf_132 : decode b_M_useOf 132 = .ok (.isub, 1) := by decide +kernel
theorem d_M_useOf_133 : decode b_M_useOf 133 = .ok (.i2l, 1) := by decide +kernel
theorem d_M_useOf_134 : decode b_M_useOf 134 = .ok (.ldiv, 1) := by decide +kernel
theorem d_M_useOf_135 : decode b_M_useOf 135 = .ok (.lload 9, 2) := by decide +kernel
theorem d_M_useOf_137 : decode b_M_useOf 137 = .ok (.iload 11, 2) := by decide +kernel
theorem d_M_useOf_139 : decode b_M_useOf 139 = .ok (.iload 7, 2) := by decide +kernel
theorem d_M_useOf_141 : decode b_M_useOf 141 = .ok (.isub, 1) := by decide +kernel
theorem d_M_useOf_142 : decode b_M_useOf 142 = .ok (.i2l, 1) := by decide +kernel
theorem d_M_useOf_143 : decode b_M_useOf 143 = .ok (.lmul, 1) := by decide +kernel
theorem d_M_useOf_144 : decode b_M_useOf 144 = .ok (.iload 8, 2) := by decide +kernel
theorem d_M_useOf_146 : decode b_M_useOf 146 = .ok (.iload 7, 2) := by decide +kernel
theorem d_M_useOf_148 : decode b_M_useOf 148 = .ok (.isub, 1) := by decide +kernel
theorem d_M_useOf_149 : decode b_M_useOf 149 = .ok (.i2l, 1) := by decide +kernel
theorem d_M_useOf_150 : decode b_M_useOf 150 = .ok (.ldiv, 1) := by decide +kernel
theorem d_M_useOf_151 : decode b_M_useOf 151 = .ok (.lsub, 1) := by decide +kernel
theorem d_M_useOf_152 : decode b_M_useOf 152 = .ok (.ladd, 1) := by decide +kernel
theorem d_M_useOf_153 : decode b_M_useOf 153 = .ok (.lstore 4, 2) := by decide +kernel
theorem d_M_useOf_155 : decode b_M_useOf 155 = .ok (.iinc 6 1, 3) := by decide +kernel
theorem d_M_useOf_158 : decode b_M_useOf 158 = .ok (.goto (-147), 3) := by decide +kernel
theorem d_M_useOf_161 : decode b_M_useOf 161 = .ok (.lload 4, 2) := by decide +kernel
theorem d_M_useOf_163 : decode b_M_useOf 163 = .ok (.aload_n 0, 1) := by decide +kernel
theorem d_M_useOf_164 : decode b_M_useOf 164 = .ok (.getfield 32, 3) := by decide +kernel
theorem d_M_useOf_167 : decode b_M_useOf 167 = .ok (.iload_n 1, 1) := by decide +kernel
theorem d_M_useOf_168 : decode b_M_useOf 168 = .ok (.iaload, 1) := by decide +kernel
theorem d_M_useOf_169 : decode b_M_useOf 169 = .ok (.i2l, 1) := by decide +kernel
theorem d_M_useOf_170 : decode b_M_useOf 170 = .ok (.lmul, 1) := by decide +kernel
theorem d_M_useOf_171 : decode b_M_useOf 171 = .ok (.aload_n 0, 1) := by decide +kernel
theorem d_M_useOf_172 : decode b_M_useOf 172 = .ok (.getfield 35, 3) := by decide +kernel
theorem d_M_useOf_175 : decode b_M_useOf 175 = .ok (.iload_n 1, 1) := by decide +kernel
theorem d_M_useOf_176 : decode b_M_useOf 176 = .ok (.iaload, 1) := by decide +kernel
theorem d_M_useOf_177 : decode b_M_useOf 177 = .ok (.i2l, 1) := by decide +kernel
theorem d_M_useOf_178 : decode b_M_useOf 178 = .ok (.ldiv, 1) := by decide +kernel
theorem d_M_useOf_179 : decode b_M_useOf 179 = .ok (.lreturn, 1) := by decide +kernel
theorem cal_M_useOf : am_cal y_M_useOf b_M_useOf 13 ((Option.some FieldType.long)) 3 := ⟨Or.inl wx_859, wx_6, by decide, by decide +kernel⟩
abbrev y_M_use : MethodName := ⟨"BillSharesModel", "use", "(II)J"⟩
abbrev b_M_use : ByteArray := prog_6_method_30_code
theorem d_M_use_0 : decode b_M_use 0 = .ok (.aload_n 0, 1) := by decide +kernel
theorem d_M_use_1 : decode b_M_use 1 = .ok (.aload_n 0, 1) := by decide +kernel
theorem d_M_use_2 : decode b_M_use 2 = .ok (.iload_n 1, 1) := by decide +kernel
theorem d_M_use_3 : decode b_M_use 3 = .ok (.invokevirtual 110, 3) := by decide +kernel
theorem d_M_use_6 : decode b_M_use 6 = .ok (.ifCond .eq 17, 3) := by decide +kernel
theorem d_M_use_9 : decode b_M_use 9 = .ok (.iload_n 2, 1) := by decide +kernel
theorem d_M_use_10 : decode b_M_use 10 = .ok (.iconst 0, 1) := by decide +kernel
theorem d_M_use_11 : decode b_M_use 11 = .ok (.bipush 9, 2) := by decide +kernel
theorem d_M_use_13 : decode b_M_use 13 = .ok (.invokestatic 92, 3) := by decide +kernel
theorem d_M_use_16 : decode b_M_use 16 = .ok (.ifCond .eq 7, 3) := by decide +kernel
theorem d_M_use_19 : decode b_M_use 19 = .ok (.iconst 1, 1) := by decide +kernel
theorem d_M_use_20 : decode b_M_use 20 = .ok (.goto 4, 3) := by decide +kernel
theorem d_M_use_23 : decode b_M_use 23 = .ok (.iconst 0, 1) := by decide +kernel
theorem d_M_use_24 : decode b_M_use 24 = .ok (.iconst 1, 1) := by decide +kernel
theorem d_M_use_25 : decode b_M_use 25 = .ok (.invokevirtual 102, 3) := by decide +kernel
theorem d_M_use_28 : decode b_M_use 28 = .ok (.ifCond .ne 5, 3) := by decide +kernel
theorem d_M_use_31 : decode b_M_use 31 = .ok (.lconst 0, 1) := by decide +kernel
theorem d_M_use_32 : decode b_M_use 32 = .ok (.lreturn, 1) := by decide +kernel
theorem d_M_use_33 : decode b_M_use 33 = .ok (.aload_n 0, 1) := by decide +kernel
theorem d_M_use_34 : decode b_M_use 34 = .ok (.iload_n 1, 1) := by decide +kernel
theorem d_M_use_35 : decode b_M_use 35 = .ok (.iload_n 2, 1) := by decide +kernel
theorem d_M_use_36 : decode b_M_use 36 = .ok (.invokevirtual 121, 3) := by decide +kernel
theorem d_M_use_39 : decode b_M_use 39 = .ok (.ifCond .le 9, 3) := by decide +kernel
theorem d_M_use_42 : decode b_M_use 42 = .ok (.ldc2_w 164, 3) := by decide +kernel
theorem d_M_use_45 : decode b_M_use 45 = .ok (.goto 22, 3) := by decide +kernel
theorem d_M_use_48 : decode b_M_use 48 = .ok (.aload_n 0, 1) := by decide +kernel
theorem d_M_use_49 : decode b_M_use 49 = .ok (.iload_n 1, 1) := by decide +kernel
theorem d_M_use_50 : decode b_M_use 50 = .ok (.sipush 365, 3) := by decide +kernel
theorem d_M_use_53 : decode b_M_use 53 = .ok (.iload_n 2, 1) := by decide +kernel
theorem d_M_use_54 : decode b_M_use 54 = .ok (.imul, 1) := by decide +kernel
theorem d_M_use_55 : decode b_M_use 55 = .ok (.sipush 365, 3) := by decide +kernel
theorem d_M_use_58 : decode b_M_use 58 = .ok (.iload_n 2, 1) := by decide +kernel
theorem d_M_use_59 : decode b_M_use 59 = .ok (.imul, 1) := by decide +kernel
theorem d_M_use_60 : decode b_M_use 60 = .ok (.sipush 365, 3) := by decide +kernel
theorem d_M_use_63 : decode b_M_use 63 = .ok (.iadd, 1) := by decide +kernel
theorem d_M_use_64 : decode b_M_use 64 = .ok (.invokevirtual 125, 3) := by decide +kernel
theorem d_M_use_67 : decode b_M_use 67 = .ok (.lreturn, 1) := by decide +kernel
theorem cal_M_use : am_cal y_M_use b_M_use 3 ((Option.some FieldType.long)) 2 := ⟨Or.inl wx_863, wx_6, by decide, by decide +kernel⟩
abbrev y_M_barred : MethodName := ⟨"BillSharesModel", "barred", "(III)I"⟩
abbrev b_M_barred : ByteArray := prog_6_method_31_code
theorem d_M_barred_0 : decode b_M_barred 0 = .ok (.aload_n 0, 1) := by decide +kernel
theorem d_M_barred_1 : decode b_M_barred 1 = .ok (.aload_n 0, 1) := by decide +kernel
theorem d_M_barred_2 : decode b_M_barred 2 = .ok (.iload_n 1, 1) := by decide +kernel
theorem d_M_barred_3 : decode b_M_barred 3 = .ok (.invokevirtual 106, 3) := by decide +kernel
theorem d_M_barred_6 : decode b_M_barred 6 = .ok (.ifCond .eq 26, 3) := by decide +kernel
theorem d_M_barred_9 : decode b_M_barred 9 = .ok (.iload_n 2, 1) := by decide +kernel
theorem d_M_barred_10 : decode b_M_barred 10 = .ok (.iconst 0, 1) := by decide +kernel
theorem d_M_barred_11 : decode b_M_barred 11 = .ok (.iconst 3, 1) := by decide +kernel
theorem d_M_barred_12 : decode b_M_barred 12 = .ok (.invokestatic 92, 3) := by decide +kernel
theorem d_M_barred_15 : decode b_M_barred 15 = .ok (.ifCond .eq 17, 3) := by decide +kernel
theorem d_M_barred_18 : decode b_M_barred 18 = .ok (.iload_n 3, 1) := by decide +kernel
theorem d_M_barred_19 : decode b_M_barred 19 = .ok (.iconst 0, 1) := by decide +kernel
theorem d_M_barred_20 : decode b_M_barred 20 = .ok (.bipush 9, 2) := by decide +kernel
theorem d_M_barred_22 : decode b_M_barred 22 = .ok (.invokestatic 92, 3) := by decide +kernel
theorem d_M_barred_25 : decode b_M_barred 25 = .ok (.ifCond .eq 7, 3) := by decide +kernel
theorem d_M_barred_28 : decode b_M_barred 28 = .ok (.iconst 1, 1) := by decide +kernel
theorem d_M_barred_29 : decode b_M_barred 29 = .ok (.goto 4, 3) := by decide +kernel
theorem d_M_barred_32 : decode b_M_barred 32 = .ok (.iconst 0, 1) := by decide +kernel
theorem d_M_barred_33 : decode b_M_barred 33 = .ok (.iconst 1, 1) := by decide +kernel
theorem d_M_barred_34 : decode b_M_barred 34 = .ok (.invokevirtual 102, 3) := by decide +kernel
theorem d_M_barred_37 : decode b_M_barred 37 = .ok (.ifCond .eq 13, 3) := by decide +kernel
theorem d_M_barred_40 : decode b_M_barred 40 = .ok (.aload_n 0, 1) := by decide +kernel
theorem d_M_barred_41 : decode b_M_barred 41 = .ok (.iload_n 1, 1) := by decide +kernel
theorem d_M_barred_42 : decode b_M_barred 42 = .ok (.iload_n 2, 1) := by decide +kernel
theorem d_M_barred_43 : decode b_M_barred 43 = .ok (.iload_n 3, 1) := by decide +kernel
theorem d_M_barred_44 : decode b_M_barred 44 = .ok (.invokevirtual 139, 3) := by decide +kernel
theorem d_M_barred_47 : decode b_M_barred 47 = .ok (.goto 4, 3) := by decide +kernel
theorem d_M_barred_50 : decode b_M_barred 50 = .ok (.iconst 0, 1) := by decide +kernel
theorem d_M_barred_51 : decode b_M_barred 51 = .ok (.ireturn, 1) := by decide +kernel
theorem cal_M_barred : am_cal y_M_barred b_M_barred 4 ((Option.some FieldType.int)) 3 := ⟨Or.inl wx_868, wx_6, by decide, by decide +kernel⟩
abbrev y_M_line : MethodName := ⟨"BillSharesModel", "line", "(IIII)J"⟩
abbrev b_M_line : ByteArray := prog_6_method_33_code
theorem d_M_line_0 : decode b_M_line 0 = .ok (.aload_n 0, 1) := by decide +kernel
theorem d_M_line_1 : decode b_M_line 1 = .ok (.iload_n 2, 1) := by decide +kernel
theorem d_M_line_2 : decode b_M_line 2 = .ok (.iconst 0, 1) := by decide +kernel
theorem d_M_line_3 : decode b_M_line 3 = .ok (.iconst 3, 1) := by decide +kernel
theorem d_M_line_4 : decode b_M_line 4 = .ok (.invokestatic 92, 3) := by decide +kernel
theorem d_M_line_7 : decode b_M_line 7 = .ok (.ifCond .eq 17, 3) := by decide +kernel
theorem d_M_line_10 : decode b_M_line 10 = .ok (.iload 4, 2) := by decide +kernel
theorem d_M_line_12 : decode b_M_line 12 = .ok (.iconst 0, 1) := by decide +kernel
theorem d_M_line_13 : decode b_M_line 13 = .ok (.iconst 1, 1) := by decide +kernel
theorem d_M_line_14 : decode b_M_line 14 = .ok (.invokestatic 92, 3) := by decide +kernel
theorem d_M_line_17 : decode b_M_line 17 = .ok (.ifCond .eq 7, 3) := by decide +kernel
theorem d_M_line_20 : decode b_M_line 20 = .ok (.iconst 1, 1) := by decide +kernel
theorem d_M_line_21 : decode b_M_line 21 = .ok (.goto 4, 3) := by decide +kernel
theorem d_M_line_24 : decode b_M_line 24 = .ok (.iconst 0, 1) := by decide +kernel
theorem d_M_line_25 : decode b_M_line 25 = .ok (.iload_n 1, 1) := by decide +kernel
theorem d_M_line_26 : decode b_M_line 26 = .ok (.iload_n 3, 1) := by decide +kernel
theorem d_M_line_27 : decode b_M_line 27 = .ok (.invokevirtual 166, 3) := by decide +kernel
theorem d_M_line_30 : decode b_M_line 30 = .ok (.ifCond .ne 5, 3) := by decide +kernel
theorem d_M_line_33 : decode b_M_line 33 = .ok (.lconst 0, 1) := by decide +kernel
theorem d_M_line_34 : decode b_M_line 34 = .ok (.lreturn, 1) := by decide +kernel
theorem d_M_line_35 : decode b_M_line 35 = .ok (.bipush 80, 2) := by decide +kernel
theorem d_M_line_37 : decode b_M_line 37 = .ok (.iload_n 3, 1) := by decide +kernel
theorem d_M_line_38 : decode b_M_line 38 = .ok (.imul, 1) := by decide +kernel
theorem d_M_line_39 : decode b_M_line 39 = .ok (.iconst 4, 1) := by decide +kernel
theorem d_M_line_40 : decode b_M_line 40 = .ok (.iload_n 1, 1) := by decide +kernel
theorem d_M_line_41 : decode b_M_line 41 = .ok (.imul, 1) := by decide +kernel
theorem d_M_line_42 : decode b_M_line 42 = .ok (.iadd, 1) := by decide +kernel
theorem d_M_line_43 : decode b_M_line 43 = .ok (.iload_n 2, 1) := by decide +kernel
theorem d_M_line_44 : decode b_M_line 44 = .ok (.iadd, 1) := by decide +kernel
theorem d_M_line_45 : decode b_M_line 45 = .ok (.istore 5, 2) := by decide +kernel
theorem d_M_line_47 : decode b_M_line 47 = .ok (.aload_n 0, 1) := by decide +kernel
theorem d_M_line_48 : decode b_M_line 48 = .ok (.getfield 72, 3) := by decide +kernel
theorem d_M_line_51 : decode b_M_line 51 = .ok (.iload 5, 2) := by decide +kernel
theorem d_M_line_53 : decode b_M_line 53 = .ok (.laload, 1) := by decide +kernel
theorem d_M_line_54 : decode b_M_line 54 = .ok (.iload 4, 2) := by decide +kernel
theorem d_M_line_56 : decode b_M_line 56 = .ok (.ifCond .ne 13, 3) := by decide +kernel
theorem d_M_line_59 : decode b_M_line 59 = .ok (.aload_n 0, 1) := by decide +kernel
theorem d_M_line_60 : decode b_M_line 60 = .ok (.getfield 75, 3) := by decide +kernel
theorem d_M_line_63 : decode b_M_line 63 = .ok (.iload 5, 2) := by decide +kernel
theorem d_M_line_65 : decode b_M_line 65 = .ok (.laload, 1) := by decide +kernel
theorem d_M_line_66 : decode b_M_line 66 = .ok (.goto 4, 3) := by decide +kernel
theorem d_M_line_69 : decode b_M_line 69 = .ok (.lconst 0, 1) := by decide +kernel
theorem d_M_line_70 : decode b_M_line 70 = .ok (.ladd, 1) := by decide +kernel
theorem d_M_line_71 : decode b_M_line 71 = .ok (.lreturn, 1) := by decide +kernel
theorem cal_M_line : am_cal y_M_line b_M_line 6 ((Option.some FieldType.long)) 4 := ⟨Or.inl wx_872, wx_6, by decide, by decide +kernel⟩
abbrev y_M_has : MethodName := ⟨"BillSharesModel", "has", "(ZII)Z"⟩
abbrev b_M_has : ByteArray := prog_6_method_32_code
theorem d_M_has_0 : decode b_M_has 0 = .ok (.iload_n 1, 1) := by decide +kernel
theorem d_M_has_1 : decode b_M_has 1 = .ok (.ifCond .eq 25, 3) := by decide +kernel
theorem d_M_has_4 : decode b_M_has 4 = .ok (.aload_n 0, 1) := by decide +kernel
theorem d_M_has_5 : decode b_M_has 5 = .ok (.iload_n 2, 1) := by decide +kernel
theorem d_M_has_6 : decode b_M_has 6 = .ok (.invokevirtual 106, 3) := by decide +kernel
theorem d_M_has_9 : decode b_M_has 9 = .ok (.ifCond .eq 17, 3) := by decide +kernel
theorem d_M_has_12 : decode b_M_has 12 = .ok (.iload_n 3, 1) := by decide +kernel
theorem d_M_has_13 : decode b_M_has 13 = .ok (.iconst 0, 1) := by decide +kernel
theorem d_M_has_14 : decode b_M_has 14 = .ok (.bipush 9, 2) := by decide +kernel
theorem d_M_has_16 : decode b_M_has 16 = .ok (.invokestatic 92, 3) := by decide +kernel
theorem d_M_has_19 : decode b_M_has 19 = .ok (.ifCond .eq 7, 3) := by decide +kernel
theorem d_M_has_22 : decode b_M_has 22 = .ok (.iconst 1, 1) := by decide +kernel
theorem d_M_has_23 : decode b_M_has 23 = .ok (.goto 4, 3) := by decide +kernel
theorem d_M_has_26 : decode b_M_has 26 = .ok (.iconst 0, 1) := by decide +kernel
theorem d_M_has_27 : decode b_M_has 27 = .ok (.istore 4, 2) := by decide +kernel
theorem d_M_has_29 : decode b_M_has 29 = .ok (.aload_n 0, 1) := by decide +kernel
theorem d_M_has_30 : decode b_M_has 30 = .ok (.iload 4, 2) := by decide +kernel
theorem d_M_has_32 : decode b_M_has 32 = .ok (.ifCond .eq 26, 3) := by decide +kernel
theorem d_M_has_35 : decode b_M_has 35 = .ok (.aload_n 0, 1) := by decide +kernel
theorem d_M_has_36 : decode b_M_has 36 = .ok (.getfield 63, 3) := by decide +kernel
theorem d_M_has_39 : decode b_M_has 39 = .ok (.iload_n 3, 1) := by decide +kernel
theorem d_M_has_40 : decode b_M_has 40 = .ok (.iaload, 1) := by decide +kernel
theorem d_M_has_41 : decode b_M_has 41 = .ok (.ifCond .eq 13, 3) := by decide +kernel
theorem d_M_has_44 : decode b_M_has 44 = .ok (.iload_n 2, 1) := by decide +kernel
theorem d_M_has_45 : decode b_M_has 45 = .ok (.aload_n 0, 1) := by decide +kernel
theorem d_M_has_46 : decode b_M_has 46 = .ok (.getfield 66, 3) := by decide +kernel
theorem d_M_has_49 : decode b_M_has 49 = .ok (.iload_n 3, 1) := by decide +kernel
theorem d_M_has_50 : decode b_M_has 50 = .ok (.iaload, 1) := by decide +kernel
theorem d_M_has_51 : decode b_M_has 51 = .ok (.if_icmp .ge 7, 3) := by decide +kernel
theorem d_M_has_54 : decode b_M_has 54 = .ok (.iconst 1, 1) := by decide +kernel
theorem d_M_has_55 : decode b_M_has 55 = .ok (.goto 4, 3) := by decide +kernel
theorem d_M_has_58 : decode b_M_has 58 = .ok (.iconst 0, 1) := by decide +kernel
theorem d_M_has_59 : decode b_M_has 59 = .ok (.iload 4, 2) := by decide +kernel
theorem d_M_has_61 : decode b_M_has 61 = .ok (.ifCond .eq 16, 3) := by decide +kernel
theorem d_M_has_64 : decode b_M_has 64 = .ok (.aload_n 0, 1) := by decide +kernel
theorem d_M_has_65 : decode b_M_has 65 = .ok (.getfield 63, 3) := by decide +kernel
theorem d_M_has_68 : decode b_M_has 68 = .ok (.iload_n 3, 1) := by decide +kernel
theorem d_M_has_69 : decode b_M_has 69 = .ok (.iaload, 1) := by decide +kernel
theorem d_M_has_70 : decode b_M_has 70 = .ok (.ifCond .le 7, 3) := by decide +kernel
theorem d_M_has_73 : decode b_M_has 73 = .ok (.iconst 1, 1) := by decide +kernel
theorem d_M_has_74 : decode b_M_has 74 = .ok (.goto 4, 3) := by decide +kernel
theorem d_M_has_77 : decode b_M_has 77 = .ok (.iconst 0, 1) := by decide +kernel
theorem d_M_has_78 : decode b_M_has 78 = .ok (.invokevirtual 102, 3) := by decide +kernel
theorem d_M_has_81 : decode b_M_has 81 = .ok (.ireturn, 1) := by decide +kernel
theorem cal_M_has : am_cal y_M_has b_M_has 5 ((Option.some FieldType.boolean)) 3 := ⟨Or.inl wx_876, wx_6, by decide, by decide +kernel⟩
abbrev y_M_share : MethodName := ⟨"BillSharesModel", "share", "(II)J"⟩
abbrev b_M_share : ByteArray := prog_6_method_34_code
theorem d_M_share_0 : decode b_M_share 0 = .ok (.aload_n 0, 1) := by decide +kernel
theorem d_M_share_1 : decode b_M_share 1 = .ok (.iconst 1, 1) := by decide +kernel
theorem d_M_share_2 : decode b_M_share 2 = .ok (.iload_n 1, 1) := by decide +kernel
theorem d_M_share_3 : decode b_M_share 3 = .ok (.iload_n 2, 1) := by decide +kernel
theorem d_M_share_4 : decode b_M_share 4 = .ok (.invokevirtual 166, 3) := by decide +kernel
theorem d_M_share_7 : decode b_M_share 7 = .ok (.ifCond .eq 12, 3) := by decide +kernel
theorem d_M_share_10 : decode b_M_share 10 = .ok (.aload_n 0, 1) := by decide +kernel
theorem d_M_share_11 : decode b_M_share 11 = .ok (.iload_n 1, 1) := by decide +kernel
theorem d_M_share_12 : decode b_M_share 12 = .ok (.iload_n 2, 1) := by decide +kernel
theorem d_M_share_13 : decode b_M_share 13 = .ok (.invokevirtual 150, 3) := by decide +kernel
theorem d_M_share_16 : decode b_M_share 16 = .ok (.goto 4, 3) := by decide +kernel
theorem d_M_share_19 : decode b_M_share 19 = .ok (.lconst 0, 1) := by decide +kernel
theorem d_M_share_20 : decode b_M_share 20 = .ok (.lreturn, 1) := by decide +kernel
theorem cal_M_share : am_cal y_M_share b_M_share 3 ((Option.some FieldType.long)) 2 := ⟨Or.inl wx_880, wx_6, by decide, by decide +kernel⟩
abbrev y_M_part : MethodName := ⟨"BillSharesModel", "part", "(III)J"⟩
abbrev b_M_part : ByteArray := prog_6_method_39_code
theorem d_M_part_0 : decode b_M_part 0 = .ok (.aload_n 0, 1) := by decide +kernel
theorem d_M_part_1 : decode b_M_part 1 = .ok (.aload_n 0, 1) := by decide +kernel
theorem d_M_part_2 : decode b_M_part 2 = .ok (.iload_n 1, 1) := by decide +kernel
theorem d_M_part_3 : decode b_M_part 3 = .ok (.invokevirtual 106, 3) := by decide +kernel
theorem d_M_part_6 : decode b_M_part 6 = .ok (.ifCond .eq 33, 3) := by decide +kernel
theorem d_M_part_9 : decode b_M_part 9 = .ok (.iload_n 2, 1) := by decide +kernel
theorem d_M_part_10 : decode b_M_part 10 = .ok (.ifCond .lt 29, 3) := by decide +kernel
theorem d_M_part_13 : decode b_M_part 13 = .ok (.iload_n 2, 1) := by decide +kernel
theorem d_M_part_14 : decode b_M_part 14 = .ok (.aload_n 0, 1) := by decide +kernel
theorem d_M_part_15 : decode b_M_part 15 = .ok (.getfield 16, 3) := by decide +kernel
theorem d_M_part_18 : decode b_M_part 18 = .ok (.aload_n 0, 1) := by decide +kernel
theorem d_M_part_19 : decode b_M_part 19 = .ok (.iload_n 1, 1) := by decide +kernel
theorem d_M_part_20 : decode b_M_part 20 = .ok (.invokevirtual 106, 3) := by decide +kernel
theorem d_M_part_23 : decode b_M_part 23 = .ok (.ifCond .eq 7, 3) := by decide +kernel
theorem d_M_part_26 : decode b_M_part 26 = .ok (.iload_n 1, 1) := by decide +kernel
theorem d_M_part_27 : decode b_M_part 27 = .ok (.goto 4, 3) := by decide +kernel
theorem d_M_part_30 : decode b_M_part 30 = .ok (.iconst 0, 1) := by decide +kernel
theorem d_M_part_31 : decode b_M_part 31 = .ok (.iaload, 1) := by decide +kernel
theorem d_M_part_32 : decode b_M_part 32 = .ok (.if_icmp .ge 7, 3) := by decide +kernel
theorem d_M_part_35 : decode b_M_part 35 = .ok (.iconst 1, 1) := by decide +kernel
theorem d_M_part_36 : decode b_M_part 36 = .ok (.goto 4, 3) := by decide +kernel
theorem d_M_part_39 : decode b_M_part 39 = .ok (.iconst 0, 1) := by decide +kernel
theorem d_M_part_40 : decode b_M_part 40 = .ok (.iload_n 1, 1) := by decide +kernel
theorem d_M_part_41 : decode b_M_part 41 = .ok (.iload_n 3, 1) := by decide +kernel
theorem d_M_part_42 : decode b_M_part 42 = .ok (.invokevirtual 166, 3) := by decide +kernel
theorem d_M_part_45 : decode b_M_part 45 = .ok (.ifCond .eq 13, 3) := by decide +kernel
theorem d_M_part_48 : decode b_M_part 48 = .ok (.aload_n 0, 1) := by decide +kernel
theorem d_M_part_49 : decode b_M_part 49 = .ok (.iload_n 1, 1) := by decide +kernel
theorem d_M_part_50 : decode b_M_part 50 = .ok (.iload_n 2, 1) := by decide +kernel
theorem d_M_part_51 : decode b_M_part 51 = .ok (.iload_n 3, 1) := by decide +kernel
theorem d_M_part_52 : decode b_M_part 52 = .ok (.invokevirtual 176, 3) := by decide +kernel
theorem d_M_part_55 : decode b_M_part 55 = .ok (.ifCond .ne 5, 3) := by decide +kernel
theorem d_M_part_58 : decode b_M_part 58 = .ok (.lconst 0, 1) := by decide +kernel
theorem d_M_part_59 : decode b_M_part 59 = .ok (.lreturn, 1) := by decide +kernel
theorem d_M_part_60 : decode b_M_part 60 = .ok (.iconst 1, 1) := by decide +kernel
theorem d_M_part_61 : decode b_M_part 61 = .ok (.istore 4, 2) := by decide +kernel
theorem d_M_part_63 : decode b_M_part 63 = .ok (.iload_n 2, 1) := by decide +kernel
theorem d_M_part_64 : decode b_M_part 64 = .ok (.iconst 1, 1) := by decide +kernel
theorem d_M_part_65 : decode b_M_part 65 = .ok (.iadd, 1) := by decide +kernel
theorem d_M_part_66 : decode b_M_part 66 = .ok (.istore 5, 2) := by decide +kernel
theorem d_M_part_68 : decode b_M_part 68 = .ok (.iload 5, 2) := by decide +kernel
theorem d_M_part_70 : decode b_M_part 70 = .ok (.aload_n 0, 1) := by decide +kernel
theorem d_M_part_71 : decode b_M_part 71 = .ok (.getfield 16, 3) := by decide +kernel
theorem d_M_part_74 : decode b_M_part 74 = .ok (.iload_n 1, 1) := by decide +kernel
theorem d_M_part_75 : decode b_M_part 75 = .ok (.iaload, 1) := by decide +kernel
theorem d_M_part_76 : decode b_M_part 76 = .ok (.if_icmp .ge 32, 3) := by decide +kernel
theorem d_M_part_79 : decode b_M_part 79 = .ok (.iload 4, 2) := by decide +kernel
theorem d_M_part_81 : decode b_M_part 81 = .ok (.ifCond .eq 18, 3) := by decide +kernel
theorem d_M_part_84 : decode b_M_part 84 = .ok (.aload_n 0, 1) := by decide +kernel
theorem d_M_part_85 : decode b_M_part 85 = .ok (.iload_n 1, 1) := by decide +kernel
theorem d_M_part_86 : decode b_M_part 86 = .ok (.iload 5, 2) := by decide +kernel
theorem d_M_part_88 : decode b_M_part 88 = .ok (.iload_n 3, 1) := by decide +kernel
theorem d_M_part_89 : decode b_M_part 89 = .ok (.invokevirtual 176, 3) := by decide +kernel
theorem d_M_part_92 : decode b_M_part 92 = .ok (.ifCond .ne 7, 3) := by decide +kernel
theorem d_M_part_95 : decode b_M_part 95 = .ok (.iconst 1, 1) := by decide +kernel
theorem d_M_part_96 : decode b_M_part 96 = .ok (.goto 4, 3) := by decide +kernel
theorem d_M_part_99 : decode b_M_part 99 = .ok (.iconst 0, 1) := by decide +kernel
theorem d_M_part_100 : decode b_M_part 100 = .ok (.istore 4, 2) := by decide +kernel
theorem d_M_part_102 : decode b_M_part 102 = .ok (.iinc 5 1, 3) := by decide +kernel
theorem d_M_part_105 : decode b_M_part 105 = .ok (.goto (-37), 3) := by decide +kernel
theorem d_M_part_108 : decode b_M_part 108 = .ok (.lconst 0, 1) := by decide +kernel
theorem d_M_part_109 : decode b_M_part 109 = .ok (.lstore 5, 2) := by decide +kernel
theorem d_M_part_111 : decode b_M_part 111 = .ok (.iconst 0, 1) := by decide +kernel
theorem d_M_part_112 : decode b_M_part 112 = .ok (.istore 7, 2) := by decide +kernel
theorem d_M_part_114 : decode b_M_part 114 = .ok (.iload 7, 2) := by decide +kernel
theorem d_M_part_116 : decode b_M_part 116 = .ok (.iconst 4, 1) := by decide +kernel
theorem d_M_part_117 : decode b_M_part 117 = .ok (.if_icmp .ge 23, 3) := by decide +kernel
theorem d_M_part_120 : decode b_M_part 120 = .ok (.lload 5, 2) := by decide +kernel
theorem d_M_part_122 : decode b_M_part 122 = .ok (.aload_n 0, 1) := by decide +kernel
theorem d_M_part_123 : decode b_M_part 123 = .ok (.iload_n 1, 1) := by decide +kernel
theorem d_M_part_124 : decode b_M_part 124 = .ok (.iload 7, 2) := by decide +kernel
theorem d_M_part_126 : decode b_M_part 126 = .ok (.iload_n 2, 1) := by decide +kernel
theorem d_M_part_127 : decode b_M_part 127 = .ok (.iload_n 3, 1) := by decide +kernel
theorem d_M_part_128 : decode b_M_part 128 = .ok (.invokevirtual 181, 3) := by decide +kernel
theorem d_M_part_131 : decode b_M_part 131 = .ok (.ladd, 1) := by decide +kernel
theorem d_M_part_132 : decode b_M_part 132 = .ok (.lstore 5, 2) := by decide +kernel
theorem d_M_part_134 : decode b_M_part 134 = .ok (.iinc 7 1, 3) := by decide +kernel
theorem d_M_part_137 : decode b_M_part 137 = .ok (.goto (-23), 3) := by decide +kernel
theorem d_M_part_140 : decode b_M_part 140 = .ok (.aload_n 0, 1) := by decide +kernel
theorem d_M_part_141 : decode b_M_part 141 = .ok (.iload_n 1, 1) := by decide +kernel
theorem d_M_part_142 : decode b_M_part 142 = .ok (.iload_n 3, 1) := by decide +kernel
theorem d_M_part_143 : decode b_M_part 143 = .ok (.invokevirtual 150, 3) := by decide +kernel
theorem d_M_part_146 : decode b_M_part 146 = .ok (.lstore 7, 2) := by decide +kernel
theorem d_M_part_148 : decode b_M_part 148 = .ok (.iconst 0, 1) := by decide +kernel
theorem d_M_part_149 : decode b_M_part 149 = .ok (.istore 9, 2) := by decide +kernel
theorem d_M_part_151 : decode b_M_part 151 = .ok (.iload 9, 2) := by decide +kernel
theorem d_M_part_153 : decode b_M_part 153 = .ok (.iconst 4, 1) := by decide +kernel
theorem d_M_part_154 : decode b_M_part 154 = .ok (.if_icmp .ge 44, 3) := by decide +kernel
theorem d_M_part_157 : decode b_M_part 157 = .ok (.iconst 0, 1) := by decide +kernel
theorem d_M_part_158 : decode b_M_part 158 = .ok (.istore 10, 2) := by decide +kernel
theorem d_M_part_160 : decode b_M_part 160 = .ok (.iload 10, 2) := by decide +kernel
theorem d_M_part_162 : decode b_M_part 162 = .ok (.aload_n 0, 1) := by decide +kernel
theorem d_M_part_163 : decode b_M_part 163 = .ok (.getfield 16, 3) := by decide +kernel
theorem d_M_part_166 : decode b_M_part 166 = .ok (.iload_n 1, 1) := by decide +kernel
theorem d_M_part_167 : decode b_M_part 167 = .ok (.iaload, 1) := by decide +kernel
theorem d_M_part_168 : decode b_M_part 168 = .ok (.if_icmp .ge 24, 3) := by decide +kernel
theorem d_M_part_171 : decode b_M_part 171 = .ok (.lload 7, 2) := by decide +kernel
theorem d_M_part_173 : decode b_M_part 173 = .ok (.aload_n 0, 1) := by decide +kernel
theorem d_M_part_174 : decode b_M_part 174 = .ok (.iload_n 1, 1) := by decide +kernel
theorem d_M_part_175 : decode b_M_part 175 = .ok (.iload 9, 2) := by decide +kernel
theorem d_M_part_177 : decode b_M_part 177 = .ok (.iload 10, 2) := by decide +kernel
theorem d_M_part_179 : decode b_M_part 179 = .ok (.iload_n 3, 1) := by decide +kernel
theorem d_M_part_180 : decode b_M_part 180 = .ok (.invokevirtual 181, 3) := by decide +kernel
theorem d_M_part_183 : decode b_M_part 183 = .ok (.lsub, 1) := by decide +kernel
theorem d_M_part_184 : decode b_M_part 184 = .ok (.lstore 7, 2) := by decide +kernel
theorem d_M_part_186 : decode b_M_part 186 = .ok (.iinc 10 1, 3) := by decide +kernel
theorem d_M_part_189 : decode b_M_part 189 = .ok (.goto (-29), 3) := by decide +kernel
theorem d_M_part_192 : decode b_M_part 192 = .ok (.iinc 9 1, 3) := by decide +kernel
theorem d_M_part_195 : decode b_M_part 195 = .ok (.goto (-44), 3) := by decide +kernel
theorem d_M_part_198 : decode b_M_part 198 = .ok (.lload 5, 2) := by decide +kernel
theorem d_M_part_200 : decode b_M_part 200 = .ok (.iload 4, 2) := by decide +kernel
theorem d_M_part_202 : decode b_M_part 202 = .ok (.ifCond .eq 8, 3) := by decide +kernel
theorem d_M_part_205 : decode b_M_part 205 = .ok (.lload 7, 2) := by decide +kernel
theorem d_M_part_207 : decode b_M_part 207 = .ok (.goto 4, 3) := by decide +kernel
theorem d_M_part_210 : decode b_M_part 210 = .ok (.lconst 0, 1) := by decide +kernel
theorem d_M_part_211 : decode b_M_part 211 = .ok (.ladd, 1) := by decide +kernel
theorem d_M_part_212 : decode b_M_part 212 = .ok (.lreturn, 1) := by decide +kernel
theorem cal_M_part : am_cal y_M_part b_M_part 11 ((Option.some FieldType.long)) 3 := ⟨Or.inl wx_884, wx_6, by decide, by decide +kernel⟩
abbrev y_M_days : MethodName := ⟨"BillSharesModel", "days", "(III)I"⟩
abbrev b_M_days : ByteArray := prog_6_method_37_code
theorem d_M_days_0 : decode b_M_days 0 = .ok (.aload_n 0, 1) := by decide +kernel
theorem d_M_days_1 : decode b_M_days 1 = .ok (.iload_n 1, 1) := by decide +kernel
theorem d_M_days_2 : decode b_M_days 2 = .ok (.iload_n 2, 1) := by decide +kernel
theorem d_M_days_3 : decode b_M_days 3 = .ok (.iload_n 3, 1) := by decide +kernel
theorem d_M_days_4 : decode b_M_days 4 = .ok (.invokevirtual 170, 3) := by decide +kernel
theorem d_M_days_7 : decode b_M_days 7 = .ok (.aload_n 0, 1) := by decide +kernel
theorem d_M_days_8 : decode b_M_days 8 = .ok (.iload_n 1, 1) := by decide +kernel
theorem d_M_days_9 : decode b_M_days 9 = .ok (.iload_n 2, 1) := by decide +kernel
theorem d_M_days_10 : decode b_M_days 10 = .ok (.iload_n 3, 1) := by decide +kernel
theorem d_M_days_11 : decode b_M_days 11 = .ok (.invokevirtual 173, 3) := by decide +kernel
theorem d_M_days_14 : decode b_M_days 14 = .ok (.isub, 1) := by decide +kernel
theorem d_M_days_15 : decode b_M_days 15 = .ok (.istore 4, 2) := by decide +kernel
theorem d_M_days_17 : decode b_M_days 17 = .ok (.iload 4, 2) := by decide +kernel
theorem d_M_days_19 : decode b_M_days 19 = .ok (.ifCond .ge 7, 3) := by decide +kernel
theorem d_M_days_22 : decode b_M_days 22 = .ok (.iconst 0, 1) := by decide +kernel
theorem d_M_days_23 : decode b_M_days 23 = .ok (.goto 5, 3) := by decide +kernel
theorem d_M_days_26 : decode b_M_days 26 = .ok (.iload 4, 2) := by decide +kernel
theorem d_M_days_28 : decode b_M_days 28 = .ok (.ireturn, 1) := by decide +kernel
theorem cal_M_days : am_cal y_M_days b_M_days 5 ((Option.some FieldType.int)) 3 := ⟨Or.inl wx_888, wx_6, by decide, by decide +kernel⟩
abbrev y_M_end : MethodName := ⟨"BillSharesModel", "end", "(III)I"⟩
abbrev b_M_end : ByteArray := prog_6_method_36_code
theorem d_M_end_0 : decode b_M_end 0 = .ok (.iload_n 2, 1) := by decide +kernel
theorem d_M_end_1 : decode b_M_end 1 = .ok (.iconst 1, 1) := by decide +kernel
theorem d_M_end_2 : decode b_M_end 2 = .ok (.iadd, 1) := by decide +kernel
theorem d_M_end_3 : decode b_M_end 3 = .ok (.aload_n 0, 1) := by decide +kernel
theorem d_M_end_4 : decode b_M_end 4 = .ok (.getfield 16, 3) := by decide +kernel
theorem d_M_end_7 : decode b_M_end 7 = .ok (.iload_n 1, 1) := by decide +kernel
theorem d_M_end_8 : decode b_M_end 8 = .ok (.iaload, 1) := by decide +kernel
theorem d_M_end_9 : decode b_M_end 9 = .ok (.if_icmp .ge 19, 3) := by decide +kernel
theorem d_M_end_12 : decode b_M_end 12 = .ok (.aload_n 0, 1) := by decide +kernel
theorem d_M_end_13 : decode b_M_end 13 = .ok (.getfield 19, 3) := by decide +kernel
theorem d_M_end_16 : decode b_M_end 16 = .ok (.bipush 12, 2) := by decide +kernel
theorem d_M_end_18 : decode b_M_end 18 = .ok (.iload_n 1, 1) := by decide +kernel
theorem d_M_end_19 : decode b_M_end 19 = .ok (.imul, 1) := by decide +kernel
theorem d_M_end_20 : decode b_M_end 20 = .ok (.iload_n 2, 1) := by decide +kernel
theorem d_M_end_21 : decode b_M_end 21 = .ok (.iadd, 1) := by decide +kernel
theorem d_M_end_22 : decode b_M_end 22 = .ok (.iconst 1, 1) := by decide +kernel
theorem d_M_end_23 : decode b_M_end 23 = .ok (.iadd, 1) := by decide +kernel
theorem d_M_end_24 : decode b_M_end 24 = .ok (.iaload, 1) := by decide +kernel
theorem d_M_end_25 : decode b_M_end 25 = .ok (.goto 12, 3) := by decide +kernel
theorem d_M_end_28 : decode b_M_end 28 = .ok (.sipush 365, 3) := by decide +kernel
theorem d_M_end_31 : decode b_M_end 31 = .ok (.iload_n 3, 1) := by decide +kernel
theorem d_M_end_32 : decode b_M_end 32 = .ok (.imul, 1) := by decide +kernel
theorem d_M_end_33 : decode b_M_end 33 = .ok (.sipush 365, 3) := by decide +kernel
theorem d_M_end_36 : decode b_M_end 36 = .ok (.iadd, 1) := by decide +kernel
theorem d_M_end_37 : decode b_M_end 37 = .ok (.istore 4, 2) := by decide +kernel
theorem d_M_end_39 : decode b_M_end 39 = .ok (.iload 4, 2) := by decide +kernel
theorem d_M_end_41 : decode b_M_end 41 = .ok (.sipush 365, 3) := by decide +kernel
theorem d_M_end_44 : decode b_M_end 44 = .ok (.iload_n 3, 1) := by decide +kernel
theorem d_M_end_45 : decode b_M_end 45 = .ok (.imul, 1) := by decide +kernel
theorem d_M_end_46 : decode b_M_end 46 = .ok (.sipush 365, 3) := by decide +kernel
theorem d_M_end_49 : decode b_M_end 49 = .ok (.iadd, 1) := by decide +kernel
theorem d_M_end_50 : decode b_M_end 50 = .ok (.if_icmp .ge 8, 3) := by decide +kernel
theorem d_M_end_53 : decode b_M_end 53 = .ok (.iload 4, 2) := by decide +kernel
theorem d_M_end_55 : decode b_M_end 55 = .ok (.goto 12, 3) := by decide +kernel
theorem d_M_end_58 : decode b_M_end 58 = .ok (.sipush 365, 3) := by decide +kernel
theorem d_M_end_61 : decode b_M_end 61 = .ok (.iload_n 3, 1) := by decide +kernel
theorem d_M_end_62 : decode b_M_end 62 = .ok (.imul, 1) := by decide +kernel
theorem d_M_end_63 : decode b_M_end 63 = .ok (.sipush 365, 3) := by decide +kernel
theorem d_M_end_66 : decode b_M_end 66 = .ok (.iadd, 1) := by decide +kernel
theorem d_M_end_67 : decode b_M_end 67 = .ok (.ireturn, 1) := by decide +kernel
theorem cal_M_end : am_cal y_M_end b_M_end 5 ((Option.some FieldType.int)) 3 := ⟨Or.inl wx_892, wx_6, by decide, by decide +kernel⟩
abbrev y_M_begin : MethodName := ⟨"BillSharesModel", "begin", "(III)I"⟩
abbrev b_M_begin : ByteArray := prog_6_method_35_code
theorem d_M_begin_0 : decode b_M_begin 0 = .ok (.aload_n 0, 1) := by decide +kernel
theorem d_M_begin_1 : decode b_M_begin 1 = .ok (.getfield 19, 3) := by decide +kernel
theorem d_M_begin_4 : decode b_M_begin 4 = .ok (.bipush 12, 2) := by decide +kernel
theorem d_M_begin_6 : decode b_M_begin 6 = .ok (.iload_n 1, 1) := by decide +kernel
theorem d_M_begin_7 : decode b_M_begin 7 = .ok (.imul, 1) := by decide +kernel
theorem d_M_begin_8 : decode b_M_begin 8 = .ok (.iload_n 2, 1) := by decide +kernel
theorem d_M_begin_9 : decode b_M_begin 9 = .ok (.iadd, 1) := by decide +kernel
theorem d_M_begin_10 : decode b_M_begin 10 = .ok (.iaload, 1) := by decide +kernel
theorem d_M_begin_11 : decode b_M_begin 11 = .ok (.istore 4, 2) := by decide +kernel
theorem d_M_begin_13 : decode b_M_begin 13 = .ok (.iload 4, 2) := by decide +kernel
theorem d_M_begin_15 : decode b_M_begin 15 = .ok (.sipush 365, 3) := by decide +kernel
theorem d_M_begin_18 : decode b_M_begin 18 = .ok (.iload_n 3, 1) := by decide +kernel
theorem d_M_begin_19 : decode b_M_begin 19 = .ok (.imul, 1) := by decide +kernel
theorem d_M_begin_20 : decode b_M_begin 20 = .ok (.if_icmp .le 8, 3) := by decide +kernel
theorem d_M_begin_23 : decode b_M_begin 23 = .ok (.iload 4, 2) := by decide +kernel
theorem d_M_begin_25 : decode b_M_begin 25 = .ok (.goto 8, 3) := by decide +kernel
theorem d_M_begin_28 : decode b_M_begin 28 = .ok (.sipush 365, 3) := by decide +kernel
theorem d_M_begin_31 : decode b_M_begin 31 = .ok (.iload_n 3, 1) := by decide +kernel
theorem d_M_begin_32 : decode b_M_begin 32 = .ok (.imul, 1) := by decide +kernel
theorem d_M_begin_33 : decode b_M_begin 33 = .ok (.ireturn, 1) := by decide +kernel
theorem cal_M_begin : am_cal y_M_begin b_M_begin 5 ((Option.some FieldType.int)) 3 := ⟨Or.inl wx_896, wx_6, by decide, by decide +kernel⟩
abbrev y_M_own : MethodName := ⟨"BillSharesModel", "own", "(IIII)J"⟩
abbrev b_M_own : ByteArray := prog_6_method_38_code
theorem d_M_own_0 : decode b_M_own 0 = .ok (.aload_n 0, 1) := by decide +kernel
theorem d_M_own_1 : decode b_M_own 1 = .ok (.iload_n 1, 1) := by decide +kernel
theorem d_M_own_2 : decode b_M_own 2 = .ok (.iload_n 3, 1) := by decide +kernel
theorem d_M_own_3 : decode b_M_own 3 = .ok (.iload 4, 2) := by decide +kernel
theorem d_M_own_5 : decode b_M_own 5 = .ok (.invokevirtual 176, 3) := by decide +kernel
theorem d_M_own_8 : decode b_M_own 8 = .ok (.istore 5, 2) := by decide +kernel
theorem d_M_own_10 : decode b_M_own 10 = .ok (.bipush 80, 2) := by decide +kernel
theorem d_M_own_12 : decode b_M_own 12 = .ok (.iload 4, 2) := by decide +kernel
theorem d_M_own_14 : decode b_M_own 14 = .ok (.imul, 1) := by decide +kernel
theorem d_M_own_15 : decode b_M_own 15 = .ok (.iconst 4, 1) := by decide +kernel
theorem d_M_own_16 : decode b_M_own 16 = .ok (.iload_n 1, 1) := by decide +kernel
theorem d_M_own_17 : decode b_M_own 17 = .ok (.imul, 1) := by decide +kernel
theorem d_M_own_18 : decode b_M_own 18 = .ok (.iadd, 1) := by decide +kernel
theorem d_M_own_19 : decode b_M_own 19 = .ok (.iload_n 2, 1) := by decide +kernel
theorem d_M_own_20 : decode b_M_own 20 = .ok (.iadd, 1) := by decide +kernel
theorem d_M_own_21 : decode b_M_own 21 = .ok (.istore 6, 2) := by decide +kernel
theorem d_M_own_23 : decode b_M_own 23 = .ok (.aload_n 0, 1) := by decide +kernel
theorem d_M_own_24 : decode b_M_own 24 = .ok (.getfield 72, 3) := by decide +kernel
theorem d_M_own_27 : decode b_M_own 27 = .ok (.iload 6, 2) := by decide +kernel
theorem d_M_own_29 : decode b_M_own 29 = .ok (.laload, 1) := by decide +kernel
theorem d_M_own_30 : decode b_M_own 30 = .ok (.iload 5, 2) := by decide +kernel
theorem d_M_own_32 : decode b_M_own 32 = .ok (.i2l, 1) := by decide +kernel
theorem d_M_own_33 : decode b_M_own 33 = .ok (.ldc2_w 179, 3) := by decide +kernel
theorem d_M_own_36 : decode b_M_own 36 = .ok (.invokestatic 131, 3) := by decide +kernel
theorem d_M_own_39 : decode b_M_own 39 = .ok (.lstore 7, 2) := by decide +kernel
theorem d_M_own_41 : decode b_M_own 41 = .ok (.aload_n 0, 1) := by decide +kernel
theorem d_M_own_42 : decode b_M_own 42 = .ok (.iload_n 1, 1) := by decide +kernel
theorem d_M_own_43 : decode b_M_own 43 = .ok (.iload_n 2, 1) := by decide +kernel
theorem d_M_own_44 : decode b_M_own 44 = .ok (.iload 4, 2) := by decide +kernel
theorem d_M_own_46 : decode b_M_own 46 = .ok (.invokevirtual 139, 3) := by decide +kernel
theorem d_M_own_49 : decode b_M_own 49 = .ok (.ifCond .le 7, 3) := by decide +kernel
theorem d_M_own_52 : decode b_M_own 52 = .ok (.lconst 0, 1) := by decide +kernel
theorem d_M_own_53 : decode b_M_own 53 = .ok (.goto 25, 3) := by decide +kernel
theorem d_M_own_56 : decode b_M_own 56 = .ok (.aload_n 0, 1) := by decide +kernel
theorem d_M_own_57 : decode b_M_own 57 = .ok (.iload_n 1, 1) := by decide +kernel
theorem d_M_own_58 : decode b_M_own 58 = .ok (.iload_n 2, 1) := by decide +kernel
theorem d_M_own_59 : decode b_M_own 59 = .ok (.sipush 365, 3) := by decide +kernel
theorem d_M_own_62 : decode b_M_own 62 = .ok (.iload 4, 2) := by decide +kernel
theorem d_M_own_64 : decode b_M_own 64 = .ok (.imul, 1) := by decide +kernel
theorem d_M_own_65 : decode b_M_own 65 = .ok (.sipush 365, 3) := by decide +kernel
theorem d_M_own_68 : decode b_M_own 68 = .ok (.iload 4, 2) := by decide +kernel
theorem d_M_own_70 : decode b_M_own 70 = .ok (.imul, 1) := by decide +kernel
theorem d_M_own_71 : decode b_M_own 71 = .ok (.sipush 365, 3) := by decide +kernel
theorem d_M_own_74 : decode b_M_own 74 = .ok (.iadd, 1) := by decide +kernel
theorem d_M_own_75 : decode b_M_own 75 = .ok (.invokevirtual 143, 3) := by decide +kernel
theorem d_M_own_78 : decode b_M_own 78 = .ok (.lstore 9, 2) := by decide +kernel
theorem d_M_own_80 : decode b_M_own 80 = .ok (.lload 9, 2) := by decide +kernel
theorem d_M_own_82 : decode b_M_own 82 = .ok (.lconst 0, 1) := by decide +kernel
theorem d_M_own_83 : decode b_M_own 83 = .ok (.lcmp, 1) := by decide +kernel
theorem d_M_own_84 : decode b_M_own 84 = .ok (.ifCond .ne 23, 3) := by decide +kernel
theorem d_M_own_87 : decode b_M_own 87 = .ok (.lload 7, 2) := by decide +kernel
theorem d_M_own_89 : decode b_M_own 89 = .ok (.aload_n 0, 1) := by decide +kernel
theorem d_M_own_90 : decode b_M_own 90 = .ok (.getfield 75, 3) := by decide +kernel
theorem d_M_own_93 : decode b_M_own 93 = .ok (.iload 6, 2) := by decide +kernel
theorem d_M_own_95 : decode b_M_own 95 = .ok (.laload, 1) := by decide +kernel
theorem d_M_own_96 : decode b_M_own 96 = .ok (.iload 5, 2) := by decide +kernel
theorem d_M_own_98 : decode b_M_own 98 = .ok (.i2l, 1) := by decide +kernel
theorem d_M_own_99 : decode b_M_own 99 = .ok (.ldc2_w 179, 3) := by decide +kernel
theorem d_M_own_102 : decode b_M_own 102 = .ok (.invokestatic 131, 3) := by decide +kernel
theorem d_M_own_105 : decode b_M_own 105 = .ok (.ladd, 1) := by decide +kernel
theorem d_M_own_106 : decode b_M_own 106 = .ok (.lreturn, 1) := by decide +kernel
theorem d_M_own_107 : decode b_M_own 107 = .ok (.iload 5, 2) := by decide +kernel
theorem d_M_own_109 : decode b_M_own 109 = .ok (.ifCond .ne 8, 3) := by decide +kernel
theorem d_M_own_112 : decode b_M_own 112 = .ok (.lload 7, 2) := by decide +kernel
theorem d_M_own_114 : decode b_M_own 114 = .ok (.goto 40, 3) := by decide +kernel
theorem d_M_own_117 : decode b_M_own 117 = .ok (.lload 7, 2) := by decide +kernel
theorem d_M_own_119 : decode b_M_own 119 = .ok (.aload_n 0, 1) := by decide +kernel
theorem d_M_own_120 : decode b_M_own 120 = .ok (.getfield 75, 3) := by decide +kernel
theorem d_M_own_123 : decode b_M_own 123 = .ok (.iload 6, 2) := by decide +kernel
theorem d_M_own_125 : decode b_M_own 125 = .ok (.laload, 1) := by decide +kernel
theorem d_M_own_126 : decode b_M_own 126 = .ok (.aload_n 0, 1) := by decide +kernel
theorem d_M_own_127 : decode b_M_own 127 = .ok (.iload_n 1, 1) := by decide +kernel
theorem d_M_own_128 : decode b_M_own 128 = .ok (.iload_n 2, 1) := by decide +kernel
theorem d_M_own_129 : decode b_M_own 129 = .ok (.aload_n 0, 1) := by decide +kernel
theorem d_M_own_130 : decode b_M_own 130 = .ok (.iload_n 1, 1) := by decide +kernel
theorem d_M_own_131 : decode b_M_own 131 = .ok (.iload_n 3, 1) := by decide +kernel
theorem d_M_own_132 : decode b_M_own 132 = .ok (.iload 4, 2) := by decide +kernel
theorem d_M_own_134 : decode b_M_own 134 = .ok (.invokevirtual 173, 3) := by decide +kernel
theorem d_M_own_137 : decode b_M_own 137 = .ok (.aload_n 0, 1) := by decide +kernel
theorem d_M_own_138 : decode b_M_own 138 = .ok (.iload_n 1, 1) := by decide +kernel
theorem d_M_own_139 : decode b_M_own 139 = .ok (.iload_n 3, 1) := by decide +kernel
theorem d_M_own_140 : decode b_M_own 140 = .ok (.iload 4, 2) := by decide +kernel
theorem d_M_own_142 : decode b_M_own 142 = .ok (.invokevirtual 170, 3) := by decide +kernel
theorem d_M_own_145 : decode b_M_own 145 = .ok (.invokevirtual 143, 3) := by decide +kernel
theorem d_M_own_148 : decode b_M_own 148 = .ok (.lload 9, 2) := by decide +kernel
theorem d_M_own_150 : decode b_M_own 150 = .ok (.invokestatic 131, 3) := by decide +kernel
theorem d_M_own_153 : decode b_M_own 153 = .ok (.ladd, 1) := by decide +kernel
theorem d_M_own_154 : decode b_M_own 154 = .ok (.lreturn, 1) := by decide +kernel
theorem cal_M_own : am_cal y_M_own b_M_own 11 ((Option.some FieldType.long)) 4 := ⟨Or.inl wx_900, wx_6, by decide, by decide +kernel⟩
abbrev y_M_balance : MethodName := ⟨"BillSharesModel", "balance", "(II)J"⟩
abbrev b_M_balance : ByteArray := prog_6_method_40_code
theorem d_M_balance_0 : decode b_M_balance 0 = .ok (.aload_n 0, 1) := by decide +kernel
theorem d_M_balance_1 : decode b_M_balance 1 = .ok (.iconst 1, 1) := by decide +kernel
theorem d_M_balance_2 : decode b_M_balance 2 = .ok (.iload_n 1, 1) := by decide +kernel
theorem d_M_balance_3 : decode b_M_balance 3 = .ok (.iload_n 2, 1) := by decide +kernel
theorem d_M_balance_4 : decode b_M_balance 4 = .ok (.invokevirtual 166, 3) := by decide +kernel
theorem d_M_balance_7 : decode b_M_balance 7 = .ok (.ifCond .eq 24, 3) := by decide +kernel
theorem d_M_balance_10 : decode b_M_balance 10 = .ok (.aload_n 0, 1) := by decide +kernel
theorem d_M_balance_11 : decode b_M_balance 11 = .ok (.iload_n 1, 1) := by decide +kernel
theorem d_M_balance_12 : decode b_M_balance 12 = .ok (.iload_n 2, 1) := by decide +kernel
theorem d_M_balance_13 : decode b_M_balance 13 = .ok (.invokevirtual 150, 3) := by decide +kernel
theorem d_M_balance_16 : decode b_M_balance 16 = .ok (.aload_n 0, 1) := by decide +kernel
theorem d_M_balance_17 : decode b_M_balance 17 = .ok (.getfield 22, 3) := by decide +kernel
theorem d_M_balance_20 : decode b_M_balance 20 = .ok (.bipush 10, 2) := by decide +kernel
theorem d_M_balance_22 : decode b_M_balance 22 = .ok (.iload_n 1, 1) := by decide +kernel
theorem d_M_balance_23 : decode b_M_balance 23 = .ok (.imul, 1) := by decide +kernel
theorem d_M_balance_24 : decode b_M_balance 24 = .ok (.iload_n 2, 1) := by decide +kernel
theorem d_M_balance_25 : decode b_M_balance 25 = .ok (.iadd, 1) := by decide +kernel
theorem d_M_balance_26 : decode b_M_balance 26 = .ok (.laload, 1) := by decide +kernel
theorem d_M_balance_27 : decode b_M_balance 27 = .ok (.lsub, 1) := by decide +kernel
theorem d_M_balance_28 : decode b_M_balance 28 = .ok (.goto 4, 3) := by decide +kernel
theorem d_M_balance_31 : decode b_M_balance 31 = .ok (.lconst 0, 1) := by decide +kernel
theorem d_M_balance_32 : decode b_M_balance 32 = .ok (.lreturn, 1) := by decide +kernel
theorem cal_M_balance : am_cal y_M_balance b_M_balance 3 ((Option.some FieldType.long)) 2 := ⟨Or.inl wx_905, wx_6, by decide, by decide +kernel⟩
abbrev y_M_difference : MethodName := ⟨"BillSharesModel", "difference", "(II)J"⟩
abbrev b_M_difference : ByteArray := prog_6_method_41_code
theorem d_M_difference_0 : decode b_M_difference 0 = .ok (.aload_n 0, 1) := by decide +kernel
theorem d_M_difference_1 : decode b_M_difference 1 = .ok (.iconst 1, 1) := by decide +kernel
theorem d_M_difference_2 : decode b_M_difference 2 = .ok (.iload_n 1, 1) := by decide +kernel
theorem d_M_difference_3 : decode b_M_difference 3 = .ok (.iload_n 2, 1) := by decide +kernel
theorem d_M_difference_4 : decode b_M_difference 4 = .ok (.invokevirtual 166, 3) := by decide +kernel
theorem d_M_difference_7 : decode b_M_difference 7 = .ok (.ifCond .eq 13, 3) := by decide +kernel
theorem d_M_difference_10 : decode b_M_difference 10 = .ok (.aload_n 0, 1) := by decide +kernel
theorem d_M_difference_11 : decode b_M_difference 11 = .ok (.getfield 63, 3) := by decide +kernel
theorem d_M_difference_14 : decode b_M_difference 14 = .ok (.iload_n 2, 1) := by decide +kernel
theorem d_M_difference_15 : decode b_M_difference 15 = .ok (.iaload, 1) := by decide +kernel
theorem d_M_difference_16 : decode b_M_difference 16 = .ok (.iconst 1, 1) := by decide +kernel
theorem d_M_difference_17 : decode b_M_difference 17 = .ok (.if_icmp .ne 5, 3) := by decide +kernel
theorem d_M_difference_20 : decode b_M_difference 20 = .ok (.lconst 0, 1) := by decide +kernel
theorem d_M_difference_21 : decode b_M_difference 21 = .ok (.lreturn, 1) := by decide +kernel
theorem d_M_difference_22 : decode b_M_difference 22 = .ok (.aload_n 0, 1) := by decide +kernel
theorem d_M_difference_23 : decode b_M_difference 23 = .ok (.iload_n 1, 1) := by decide +kernel
theorem d_M_difference_24 : decode b_M_difference 24 = .ok (.iload_n 2, 1) := by decide +kernel
theorem d_M_difference_25 : decode b_M_difference 25 = .ok (.invokevirtual 150, 3) := by decide +kernel
theorem d_M_difference_28 : decode b_M_difference 28 = .ok (.iload_n 1, 1) := by decide +kernel
theorem d_M_difference_29 : decode b_M_difference 29 = .ok (.aload_n 0, 1) := by decide +kernel
theorem d_M_difference_30 : decode b_M_difference 30 = .ok (.getfield 69, 3) := by decide +kernel
theorem d_M_difference_33 : decode b_M_difference 33 = .ok (.iload_n 2, 1) := by decide +kernel
theorem d_M_difference_34 : decode b_M_difference 34 = .ok (.iaload, 1) := by decide +kernel
theorem d_M_difference_35 : decode b_M_difference 35 = .ok (.if_icmp .ge 17, 3) := by decide +kernel
theorem d_M_difference_38 : decode b_M_difference 38 = .ok (.aload_n 0, 1) := by decide +kernel
theorem d_M_difference_39 : decode b_M_difference 39 = .ok (.getfield 78, 3) := by decide +kernel
theorem d_M_difference_42 : decode b_M_difference 42 = .ok (.bipush 20, 2) := by decide +kernel
theorem d_M_difference_44 : decode b_M_difference 44 = .ok (.iload_n 2, 1) := by decide +kernel
theorem d_M_difference_45 : decode b_M_difference 45 = .ok (.imul, 1) := by decide +kernel
theorem d_M_difference_46 : decode b_M_difference 46 = .ok (.iload_n 1, 1) := by decide +kernel
theorem d_M_difference_47 : decode b_M_difference 47 = .ok (.iadd, 1) := by decide +kernel
theorem d_M_difference_48 : decode b_M_difference 48 = .ok (.laload, 1) := by decide +kernel
theorem d_M_difference_49 : decode b_M_difference 49 = .ok (.goto 4, 3) := by decide +kernel
theorem d_M_difference_52 : decode b_M_difference 52 = .ok (.lconst 0, 1) := by decide +kernel
theorem d_M_difference_53 : decode b_M_difference 53 = .ok (.lsub, 1) := by decide +kernel
theorem d_M_difference_54 : decode b_M_difference 54 = .ok (.lreturn, 1) := by decide +kernel
theorem cal_M_difference : am_cal y_M_difference b_M_difference 3 ((Option.some FieldType.long)) 2 := ⟨Or.inl wx_909, wx_6, by decide, by decide +kernel⟩
abbrev y_M_edition : MethodName := ⟨"BillSharesModel", "edition", "(I)I"⟩
abbrev b_M_edition : ByteArray := prog_6_method_42_code
theorem d_M_edition_0 : decode b_M_edition 0 = .ok (.aload_n 0, 1) := by decide +kernel
theorem d_M_edition_1 : decode b_M_edition 1 = .ok (.iload_n 1, 1) := by decide +kernel
theorem d_M_edition_2 : decode b_M_edition 2 = .ok (.iconst 0, 1) := by decide +kernel
theorem d_M_edition_3 : decode b_M_edition 3 = .ok (.bipush 9, 2) := by decide +kernel
theorem d_M_edition_5 : decode b_M_edition 5 = .ok (.invokestatic 92, 3) := by decide +kernel
theorem d_M_edition_8 : decode b_M_edition 8 = .ok (.iconst 1, 1) := by decide +kernel
theorem d_M_edition_9 : decode b_M_edition 9 = .ok (.invokevirtual 102, 3) := by decide +kernel
theorem d_M_edition_12 : decode b_M_edition 12 = .ok (.ifCond .eq 12, 3) := by decide +kernel
theorem d_M_edition_15 : decode b_M_edition 15 = .ok (.aload_n 0, 1) := by decide +kernel
theorem d_M_edition_16 : decode b_M_edition 16 = .ok (.getfield 63, 3) := by decide +kernel
theorem d_M_edition_19 : decode b_M_edition 19 = .ok (.iload_n 1, 1) := by decide +kernel
theorem d_M_edition_20 : decode b_M_edition 20 = .ok (.iaload, 1) := by decide +kernel
theorem d_M_edition_21 : decode b_M_edition 21 = .ok (.goto 4, 3) := by decide +kernel
theorem d_M_edition_24 : decode b_M_edition 24 = .ok (.iconst 0, 1) := by decide +kernel
theorem d_M_edition_25 : decode b_M_edition 25 = .ok (.ireturn, 1) := by decide +kernel
theorem cal_M_edition : am_cal y_M_edition b_M_edition 2 ((Option.some FieldType.int)) 1 := ⟨Or.inl wx_913, wx_6, by decide, by decide +kernel⟩
